abbrev e_h_commonDivisor_X8 : List (Nat × Nat) := []
set_option maxHeartbeats 4000000 in
set_option maxRecDepth 100000 in
theorem h_commonDivisor_X8 (l : Launch) (D : va_G) (g : Nat → ClassId) (σ : Nat → Option Nat) (Z : State → Heap → Prop) (hZ0 : hZ σ Z) (M : hM) (N : hN) (R : hR) (p0 : Int32) (p1 : Int32) : Met l yX8_commonDivisor wsX8_commonDivisor ({ frames := 0, cells := 0, slots := 0, locals := 0 }) (va_Pc [.int p0, .int p1] (hPre D g σ Z M N R)) (hQi D g σ e_h_commonDivisor_X8 M (fun (r : Int32) (M1 : hM) (N1 : hN) (R1 : hR) => M = M1 ∧ N = N1 ∧ R = R1)) 0 0 (hA σ) := by
  refine h_head (cc := cX8_commonDivisor) (maxL := 6) (ret := (some .int)) (by decide) rfl (Nat.le_of_ble_eq_true rfl) e_h_commonDivisor_X8 ?_
  intro p e s m below meth c ls Q ar hQ hx hb hr hlocks hml hown hts hK hE H locs hI hl
  have hown : s.vm.findClass RX8 = some m.cls := hown
  have hl : lv_has ls 6 [(0, .int p0), (1, .int p1)] := hl
  refine lv_iload_n hx hb dX8_commonDivisor_0 rfl (lv_at hl 0 rfl) ?_
  refine lv_istore_n (lv' := [(2, .int p0), (0, .int p0), (1, .int p1)]) hx hb dX8_commonDivisor_1 rfl hl (by decide) rfl (fun ls hl => ?_)
  refine lv_iload_n hx hb dX8_commonDivisor_2 rfl (lv_at hl 2 rfl) ?_
  refine lv_istore_n (lv' := [(3, .int p1), (2, .int p0), (0, .int p0), (1, .int p1)]) hx hb dX8_commonDivisor_3 rfl hl (by decide) rfl (fun ls hl => ?_)
  refine lv_iconst (v := 0) hx hb dX8_commonDivisor_4 (by decide) ?_
  have J7 : ∀ (n : Nat) (v2_7 : Int32) (v3_7 : Int32) (v4_7 : Int32) (H : Heap) (locs : List Loc) (ls : Array Slot), kI D g σ e_h_commonDivisor_X8 M s.heap M N R H locs → lv_has ls 6 [(2, .int v2_7), (3, .int v3_7), (4, .int v4_7)] → iv v4_7 0 64 → 65 ≤ v4_7.toInt + (n : Int) → W p l e (headSpec wsX8_commonDivisor ({ frames := 0, cells := 0, slots := 0, locals := 0 })).room s m ar below meth c H locs 0 0 Q (F0 m 7 ls []) := by
    intro n
    induction n with
    | zero => intro v2_7 v3_7 v4_7 H locs ls hI hl i_v4_7 hn; exfalso; have hz := i_v4_7; simp only [iv] at hz; omega
    | succ n ih7 =>
      intro v2_7 v3_7 v4_7 H locs ls hI hl i_v4_7 hn7
      refine lv_iload hx hb dX8_commonDivisor_7 (lv_at hl 2 rfl) ?_
      refine lv_bipush (v := 64) hx hb dX8_commonDivisor_9 (by decide) ?_
      refine lv_icmp_ge (tgt := 34) hx hb dX8_commonDivisor_11 (by decide) (fun c1 => ?_) (fun c1 => ?_)
      · have i2 : iv v4_7 64 64 := iv_le2 c1 kc_64 i_v4_7 (by decide)
        refine lv_iload_n hx hb dX8_commonDivisor_34 rfl (lv_at hl 0 rfl) ?_
        exact h_iret hQ hx hb hr hlocks rfl hK hI ⟨rfl, rfl, rfl⟩ dX8_commonDivisor_35
      · have i3 : iv v4_7 0 63 := iv_nle2 c1 kc_64 i_v4_7 (by decide)
        refine lv_iload_n hx hb dX8_commonDivisor_14 rfl (lv_at hl 1 rfl) ?_
        refine lv_if_eq (tgt := 34) hx hb dX8_commonDivisor_15 (by decide) (fun c4 => ?_) (fun c4 => ?_)
        · have i5 : iv v3_7 0 0 := iv_eq1 c4 (iv_any v3_7) kc_0
          refine lv_iload_n hx hb dX8_commonDivisor_34 rfl (lv_at hl 0 rfl) ?_
          exact h_iret hQ hx hb hr hlocks rfl hK hI ⟨rfl, rfl, rfl⟩ dX8_commonDivisor_35
        · refine lv_iload_n hx hb dX8_commonDivisor_18 rfl (lv_at hl 0 rfl) ?_
          refine lv_iload_n hx hb dX8_commonDivisor_19 rfl (lv_at hl 1 rfl) ?_
          refine lv_irem hx hb dX8_commonDivisor_20 c4 ?_
          refine h_nm (lo := (-2147483648)) (hi := 2147483647) (iv_any _) (fun v6 e_v6 i_v6 => ?_)
          refine lv_istore (lv' := [(5, .int v6), (2, .int v2_7), (3, .int v3_7), (4, .int v4_7)]) hx hb dX8_commonDivisor_21 hl (by decide) rfl (fun ls hl => ?_)
          refine lv_iload_n hx hb dX8_commonDivisor_23 rfl (lv_at hl 2 rfl) ?_
          refine lv_istore_n (lv' := [(2, .int v3_7), (5, .int v6), (3, .int v3_7), (4, .int v4_7)]) hx hb dX8_commonDivisor_24 rfl hl (by decide) rfl (fun ls hl => ?_)
          refine lv_iload hx hb dX8_commonDivisor_25 (lv_at hl 1 rfl) ?_
          refine lv_istore_n (lv' := [(3, .int v6), (2, .int v3_7), (5, .int v6), (4, .int v4_7)]) hx hb dX8_commonDivisor_27 rfl hl (by decide) rfl (fun ls hl => ?_)
          obtain ⟨v7, e_v7⟩ : ∃ z : Int32, z = v4_7 + Int32.ofInt 1 := ⟨_, rfl⟩
          have i_v7 : iv v7 1 64 := by rw [e_v7]; exact iv_add i3 (ki_1) (by decide) (by decide) (by decide) (by decide)
          refine lv_iinc (v := v7) (lv' := [(4, .int v7), (3, .int v6), (2, .int v3_7), (5, .int v6)]) hx hb dX8_commonDivisor_28 hl (k := 3) rfl e_v7.symm (by decide) rfl (fun ls hl => ?_)
          refine lv_goto (tgt := 7) hx hb dX8_commonDivisor_31 (by decide) ?_
          exact ih7 v3_7 v6 v7 H locs ls hI (lv_sub hl [2, 1, 0] rfl) (iv_w (lo' := 0) (hi' := 64) i_v7 (by decide) (by decide)) (by have h9 := (h_inc e_v7 i3 ki_1 (by decide) (by decide)); omega)
  refine lv_istore (lv' := [(4, .int (0 : Int32)), (3, .int p1), (2, .int p0), (0, .int p0), (1, .int p1)]) hx hb dX8_commonDivisor_5 hl (by decide) rfl (fun ls hl => ?_)
  exact J7 65 p0 p1 (0 : Int32) H locs ls hI (lv_sub hl [2, 1, 0] rfl) (iv_w (lo' := 0) (hi' := 64) kc_0 (by decide) (by decide)) (by have h9 := kc_0; simp only [iv] at h9; omega)
abbrev e_h_will_X8 : List (Nat × Nat) := [(7, 5), (7, 6), (7, 7), (12, 999), (13, 999), (14, 999), (18, 999)]
set_option maxHeartbeats 4000000 in
set_option maxRecDepth 100000 in
theorem h_will_X8 (l : Launch) (D : va_G) (g : Nat → ClassId) (σ : Nat → Option Nat) (Z : State → Heap → Prop) (hZ0 : hZ σ Z) (M : hM) (N : hN) (R : hR) (x : Nat) (g_x : σ x = some 8) (p1 : Int32) (p2 : Int32) (p3 : Int32) : Met l yX8_will wsX8_will ({ frames := 5, cells := 0, slots := 0, locals := 117 }) (va_Pc [.ref x, .int p1, .int p2, .int p3] (hPre D g σ Z M N R)) (hQi D g σ e_h_will_X8 M (fun (r : Int32) (M1 : hM) (N1 : hN) (R1 : hR) => N = N1 ∧ R = R1 ∧ iv r (-2) 7)) 0 0 (hA σ) := by
  refine h_head (cc := cX8_will) (maxL := 6) (ret := (some .int)) (by decide) rfl (Nat.le_of_ble_eq_true rfl) e_h_will_X8 ?_
  intro p e s m below meth c ls Q ar hQ hx hb hr hlocks hml hown hts hK hE H locs hI hl
  have hown : s.vm.findClass RX8 = some m.cls := hown
  have hl : lv_has ls 6 [(0, .ref x), (1, .int p1), (2, .int p2), (3, .int p3)] := hl
  refine lv_aload_n hx hb dX8_will_0 rfl (lv_at hl 0 rfl) ?_
  refine lv_iload_n hx hb dX8_will_1 rfl (lv_at hl 1 rfl) ?_
  refine h_goi hI (by decide) (va_runV (As := [.int p1]) (rest := []) ⟨hx, hb, hml, hown, hts⟩ (h_isTenant_X8 l D g σ Z hZ0 M N R x g_x p1) (cwV 1 hts gX8_will_X8_isTenant rfl rfl rfl (by decide +kernel) ⟨Nat.le_of_ble_eq_true rfl, Nat.le_of_ble_eq_true rfl⟩) (h_preV hZ0 hK hE hI g_x (by decide) rfl) rfl rfl hl.1 rfl (lv_room (Nat.le_of_ble_eq_true rfl)) dX8_will_2 ⟨Nat.le_of_ble_eq_true rfl, Nat.le_of_ble_eq_true rfl⟩) (fun r1 M2 N3 R4 H locs q5 z_M2 hI => ?_)
  obtain ⟨rfl, rfl, rfl, i_r1, z6⟩ := q5
  refine lv_if_eq (tgt := 18) hx hb dX8_will_5 (by decide) (fun c7 => ?_) (fun c7 => ?_)
  · have i8 : iv r1 0 0 := iv_eq1 c7 i_r1 kc_0
    refine lv_bipush (v := (-2)) hx hb dX8_will_18 (by decide) ?_
    exact h_iret hQ hx hb hr hlocks rfl hK hI ⟨rfl, rfl, (iv_w (lo' := (-2)) (hi' := 7) kc_m2 (by decide) (by decide))⟩ dX8_will_20
  · have i9 : iv p1 0 6 := z6 c7
    have i10 : iv r1 1 1 := iv_neL c7 i_r1 (by decide) (by decide)
    refine lv_iload_n hx hb dX8_will_8 rfl (lv_at hl 2 rfl) ?_
    refine lv_if_lt (tgt := 18) hx hb dX8_will_9 (by decide) (fun c11 => ?_) (fun c11 => ?_)
    · have i12 : iv p2 (-2147483648) (-1) := iv_lt1 c11 (iv_any p2) kc_0 (by decide)
      refine lv_bipush (v := (-2)) hx hb dX8_will_18 (by decide) ?_
      exact h_iret hQ hx hb hr hlocks rfl hK hI ⟨rfl, rfl, (iv_w (lo' := (-2)) (hi' := 7) kc_m2 (by decide) (by decide))⟩ dX8_will_20
    · have i13 : iv p2 0 2147483647 := iv_nlt1 c11 (iv_any p2) kc_0 (by decide)
      refine lv_iload_n hx hb dX8_will_12 rfl (lv_at hl 2 rfl) ?_
      refine lv_bipush (v := 60) hx hb dX8_will_13 (by decide) ?_
      refine lv_icmp_le (tgt := 21) hx hb dX8_will_15 (by decide) (fun c14 => ?_) (fun c14 => ?_)
      · have i15 : iv p2 0 60 := iv_le1 c14 i13 kc_60 (by decide)
        refine lv_aload_n hx hb dX8_will_21 rfl (lv_at hl 0 rfl) ?_
        refine h_getr hx hb hts iX8_will_X8 hown hK hI g_x (by decide) rfl rfl 4 (by decide) rfl 0 rfl (hts (.fieldLink RX8 34 "CatLeases" "acts" "LCatLeases$Acts;") (List.mem_of_getElem? (i := 1) rfl)) (fun _ h9 => h9) dX8_will_22 (fun a16 e_a16 g_a16 => ?_)
        refine h_gor hI (by decide) (va_runV (As := []) (rest := []) ⟨hx, hb, hml, hown, hts⟩ (h_current_X0 l D g σ Z hZ0 M N R a16 g_a16) (cwV 0 hts gX8_will_X0_current rfl rfl rfl (by decide +kernel) ⟨Nat.le_of_ble_eq_true rfl, Nat.le_of_ble_eq_true rfl⟩) (h_preV hZ0 hK hE hI g_a16 (by decide) rfl) rfl rfl hl.1 rfl (lv_room (Nat.le_of_ble_eq_true rfl)) dX8_will_25 ⟨Nat.le_of_ble_eq_true rfl, Nat.le_of_ble_eq_true rfl⟩) (fun a17 M18 N19 R20 H locs q21 z_M18 hI => ?_)
        obtain ⟨rfl, rfl, rfl, g_a17⟩ := q21
        refine lv_astore (lv' := [(4, .ref a17), (0, .ref x), (1, .int p1), (2, .int p2), (3, .int p3)]) hx hb dX8_will_28 hl (by decide) rfl (fun ls hl => ?_)
        refine lv_iload_n hx hb dX8_will_30 rfl (lv_at hl 4 rfl) ?_
        refine lv_if_ne (tgt := 61) hx hb dX8_will_31 (by decide) (fun c22 => ?_) (fun c22 => ?_)
        · refine lv_iload_n hx hb dX8_will_61 rfl (lv_at hl 4 rfl) ?_
          refine lv_iconst (v := 1) hx hb dX8_will_62 (by decide) ?_
          refine lv_icmp_eq (tgt := 69) hx hb dX8_will_63 (by decide) (fun c23 => ?_) (fun c23 => ?_)
          · have i24 : iv p3 1 1 := iv_eq1 c23 (iv_any p3) kc_1
            refine lv_aload_n hx hb dX8_will_69 rfl (lv_at hl 1 rfl) ?_
            refine h_getr hx hb hts iX8_will_X8 hown hK hI g_x (by decide) rfl rfl 5 (by decide) rfl 7 rfl (hts (.fieldLink RX8 41 "CatLeases" "ahead" "LCatLeases$State;") (List.mem_of_getElem? (i := 4) rfl)) (fun _ h9 => h9) dX8_will_70 (fun a25 e_a25 g_a25 => ?_)
            refine lv_aload hx hb dX8_will_73 (lv_at hl 0 rfl) ?_
            refine h_gov hI (by decide) (va_runV (As := [.ref a17]) (rest := []) ⟨hx, hb, hml, hown, hts⟩ (h_copyOf_X7 l D g σ Z hZ0 M N R a25 g_a25 a17 g_a17) (cwV 1 hts gX8_will_X7_copyOf rfl rfl rfl (by decide +kernel) ⟨Nat.le_of_ble_eq_true rfl, Nat.le_of_ble_eq_true rfl⟩) (h_preV hZ0 hK hE hI g_a25 (by decide) rfl) rfl rfl hl.1 rfl (lv_room (Nat.le_of_ble_eq_true rfl)) dX8_will_75 ⟨Nat.le_of_ble_eq_true rfl, Nat.le_of_ble_eq_true rfl⟩) (fun M27 N28 R29 H locs q30 z_M27 hI => ?_)
            obtain ⟨rfl, rfl⟩ := q30
            refine lv_iconst (v := 0) hx hb dX8_will_78 (by decide) ?_
            have J81 : ∀ (n : Nat) (M_81 : hM) (v5_81 : Int32) (H : Heap) (locs : List Loc) (ls : Array Slot), kI D g σ e_h_will_X8 M s.heap M_81 N R H locs → lv_has ls 6 [(0, .ref x), (1, .int p1), (2, .int p2), (5, .int v5_81)] → iv v5_81 0 60 → 61 ≤ v5_81.toInt + (n : Int) → W p l e (headSpec wsX8_will ({ frames := 5, cells := 0, slots := 0, locals := 117 })).room s m ar below meth c H locs 0 0 Q (F0 m 81 ls []) := by
              intro n
              induction n with
              | zero => intro M_81 v5_81 H locs ls hI hl i_v5_81 hn; exfalso; have hz := i_v5_81; simp only [iv] at hz; omega
              | succ n ih81 =>
                intro M_81 v5_81 H locs ls hI hl i_v5_81 hn81
                refine lv_iload hx hb dX8_will_81 (lv_at hl 3 rfl) ?_
                refine lv_iload_n hx hb dX8_will_83 rfl (lv_at hl 2 rfl) ?_
                refine lv_icmp_ge (tgt := 105) hx hb dX8_will_84 (by decide) (fun c31 => ?_) (fun c31 => ?_)
                · refine lv_aload_n hx hb dX8_will_105 rfl (lv_at hl 0 rfl) ?_
                  refine h_getr hx hb hts iX8_will_X8 hown hK hI g_x (by decide) rfl rfl 5 (by decide) rfl 7 rfl (hts (.fieldLink RX8 41 "CatLeases" "ahead" "LCatLeases$State;") (List.mem_of_getElem? (i := 4) rfl)) (fun _ h9 => h9) dX8_will_106 (fun a32 e_a32 g_a32 => ?_)
                  have q33 : a25 = a32 := (e_a25).trans e_a32.symm
                  subst q33
                  refine h_getr hx hb hts iX8_will_X7 hown hK hI g_a25 (by decide) rfl rfl 1 (by decide) rfl 13 rfl (hts (.fieldLink RX8 147 "CatLeases$State" "places" "[I") (List.mem_of_getElem? (i := 3) rfl)) (fun _ h9 => h9) dX8_will_109 (fun a34 e_a34 g_a34 => ?_)
                  refine lv_iload_n hx hb dX8_will_112 rfl (lv_at hl 1 rfl) ?_
                  refine h_iald (j := p1.toNatClampNeg) (lo := (-1)) (hi := 7) hx hb hK hI g_a34 (by decide) rfl (iv_in (n := 7) i9 (by decide) (by decide)) rfl (hI.iv1 (n := 7) g_a34 rfl (in_lt (iv_in (n := 7) i9 (by decide) (by decide))) rfl) dX8_will_113 (fun v35 e_v35 i_v35 => ?_)
                  exact h_iret hQ hx hb hr hlocks rfl hK hI ⟨rfl, rfl, (iv_w (lo' := (-2)) (hi' := 7) i_v35 (by decide) (by decide))⟩ dX8_will_114
                · have i36 : iv p2 1 60 := iv_nle1 c31 i15 i_v5_81 (by decide)
                  have i37 : iv v5_81 0 59 := iv_nle2 c31 i15 i_v5_81 (by decide)
                  refine lv_aload_n hx hb dX8_will_87 rfl (lv_at hl 0 rfl) ?_
                  refine h_getr hx hb hts iX8_will_X8 hown hK hI g_x (by decide) rfl rfl 3 (by decide) rfl 4 rfl (hts (.fieldLink RX8 27 "CatLeases" "mews" "LCatLeases$Mews;") (List.mem_of_getElem? (i := 2) rfl)) (fun _ h9 => h9) dX8_will_88 (fun a38 e_a38 g_a38 => ?_)
                  refine lv_aload_n hx hb dX8_will_91 rfl (lv_at hl 0 rfl) ?_
                  refine h_getr hx hb hts iX8_will_X8 hown hK hI g_x (by decide) rfl rfl 5 (by decide) rfl 7 rfl (hts (.fieldLink RX8 41 "CatLeases" "ahead" "LCatLeases$State;") (List.mem_of_getElem? (i := 4) rfl)) (fun _ h9 => h9) dX8_will_92 (fun a39 e_a39 g_a39 => ?_)
                  have q40 : a25 = a39 := (e_a25).trans e_a39.symm
                  subst q40
                  refine h_goi hI (by decide) (va_runV (As := [.ref a25]) (rest := []) ⟨hx, hb, hml, hown, hts⟩ (h_pass_X4 l D g σ Z hZ0 M_81 N R a38 g_a38 a25 g_a25) (cwV 1 hts gX8_will_X4_pass rfl rfl rfl (by decide +kernel) ⟨Nat.le_of_ble_eq_true rfl, Nat.le_of_ble_eq_true rfl⟩) (h_preV hZ0 hK hE hI g_a38 (by decide) rfl) rfl rfl hl.1 rfl (lv_room (Nat.le_of_ble_eq_true rfl)) dX8_will_95 ⟨Nat.le_of_ble_eq_true rfl, Nat.le_of_ble_eq_true rfl⟩) (fun r41 M42 N43 R44 H locs q45 z_M42 hI => ?_)
                  obtain ⟨rfl, rfl, i_r41⟩ := q45
                  refine lv_pop hx hb dX8_will_98 rfl ?_
                  obtain ⟨v46, e_v46⟩ : ∃ z : Int32, z = v5_81 + Int32.ofInt 1 := ⟨_, rfl⟩
                  have i_v46 : iv v46 1 60 := by rw [e_v46]; exact iv_add i37 (ki_1) (by decide) (by decide) (by decide) (by decide)
                  refine lv_iinc (v := v46) (lv' := [(5, .int v46), (0, .ref x), (1, .int p1), (2, .int p2)]) hx hb dX8_will_99 hl (k := 3) rfl e_v46.symm (by decide) rfl (fun ls hl => ?_)
                  refine lv_goto (tgt := 81) hx hb dX8_will_102 (by decide) ?_
                  exact ih81 M42 v46 H locs ls hI (lv_sub hl [1, 2, 3, 0] rfl) (iv_w (lo' := 0) (hi' := 60) i_v46 (by decide) (by decide)) (by have h9 := (h_inc e_v46 i37 ki_1 (by decide) (by decide)); omega)
            refine lv_istore (lv' := [(5, .int (0 : Int32)), (4, .ref a17), (0, .ref x), (1, .int p1), (2, .int p2), (3, .int p3)]) hx hb dX8_will_79 hl (by decide) rfl (fun ls hl => ?_)
            exact J81 61 M27 (0 : Int32) H locs ls hI (lv_sub hl [2, 3, 4, 0] rfl) (iv_w (lo' := 0) (hi' := 60) kc_0 (by decide) (by decide)) (by have h9 := kc_0; simp only [iv] at h9; omega)
          · refine lv_bipush (v := (-2)) hx hb dX8_will_66 (by decide) ?_
            exact h_iret hQ hx hb hr hlocks rfl hK hI ⟨rfl, rfl, (iv_w (lo' := (-2)) (hi' := 7) kc_m2 (by decide) (by decide))⟩ dX8_will_68
        · have i47 : iv p3 0 0 := iv_eq1 c22 (iv_any p3) kc_0
          refine lv_aload_n hx hb dX8_will_34 rfl (lv_at hl 1 rfl) ?_
          refine h_getr hx hb hts iX8_will_X8 hown hK hI g_x (by decide) rfl rfl 3 (by decide) rfl 4 rfl (hts (.fieldLink RX8 27 "CatLeases" "mews" "LCatLeases$Mews;") (List.mem_of_getElem? (i := 2) rfl)) (fun _ h9 => h9) dX8_will_35 (fun a48 e_a48 g_a48 => ?_)
          refine lv_aload hx hb dX8_will_38 (lv_at hl 0 rfl) ?_
          refine lv_iload_n hx hb dX8_will_40 rfl (lv_at hl 2 rfl) ?_
          refine lv_iload_n hx hb dX8_will_41 rfl (lv_at hl 3 rfl) ?_
          refine h_goi hI (by decide) (va_runV (As := [.ref a17, .int p1, .int p2]) (rest := []) ⟨hx, hb, hml, hown, hts⟩ (h_outBehind_X4 l D g σ Z hZ0 M N R a48 g_a48 a17 g_a17 p1 i9 p2 (iv_w (lo' := 0) (hi' := 99) i15 (by decide) (by decide))) (cwV 3 hts gX8_will_X4_outBehind rfl rfl rfl (by decide +kernel) ⟨Nat.le_of_ble_eq_true rfl, Nat.le_of_ble_eq_true rfl⟩) (h_preV hZ0 hK hE hI g_a48 (by decide) rfl) rfl rfl hl.1 rfl (lv_room (Nat.le_of_ble_eq_true rfl)) dX8_will_42 ⟨Nat.le_of_ble_eq_true rfl, Nat.le_of_ble_eq_true rfl⟩) (fun r49 M50 N51 R52 H locs q53 z_M50 hI => ?_)
          obtain ⟨rfl, rfl, i_r49⟩ := q53
          refine lv_iload_n hx hb dX8_will_45 rfl (lv_at hl 3 rfl) ?_
          refine lv_icmp_gt (tgt := 53) hx hb dX8_will_46 (by decide) (fun c54 => ?_) (fun c54 => ?_)
          · have i55 : iv r49 1 100 := iv_lt2 c54 i15 i_r49 (by decide)
            refine lv_aload hx hb dX8_will_53 (lv_at hl 0 rfl) ?_
            refine h_getr hx hb hts iX8_will_X7 hown hK hI g_a17 (by decide) rfl rfl 1 (by decide) rfl 13 rfl (hts (.fieldLink RX8 147 "CatLeases$State" "places" "[I") (List.mem_of_getElem? (i := 3) rfl)) (fun _ h9 => h9) dX8_will_55 (fun a56 e_a56 g_a56 => ?_)
            refine lv_iload_n hx hb dX8_will_58 rfl (lv_at hl 2 rfl) ?_
            refine h_iald (j := p1.toNatClampNeg) (lo := (-1)) (hi := 7) hx hb hK hI g_a56 (by decide) rfl (iv_in (n := 7) i9 (by decide) (by decide)) rfl (hI.iv1 (n := 7) g_a56 rfl (in_lt (iv_in (n := 7) i9 (by decide) (by decide))) rfl) dX8_will_59 (fun v57 e_v57 i_v57 => ?_)
            exact h_iret hQ hx hb hr hlocks rfl hK hI ⟨rfl, rfl, (iv_w (lo' := (-2)) (hi' := 7) i_v57 (by decide) (by decide))⟩ dX8_will_60
          · have i58 : iv r49 0 60 := iv_nlt2 c54 i15 i_r49 (by decide)
            refine lv_iconst (v := (-1)) hx hb dX8_will_49 (by decide) ?_
            refine lv_goto (tgt := 60) hx hb dX8_will_50 (by decide) ?_
            exact h_iret hQ hx hb hr hlocks rfl hK hI ⟨rfl, rfl, (iv_w (lo' := (-2)) (hi' := 7) kc_m1 (by decide) (by decide))⟩ dX8_will_60
      · have i59 : iv p2 61 2147483647 := iv_nle1 c14 i13 kc_60 (by decide)
        refine lv_bipush (v := (-2)) hx hb dX8_will_18 (by decide) ?_
        exact h_iret hQ hx hb hr hlocks rfl hK hI ⟨rfl, rfl, (iv_w (lo' := (-2)) (hi' := 7) kc_m2 (by decide) (by decide))⟩ dX8_will_20
abbrev e_h_lasts_X8 : List (Nat × Nat) := [(14, 999), (18, 999)]
set_option maxHeartbeats 4000000 in
set_option maxRecDepth 100000 in
theorem h_lasts_X8 (l : Launch) (D : va_G) (g : Nat → ClassId) (σ : Nat → Option Nat) (Z : State → Heap → Prop) (hZ0 : hZ σ Z) (M : hM) (N : hN) (R : hR) (x : Nat) (g_x : σ x = some 8) (p1 : Int32) : Met l yX8_lasts wsX8_lasts ({ frames := 4, cells := 0, slots := 0, locals := 93 }) (va_Pc [.ref x, .int p1] (hPre D g σ Z M N R)) (hQi D g σ e_h_lasts_X8 M (fun (r : Int32) (M1 : hM) (N1 : hN) (R1 : hR) => N = N1 ∧ R = R1 ∧ iv r (-1) 99)) 0 0 (hA σ) := by
  refine h_head (cc := cX8_lasts) (maxL := 3) (ret := (some .int)) (by decide) rfl (Nat.le_of_ble_eq_true rfl) e_h_lasts_X8 ?_
  intro p e s m below meth c ls Q ar hQ hx hb hr hlocks hml hown hts hK hE H locs hI hl
  have hown : s.vm.findClass RX8 = some m.cls := hown
  have hl : lv_has ls 3 [(0, .ref x), (1, .int p1)] := hl
  refine lv_aload_n hx hb dX8_lasts_0 rfl (lv_at hl 0 rfl) ?_
  refine lv_iload_n hx hb dX8_lasts_1 rfl (lv_at hl 1 rfl) ?_
  refine h_goi hI (by decide) (va_runV (As := [.int p1]) (rest := []) ⟨hx, hb, hml, hown, hts⟩ (h_isTenant_X8 l D g σ Z hZ0 M N R x g_x p1) (cwV 1 hts gX8_lasts_X8_isTenant rfl rfl rfl (by decide +kernel) ⟨Nat.le_of_ble_eq_true rfl, Nat.le_of_ble_eq_true rfl⟩) (h_preV hZ0 hK hE hI g_x (by decide) rfl) rfl rfl hl.1 rfl (lv_room (Nat.le_of_ble_eq_true rfl)) dX8_lasts_2 ⟨Nat.le_of_ble_eq_true rfl, Nat.le_of_ble_eq_true rfl⟩) (fun r1 M2 N3 R4 H locs q5 z_M2 hI => ?_)
  obtain ⟨rfl, rfl, rfl, i_r1, z6⟩ := q5
  refine lv_if_ne (tgt := 10) hx hb dX8_lasts_5 (by decide) (fun c7 => ?_) (fun c7 => ?_)
  · have i8 : iv p1 0 6 := z6 c7
    have i9 : iv r1 1 1 := iv_neL c7 i_r1 (by decide) (by decide)
    refine lv_aload_n hx hb dX8_lasts_10 rfl (lv_at hl 0 rfl) ?_
    refine h_getr hx hb hts iX8_lasts_X8 hown hK hI g_x (by decide) rfl rfl 3 (by decide) rfl 4 rfl (hts (.fieldLink RX8 27 "CatLeases" "mews" "LCatLeases$Mews;") (List.mem_of_getElem? (i := 1) rfl)) (fun _ h9 => h9) dX8_lasts_11 (fun a10 e_a10 g_a10 => ?_)
    refine lv_aload_n hx hb dX8_lasts_14 rfl (lv_at hl 0 rfl) ?_
    refine h_getr hx hb hts iX8_lasts_X8 hown hK hI g_x (by decide) rfl rfl 4 (by decide) rfl 0 rfl (hts (.fieldLink RX8 34 "CatLeases" "acts" "LCatLeases$Acts;") (List.mem_of_getElem? (i := 2) rfl)) (fun _ h9 => h9) dX8_lasts_15 (fun a11 e_a11 g_a11 => ?_)
    refine h_gor hI (by decide) (va_runV (As := []) (rest := [.ref a10]) ⟨hx, hb, hml, hown, hts⟩ (h_current_X0 l D g σ Z hZ0 M N R a11 g_a11) (cwV 0 hts gX8_lasts_X0_current rfl rfl rfl (by decide +kernel) ⟨Nat.le_of_ble_eq_true rfl, Nat.le_of_ble_eq_true rfl⟩) (h_preV hZ0 hK hE hI g_a11 (by decide) rfl) rfl rfl hl.1 rfl (lv_room (Nat.le_of_ble_eq_true rfl)) dX8_lasts_18 ⟨Nat.le_of_ble_eq_true rfl, Nat.le_of_ble_eq_true rfl⟩) (fun a12 M13 N14 R15 H locs q16 z_M13 hI => ?_)
    obtain ⟨rfl, rfl, rfl, g_a12⟩ := q16
    refine lv_iload_n hx hb dX8_lasts_21 rfl (lv_at hl 1 rfl) ?_
    refine lv_bipush (v := 99) hx hb dX8_lasts_22 (by decide) ?_
    refine h_goi hI (by decide) (va_runV (As := [.ref a12, .int p1, .int (99 : Int32)]) (rest := []) ⟨hx, hb, hml, hown, hts⟩ (h_outBehind_X4 l D g σ Z hZ0 M N R a10 g_a10 a12 g_a12 p1 i8 (99 : Int32) (iv_w (lo' := 0) (hi' := 99) kc_99 (by decide) (by decide))) (cwV 3 hts gX8_lasts_X4_outBehind rfl rfl rfl (by decide +kernel) ⟨Nat.le_of_ble_eq_true rfl, Nat.le_of_ble_eq_true rfl⟩) (h_preV hZ0 hK hE hI g_a10 (by decide) rfl) rfl rfl hl.1 rfl (lv_room (Nat.le_of_ble_eq_true rfl)) dX8_lasts_24 ⟨Nat.le_of_ble_eq_true rfl, Nat.le_of_ble_eq_true rfl⟩) (fun r17 M18 N19 R20 H locs q21 z_M18 hI => ?_)
    obtain ⟨rfl, rfl, i_r17⟩ := q21
    refine lv_istore_n (lv' := [(2, .int r17), (0, .ref x), (1, .int p1)]) hx hb dX8_lasts_27 rfl hl (by decide) rfl (fun ls hl => ?_)
    refine lv_iload_n hx hb dX8_lasts_28 rfl (lv_at hl 0 rfl) ?_
    refine lv_bipush (v := 99) hx hb dX8_lasts_29 (by decide) ?_
    refine lv_icmp_le (tgt := 38) hx hb dX8_lasts_31 (by decide) (fun c22 => ?_) (fun c22 => ?_)
    · have i23 : iv r17 0 99 := iv_le1 c22 i_r17 kc_99 (by decide)
      refine lv_iload_n hx hb dX8_lasts_38 rfl (lv_at hl 0 rfl) ?_
      exact h_iret hQ hx hb hr hlocks rfl hK hI ⟨rfl, rfl, (iv_w (lo' := (-1)) (hi' := 99) i23 (by decide) (by decide))⟩ dX8_lasts_39
    · have i24 : iv r17 100 100 := iv_nle1 c22 i_r17 kc_99 (by decide)
      refine lv_iconst (v := (-1)) hx hb dX8_lasts_34 (by decide) ?_
      refine lv_goto (tgt := 39) hx hb dX8_lasts_35 (by decide) ?_
      exact h_iret hQ hx hb hr hlocks rfl hK hI ⟨rfl, rfl, (iv_w (lo' := (-1)) (hi' := 99) kc_m1 (by decide) (by decide))⟩ dX8_lasts_39
  · have i25 : iv r1 0 0 := iv_eq1 c7 i_r1 kc_0
    refine lv_iconst (v := (-1)) hx hb dX8_lasts_8 (by decide) ?_
    exact h_iret hQ hx hb hr hlocks rfl hK hI ⟨rfl, rfl, (iv_w (lo' := (-1)) (hi' := 99) kc_m1 (by decide) (by decide))⟩ dX8_lasts_9
abbrev e_h_shaky_X8 : List (Nat × Nat) := [(14, 999), (18, 999)]
set_option maxHeartbeats 4000000 in
set_option maxRecDepth 100000 in
theorem h_shaky_X8 (l : Launch) (D : va_G) (g : Nat → ClassId) (σ : Nat → Option Nat) (Z : State → Heap → Prop) (hZ0 : hZ σ Z) (M : hM) (N : hN) (R : hR) (x : Nat) (g_x : σ x = some 8) : Met l yX8_shaky wsX8_shaky ({ frames := 4, cells := 0, slots := 0, locals := 94 }) (va_Pc [.ref x] (hPre D g σ Z M N R)) (hQi D g σ e_h_shaky_X8 M (fun (r : Int32) (M1 : hM) (N1 : hN) (R1 : hR) => N = N1 ∧ R = R1 ∧ iv r 0 255)) 0 0 (hA σ) := by
  refine h_head (cc := cX8_shaky) (maxL := 1) (ret := (some .int)) (by decide) rfl (Nat.le_of_ble_eq_true rfl) e_h_shaky_X8 ?_
  intro p e s m below meth c ls Q ar hQ hx hb hr hlocks hml hown hts hK hE H locs hI hl
  have hown : s.vm.findClass RX8 = some m.cls := hown
  have hl : lv_has ls 1 [(0, .ref x)] := hl
  refine lv_aload_n hx hb dX8_shaky_0 rfl (lv_at hl 0 rfl) ?_
  refine h_getr hx hb hts iX8_shaky_X8 hown hK hI g_x (by decide) rfl rfl 3 (by decide) rfl 4 rfl (hts (.fieldLink RX8 27 "CatLeases" "mews" "LCatLeases$Mews;") (List.mem_of_getElem? (i := 1) rfl)) (fun _ h9 => h9) dX8_shaky_1 (fun a1 e_a1 g_a1 => ?_)
  refine lv_aload_n hx hb dX8_shaky_4 rfl (lv_at hl 0 rfl) ?_
  refine h_getr hx hb hts iX8_shaky_X8 hown hK hI g_x (by decide) rfl rfl 4 (by decide) rfl 0 rfl (hts (.fieldLink RX8 34 "CatLeases" "acts" "LCatLeases$Acts;") (List.mem_of_getElem? (i := 2) rfl)) (fun _ h9 => h9) dX8_shaky_5 (fun a2 e_a2 g_a2 => ?_)
  refine h_gor hI (by decide) (va_runV (As := []) (rest := [.ref a1]) ⟨hx, hb, hml, hown, hts⟩ (h_current_X0 l D g σ Z hZ0 M N R a2 g_a2) (cwV 0 hts gX8_shaky_X0_current rfl rfl rfl (by decide +kernel) ⟨Nat.le_of_ble_eq_true rfl, Nat.le_of_ble_eq_true rfl⟩) (h_preV hZ0 hK hE hI g_a2 (by decide) rfl) rfl rfl hl.1 rfl (lv_room (Nat.le_of_ble_eq_true rfl)) dX8_shaky_8 ⟨Nat.le_of_ble_eq_true rfl, Nat.le_of_ble_eq_true rfl⟩) (fun a3 M4 N5 R6 H locs q7 z_M4 hI => ?_)
  obtain ⟨rfl, rfl, rfl, g_a3⟩ := q7
  refine h_goi hI (by decide) (va_runV (As := [.ref a3]) (rest := []) ⟨hx, hb, hml, hown, hts⟩ (h_thrownOut_X4 l D g σ Z hZ0 M N R a1 g_a1 a3 g_a3) (cwV 1 hts gX8_shaky_X4_thrownOut rfl rfl rfl (by decide +kernel) ⟨Nat.le_of_ble_eq_true rfl, Nat.le_of_ble_eq_true rfl⟩) (h_preV hZ0 hK hE hI g_a1 (by decide) rfl) rfl rfl hl.1 rfl (lv_room (Nat.le_of_ble_eq_true rfl)) dX8_shaky_11 ⟨Nat.le_of_ble_eq_true rfl, Nat.le_of_ble_eq_true rfl⟩) (fun r8 M9 N10 R11 H locs q12 z_M9 hI => ?_)
  obtain ⟨rfl, rfl, i_r8⟩ := q12
  exact h_iret hQ hx hb hr hlocks rfl hK hI ⟨rfl, rfl, i_r8⟩ dX8_shaky_14
abbrev e_h_housed_X8 : List (Nat × Nat) := [(14, 999), (18, 999)]
set_option maxHeartbeats 4000000 in
set_option maxRecDepth 100000 in
theorem h_housed_X8 (l : Launch) (D : va_G) (g : Nat → ClassId) (σ : Nat → Option Nat) (Z : State → Heap → Prop) (hZ0 : hZ σ Z) (M : hM) (N : hN) (R : hR) (x : Nat) (g_x : σ x = some 8) (p1 : Int32) : Met l yX8_housed wsX8_housed ({ frames := 5, cells := 0, slots := 0, locals := 117 }) (va_Pc [.ref x, .int p1] (hPre D g σ Z M N R)) (hQi D g σ e_h_housed_X8 M (fun (r : Int32) (M1 : hM) (N1 : hN) (R1 : hR) => N = N1 ∧ R = R1)) 0 0 (hA σ) := by
  refine h_head (cc := cX8_housed) (maxL := 2) (ret := (some .int)) (by decide) rfl (Nat.le_of_ble_eq_true rfl) e_h_housed_X8 ?_
  intro p e s m below meth c ls Q ar hQ hx hb hr hlocks hml hown hts hK hE H locs hI hl
  have hown : s.vm.findClass RX8 = some m.cls := hown
  have hl : lv_has ls 2 [(0, .ref x), (1, .int p1)] := hl
  refine lv_iload_n hx hb dX8_housed_0 rfl (lv_at hl 1 rfl) ?_
  refine lv_if_lt (tgt := 10) hx hb dX8_housed_1 (by decide) (fun c1 => ?_) (fun c1 => ?_)
  · have i2 : iv p1 (-2147483648) (-1) := iv_lt1 c1 (iv_any p1) kc_0 (by decide)
    refine lv_iconst (v := (-1)) hx hb dX8_housed_10 (by decide) ?_
    exact h_iret hQ hx hb hr hlocks rfl hK hI ⟨rfl, rfl⟩ dX8_housed_11
  · have i3 : iv p1 0 2147483647 := iv_nlt1 c1 (iv_any p1) kc_0 (by decide)
    refine lv_iload_n hx hb dX8_housed_4 rfl (lv_at hl 1 rfl) ?_
    refine lv_bipush (v := 60) hx hb dX8_housed_5 (by decide) ?_
    refine lv_icmp_le (tgt := 12) hx hb dX8_housed_7 (by decide) (fun c4 => ?_) (fun c4 => ?_)
    · have i5 : iv p1 0 60 := iv_le1 c4 i3 kc_60 (by decide)
      refine lv_aload_n hx hb dX8_housed_12 rfl (lv_at hl 0 rfl) ?_
      refine h_getr hx hb hts iX8_housed_X8 hown hK hI g_x (by decide) rfl rfl 3 (by decide) rfl 4 rfl (hts (.fieldLink RX8 27 "CatLeases" "mews" "LCatLeases$Mews;") (List.mem_of_getElem? (i := 1) rfl)) (fun _ h9 => h9) dX8_housed_13 (fun a6 e_a6 g_a6 => ?_)
      refine h_geti (lo := 0) (hi := 7) hx hb hts iX8_housed_X4 hown hK hI g_a6 (by decide) rfl rfl 2 (by decide) rfl rfl (hts (.fieldLink RX8 102 "CatLeases$Mews" "tenants" "I") (List.mem_of_getElem? (i := 2) rfl)) (fun _ h9 => h9) dX8_housed_16 (fun v7 e_v7 i_v7 => ?_)
      refine lv_aload_n hx hb dX8_housed_19 rfl (lv_at hl 0 rfl) ?_
      refine lv_aload_n hx hb dX8_housed_20 rfl (lv_at hl 0 rfl) ?_
      refine h_getr hx hb hts iX8_housed_X8 hown hK hI g_x (by decide) rfl rfl 4 (by decide) rfl 0 rfl (hts (.fieldLink RX8 34 "CatLeases" "acts" "LCatLeases$Acts;") (List.mem_of_getElem? (i := 3) rfl)) (fun _ h9 => h9) dX8_housed_21 (fun a8 e_a8 g_a8 => ?_)
      refine h_gor hI (by decide) (va_runV (As := []) (rest := [.ref x, .int v7]) ⟨hx, hb, hml, hown, hts⟩ (h_current_X0 l D g σ Z hZ0 M N R a8 g_a8) (cwV 0 hts gX8_housed_X0_current rfl rfl rfl (by decide +kernel) ⟨Nat.le_of_ble_eq_true rfl, Nat.le_of_ble_eq_true rfl⟩) (h_preV hZ0 hK hE hI g_a8 (by decide) rfl) rfl rfl hl.1 rfl (lv_room (Nat.le_of_ble_eq_true rfl)) dX8_housed_24 ⟨Nat.le_of_ble_eq_true rfl, Nat.le_of_ble_eq_true rfl⟩) (fun a9 M10 N11 R12 H locs q13 z_M10 hI => ?_)
      obtain ⟨rfl, rfl, rfl, g_a9⟩ := q13
      refine lv_iload_n hx hb dX8_housed_27 rfl (lv_at hl 1 rfl) ?_
      refine h_goi hI (by decide) (va_runV (As := [.ref a9, .int p1]) (rest := [.int v7]) ⟨hx, hb, hml, hown, hts⟩ (h_outCount_X8 l D g σ Z hZ0 M N R x g_x a9 g_a9 p1 i5) (cwV 2 hts gX8_housed_X8_outCount rfl rfl rfl (by decide +kernel) ⟨Nat.le_of_ble_eq_true rfl, Nat.le_of_ble_eq_true rfl⟩) (h_preV hZ0 hK hE hI g_x (by decide) rfl) rfl rfl hl.1 rfl (lv_room (Nat.le_of_ble_eq_true rfl)) dX8_housed_28 ⟨Nat.le_of_ble_eq_true rfl, Nat.le_of_ble_eq_true rfl⟩) (fun r14 M15 N16 R17 H locs q18 z_M15 hI => ?_)
      obtain ⟨rfl, rfl⟩ := q18
      refine lv_isub hx hb dX8_housed_31 ?_
      refine h_nm (lo := (-2147483648)) (hi := 2147483647) (iv_any _) (fun v19 e_v19 i_v19 => ?_)
      exact h_iret hQ hx hb hr hlocks rfl hK hI ⟨rfl, rfl⟩ dX8_housed_32
    · have i20 : iv p1 61 2147483647 := iv_nle1 c4 i3 kc_60 (by decide)
      refine lv_iconst (v := (-1)) hx hb dX8_housed_10 (by decide) ?_
      exact h_iret hQ hx hb hr hlocks rfl hK hI ⟨rfl, rfl⟩ dX8_housed_11
abbrev e_h_law_X8 : List (Nat × Nat) := [(14, 999), (18, 999)]
set_option maxHeartbeats 4000000 in
set_option maxRecDepth 100000 in
theorem h_law_X8 (l : Launch) (D : va_G) (g : Nat → ClassId) (σ : Nat → Option Nat) (Z : State → Heap → Prop) (hZ0 : hZ σ Z) (M : hM) (N : hN) (R : hR) (x : Nat) (g_x : σ x = some 8) (p1 : Int32) : Met l yX8_law wsX8_law ({ frames := 4, cells := 0, slots := 0, locals := 93 }) (va_Pc [.ref x, .int p1] (hPre D g σ Z M N R)) (hQi D g σ e_h_law_X8 M (fun (r : Int32) (M1 : hM) (N1 : hN) (R1 : hR) => N = N1 ∧ R = R1 ∧ iv r (-1) 63)) 0 0 (hA σ) := by
  refine h_head (cc := cX8_law) (maxL := 2) (ret := (some .int)) (by decide) rfl (Nat.le_of_ble_eq_true rfl) e_h_law_X8 ?_
  intro p e s m below meth c ls Q ar hQ hx hb hr hlocks hml hown hts hK hE H locs hI hl
  have hown : s.vm.findClass RX8 = some m.cls := hown
  have hl : lv_has ls 2 [(0, .ref x), (1, .int p1)] := hl
  refine lv_iload_n hx hb dX8_law_0 rfl (lv_at hl 1 rfl) ?_
  refine lv_if_lt (tgt := 10) hx hb dX8_law_1 (by decide) (fun c1 => ?_) (fun c1 => ?_)
  · have i2 : iv p1 (-2147483648) (-1) := iv_lt1 c1 (iv_any p1) kc_0 (by decide)
    refine lv_iconst (v := (-1)) hx hb dX8_law_10 (by decide) ?_
    exact h_iret hQ hx hb hr hlocks rfl hK hI ⟨rfl, rfl, (iv_w (lo' := (-1)) (hi' := 63) kc_m1 (by decide) (by decide))⟩ dX8_law_11
  · have i3 : iv p1 0 2147483647 := iv_nlt1 c1 (iv_any p1) kc_0 (by decide)
    refine lv_iload_n hx hb dX8_law_4 rfl (lv_at hl 1 rfl) ?_
    refine lv_bipush (v := 99) hx hb dX8_law_5 (by decide) ?_
    refine lv_icmp_le (tgt := 12) hx hb dX8_law_7 (by decide) (fun c4 => ?_) (fun c4 => ?_)
    · have i5 : iv p1 0 99 := iv_le1 c4 i3 kc_99 (by decide)
      refine lv_aload_n hx hb dX8_law_12 rfl (lv_at hl 0 rfl) ?_
      refine h_getr hx hb hts iX8_law_X8 hown hK hI g_x (by decide) rfl rfl 3 (by decide) rfl 4 rfl (hts (.fieldLink RX8 27 "CatLeases" "mews" "LCatLeases$Mews;") (List.mem_of_getElem? (i := 1) rfl)) (fun _ h9 => h9) dX8_law_13 (fun a6 e_a6 g_a6 => ?_)
      refine lv_aload_n hx hb dX8_law_16 rfl (lv_at hl 0 rfl) ?_
      refine h_getr hx hb hts iX8_law_X8 hown hK hI g_x (by decide) rfl rfl 4 (by decide) rfl 0 rfl (hts (.fieldLink RX8 34 "CatLeases" "acts" "LCatLeases$Acts;") (List.mem_of_getElem? (i := 2) rfl)) (fun _ h9 => h9) dX8_law_17 (fun a7 e_a7 g_a7 => ?_)
      refine h_gor hI (by decide) (va_runV (As := []) (rest := [.ref a6]) ⟨hx, hb, hml, hown, hts⟩ (h_current_X0 l D g σ Z hZ0 M N R a7 g_a7) (cwV 0 hts gX8_law_X0_current rfl rfl rfl (by decide +kernel) ⟨Nat.le_of_ble_eq_true rfl, Nat.le_of_ble_eq_true rfl⟩) (h_preV hZ0 hK hE hI g_a7 (by decide) rfl) rfl rfl hl.1 rfl (lv_room (Nat.le_of_ble_eq_true rfl)) dX8_law_20 ⟨Nat.le_of_ble_eq_true rfl, Nat.le_of_ble_eq_true rfl⟩) (fun a8 M9 N10 R11 H locs q12 z_M9 hI => ?_)
      obtain ⟨rfl, rfl, rfl, g_a8⟩ := q12
      refine lv_iload_n hx hb dX8_law_23 rfl (lv_at hl 1 rfl) ?_
      refine h_goi hI (by decide) (va_runV (As := [.ref a8, .int p1]) (rest := []) ⟨hx, hb, hml, hown, hts⟩ (h_thrownOutAt_X4 l D g σ Z hZ0 M N R a6 g_a6 a8 g_a8 p1) (cwV 2 hts gX8_law_X4_thrownOutAt rfl rfl rfl (by decide +kernel) ⟨Nat.le_of_ble_eq_true rfl, Nat.le_of_ble_eq_true rfl⟩) (h_preV hZ0 hK hE hI g_a6 (by decide) rfl) rfl rfl hl.1 rfl (lv_room (Nat.le_of_ble_eq_true rfl)) dX8_law_24 ⟨Nat.le_of_ble_eq_true rfl, Nat.le_of_ble_eq_true rfl⟩) (fun r13 M14 N15 R16 H locs q17 z_M14 hI => ?_)
      obtain ⟨rfl, rfl, i_r13⟩ := q17
      refine h_goi hI (by decide) (va_runS (As := [.int r13]) (rest := []) ⟨hx, hb, hml, hown, hts⟩ (h_bitCount l D g σ Z hZ0 M14 N R r13) (va_cwS 1 hts gX8_law_J6_bitCount_0f7a4 rfl rfl rfl (by decide +kernel) ⟨Nat.le_of_ble_eq_true rfl, Nat.le_of_ble_eq_true rfl⟩) (h_preS hZ0 hK hE hI) rfl rfl hl.1 rfl (lv_room (Nat.le_of_ble_eq_true rfl)) dX8_law_27 ⟨Nat.le_of_ble_eq_true rfl, Nat.le_of_ble_eq_true rfl⟩) (fun r18 M19 N20 R21 H locs q22 z_M19 hI => ?_)
      obtain ⟨rfl, rfl, rfl, i_r18⟩ := q22
      exact h_iret hQ hx hb hr hlocks rfl hK hI ⟨rfl, rfl, (iv_w (lo' := (-1)) (hi' := 63) i_r18 (by decide) (by decide))⟩ dX8_law_30
    · have i23 : iv p1 100 2147483647 := iv_nle1 c4 i3 kc_99 (by decide)
      refine lv_iconst (v := (-1)) hx hb dX8_law_10 (by decide) ?_
      exact h_iret hQ hx hb hr hlocks rfl hK hI ⟨rfl, rfl, (iv_w (lo' := (-1)) (hi' := 63) kc_m1 (by decide) (by decide))⟩ dX8_law_11
abbrev e_h_grief_X8 : List (Nat × Nat) := [(7, 5), (7, 6), (7, 7), (12, 999), (13, 999), (14, 999), (18, 999)]
set_option maxHeartbeats 4000000 in
set_option maxRecDepth 100000 in
theorem h_grief_X8 (l : Launch) (D : va_G) (g : Nat → ClassId) (σ : Nat → Option Nat) (Z : State → Heap → Prop) (hZ0 : hZ σ Z) (M : hM) (N : hN) (R : hR) (x : Nat) (g_x : σ x = some 8) (p1 : Int32) (p2 : Int32) : Met l yX8_grief wsX8_grief ({ frames := 5, cells := 0, slots := 0, locals := 117 }) (va_Pc [.ref x, .int p1, .int p2] (hPre D g σ Z M N R)) (hQi D g σ e_h_grief_X8 M (fun (r : Int32) (M1 : hM) (N1 : hN) (R1 : hR) => N = N1 ∧ R = R1)) 0 0 (hA σ) := by
  refine h_head (cc := cX8_grief) (maxL := 4) (ret := (some .int)) (by decide) rfl (Nat.le_of_ble_eq_true rfl) e_h_grief_X8 ?_
  intro p e s m below meth c ls Q ar hQ hx hb hr hlocks hml hown hts hK hE H locs hI hl
  have hown : s.vm.findClass RX8 = some m.cls := hown
  have hl : lv_has ls 4 [(0, .ref x), (1, .int p1), (2, .int p2)] := hl
  refine lv_aload_n hx hb dX8_grief_0 rfl (lv_at hl 0 rfl) ?_
  refine lv_iload_n hx hb dX8_grief_1 rfl (lv_at hl 1 rfl) ?_
  refine h_goi hI (by decide) (va_runV (As := [.int p1]) (rest := []) ⟨hx, hb, hml, hown, hts⟩ (h_isLivingCat_X8 l D g σ Z hZ0 M N R x g_x p1) (cwV 1 hts gX8_grief_X8_isLivingCat rfl rfl rfl (by decide +kernel) ⟨Nat.le_of_ble_eq_true rfl, Nat.le_of_ble_eq_true rfl⟩) (h_preV hZ0 hK hE hI g_x (by decide) rfl) rfl rfl hl.1 rfl (lv_room (Nat.le_of_ble_eq_true rfl)) dX8_grief_2 ⟨Nat.le_of_ble_eq_true rfl, Nat.le_of_ble_eq_true rfl⟩) (fun r1 M2 N3 R4 H locs q5 z_M2 hI => ?_)
  obtain ⟨rfl, rfl, rfl, i_r1, z6⟩ := q5
  refine lv_if_eq (tgt := 18) hx hb dX8_grief_5 (by decide) (fun c7 => ?_) (fun c7 => ?_)
  · have i8 : iv r1 0 0 := iv_eq1 c7 i_r1 kc_0
    refine lv_sipush (v := (-1000)) hx hb dX8_grief_18 (by decide) ?_
    exact h_iret hQ hx hb hr hlocks rfl hK hI ⟨rfl, rfl⟩ dX8_grief_21
  · have i9 : iv p1 0 5 := z6 c7
    have i10 : iv r1 1 1 := iv_neL c7 i_r1 (by decide) (by decide)
    refine lv_iload_n hx hb dX8_grief_8 rfl (lv_at hl 2 rfl) ?_
    refine lv_if_lt (tgt := 18) hx hb dX8_grief_9 (by decide) (fun c11 => ?_) (fun c11 => ?_)
    · have i12 : iv p2 (-2147483648) (-1) := iv_lt1 c11 (iv_any p2) kc_0 (by decide)
      refine lv_sipush (v := (-1000)) hx hb dX8_grief_18 (by decide) ?_
      exact h_iret hQ hx hb hr hlocks rfl hK hI ⟨rfl, rfl⟩ dX8_grief_21
    · have i13 : iv p2 0 2147483647 := iv_nlt1 c11 (iv_any p2) kc_0 (by decide)
      refine lv_iload_n hx hb dX8_grief_12 rfl (lv_at hl 2 rfl) ?_
      refine lv_bipush (v := 20) hx hb dX8_grief_13 (by decide) ?_
      refine lv_icmp_le (tgt := 22) hx hb dX8_grief_15 (by decide) (fun c14 => ?_) (fun c14 => ?_)
      · have i15 : iv p2 0 20 := iv_le1 c14 i13 kc_20 (by decide)
        refine lv_aload_n hx hb dX8_grief_22 rfl (lv_at hl 0 rfl) ?_
        refine h_getr hx hb hts iX8_grief_X8 hown hK hI g_x (by decide) rfl rfl 4 (by decide) rfl 0 rfl (hts (.fieldLink RX8 34 "CatLeases" "acts" "LCatLeases$Acts;") (List.mem_of_getElem? (i := 1) rfl)) (fun _ h9 => h9) dX8_grief_23 (fun a16 e_a16 g_a16 => ?_)
        refine h_gor hI (by decide) (va_runV (As := []) (rest := []) ⟨hx, hb, hml, hown, hts⟩ (h_current_X0 l D g σ Z hZ0 M N R a16 g_a16) (cwV 0 hts gX8_grief_X0_current rfl rfl rfl (by decide +kernel) ⟨Nat.le_of_ble_eq_true rfl, Nat.le_of_ble_eq_true rfl⟩) (h_preV hZ0 hK hE hI g_a16 (by decide) rfl) rfl rfl hl.1 rfl (lv_room (Nat.le_of_ble_eq_true rfl)) dX8_grief_26 ⟨Nat.le_of_ble_eq_true rfl, Nat.le_of_ble_eq_true rfl⟩) (fun a17 M18 N19 R20 H locs q21 z_M18 hI => ?_)
        obtain ⟨rfl, rfl, rfl, g_a17⟩ := q21
        refine lv_astore_n (lv' := [(3, .ref a17), (0, .ref x), (1, .int p1), (2, .int p2)]) hx hb dX8_grief_29 rfl hl (by decide) rfl (fun ls hl => ?_)
        refine lv_aload_n hx hb dX8_grief_30 rfl (lv_at hl 1 rfl) ?_
        refine h_getr hx hb hts iX8_grief_X8 hown hK hI g_x (by decide) rfl rfl 5 (by decide) rfl 7 rfl (hts (.fieldLink RX8 41 "CatLeases" "ahead" "LCatLeases$State;") (List.mem_of_getElem? (i := 2) rfl)) (fun _ h9 => h9) dX8_grief_31 (fun a22 e_a22 g_a22 => ?_)
        refine lv_aload_n hx hb dX8_grief_34 rfl (lv_at hl 0 rfl) ?_
        refine h_gov hI (by decide) (va_runV (As := [.ref a17]) (rest := []) ⟨hx, hb, hml, hown, hts⟩ (h_copyOf_X7 l D g σ Z hZ0 M N R a22 g_a22 a17 g_a17) (cwV 1 hts gX8_grief_X7_copyOf rfl rfl rfl (by decide +kernel) ⟨Nat.le_of_ble_eq_true rfl, Nat.le_of_ble_eq_true rfl⟩) (h_preV hZ0 hK hE hI g_a22 (by decide) rfl) rfl rfl hl.1 rfl (lv_room (Nat.le_of_ble_eq_true rfl)) dX8_grief_35 ⟨Nat.le_of_ble_eq_true rfl, Nat.le_of_ble_eq_true rfl⟩) (fun M24 N25 R26 H locs q27 z_M24 hI => ?_)
        obtain ⟨rfl, rfl⟩ := q27
        refine lv_aload_n hx hb dX8_grief_38 rfl (lv_at hl 1 rfl) ?_
        refine h_getr hx hb hts iX8_grief_X8 hown hK hI g_x (by decide) rfl rfl 3 (by decide) rfl 4 rfl (hts (.fieldLink RX8 27 "CatLeases" "mews" "LCatLeases$Mews;") (List.mem_of_getElem? (i := 3) rfl)) (fun _ h9 => h9) dX8_grief_39 (fun a28 e_a28 g_a28 => ?_)
        refine lv_aload_n hx hb dX8_grief_42 rfl (lv_at hl 1 rfl) ?_
        refine h_getr hx hb hts iX8_grief_X8 hown hK hI g_x (by decide) rfl rfl 5 (by decide) rfl 7 rfl (hts (.fieldLink RX8 41 "CatLeases" "ahead" "LCatLeases$State;") (List.mem_of_getElem? (i := 2) rfl)) (fun _ h9 => h9) dX8_grief_43 (fun a29 e_a29 g_a29 => ?_)
        have q30 : a22 = a29 := (e_a22).trans e_a29.symm
        subst q30
        refine lv_iconst (v := 1) hx hb dX8_grief_46 (by decide) ?_
        refine lv_iload_n hx hb dX8_grief_47 rfl (lv_at hl 2 rfl) ?_
        refine lv_ishl hx hb dX8_grief_48 ?_
        refine h_nm (lo := 1) (hi := 32) (iv_shl1 5 i9 (by decide) (by decide) (by decide) (by decide) (by decide)) (fun v31 e_v31 i_v31 => ?_)
        refine h_gov hI (by decide) (va_runV (As := [.ref a22, .int v31]) (rest := []) ⟨hx, hb, hml, hown, hts⟩ (h_die_X4 l D g σ Z hZ0 M24 N R a28 g_a28 a22 g_a22 v31) (cwV 2 hts gX8_grief_X4_die rfl rfl rfl (by decide +kernel) ⟨Nat.le_of_ble_eq_true rfl, Nat.le_of_ble_eq_true rfl⟩) (h_preV hZ0 hK hE hI g_a28 (by decide) rfl) rfl rfl hl.1 rfl (lv_room (Nat.le_of_ble_eq_true rfl)) dX8_grief_49 ⟨Nat.le_of_ble_eq_true rfl, Nat.le_of_ble_eq_true rfl⟩) (fun M33 N34 R35 H locs q36 z_M33 hI => ?_)
        obtain ⟨rfl, rfl⟩ := q36
        refine lv_aload_n hx hb dX8_grief_52 rfl (lv_at hl 1 rfl) ?_
        refine lv_aload_n hx hb dX8_grief_53 rfl (lv_at hl 1 rfl) ?_
        refine h_getr hx hb hts iX8_grief_X8 hown hK hI g_x (by decide) rfl rfl 5 (by decide) rfl 7 rfl (hts (.fieldLink RX8 41 "CatLeases" "ahead" "LCatLeases$State;") (List.mem_of_getElem? (i := 2) rfl)) (fun _ h9 => h9) dX8_grief_54 (fun a37 e_a37 g_a37 => ?_)
        have q38 : a22 = a37 := (e_a22).trans e_a37.symm
        subst q38
        refine lv_iload_n hx hb dX8_grief_57 rfl (lv_at hl 3 rfl) ?_
        refine h_goi hI (by decide) (va_runV (As := [.ref a22, .int p2]) (rest := []) ⟨hx, hb, hml, hown, hts⟩ (h_outCount_X8 l D g σ Z hZ0 M33 N R x g_x a22 g_a22 p2 (iv_w (lo' := 0) (hi' := 60) i15 (by decide) (by decide))) (cwV 2 hts gX8_grief_X8_outCount rfl rfl rfl (by decide +kernel) ⟨Nat.le_of_ble_eq_true rfl, Nat.le_of_ble_eq_true rfl⟩) (h_preV hZ0 hK hE hI g_x (by decide) rfl) rfl rfl hl.1 rfl (lv_room (Nat.le_of_ble_eq_true rfl)) dX8_grief_58 ⟨Nat.le_of_ble_eq_true rfl, Nat.le_of_ble_eq_true rfl⟩) (fun r39 M40 N41 R42 H locs q43 z_M40 hI => ?_)
        obtain ⟨rfl, rfl⟩ := q43
        refine lv_aload_n hx hb dX8_grief_61 rfl (lv_at hl 1 rfl) ?_
        refine lv_aload_n hx hb dX8_grief_62 rfl (lv_at hl 0 rfl) ?_
        refine lv_iload_n hx hb dX8_grief_63 rfl (lv_at hl 3 rfl) ?_
        refine h_goi hI (by decide) (va_runV (As := [.ref a17, .int p2]) (rest := [.int r39]) ⟨hx, hb, hml, hown, hts⟩ (h_outCount_X8 l D g σ Z hZ0 M40 N R x g_x a17 g_a17 p2 (iv_w (lo' := 0) (hi' := 60) i15 (by decide) (by decide))) (cwV 2 hts gX8_grief_X8_outCount rfl rfl rfl (by decide +kernel) ⟨Nat.le_of_ble_eq_true rfl, Nat.le_of_ble_eq_true rfl⟩) (h_preV hZ0 hK hE hI g_x (by decide) rfl) rfl rfl hl.1 rfl (lv_room (Nat.le_of_ble_eq_true rfl)) dX8_grief_64 ⟨Nat.le_of_ble_eq_true rfl, Nat.le_of_ble_eq_true rfl⟩) (fun r44 M45 N46 R47 H locs q48 z_M45 hI => ?_)
        obtain ⟨rfl, rfl⟩ := q48
        refine lv_isub hx hb dX8_grief_67 ?_
        refine h_nm (lo := (-2147483648)) (hi := 2147483647) (iv_any _) (fun v49 e_v49 i_v49 => ?_)
        exact h_iret hQ hx hb hr hlocks rfl hK hI ⟨rfl, rfl⟩ dX8_grief_68
      · have i50 : iv p2 21 2147483647 := iv_nle1 c14 i13 kc_20 (by decide)
        refine lv_sipush (v := (-1000)) hx hb dX8_grief_18 (by decide) ?_
        exact h_iret hQ hx hb hr hlocks rfl hK hI ⟨rfl, rfl⟩ dX8_grief_21
abbrev e_h_haven_X8 : List (Nat × Nat) := [(7, 5), (7, 6), (7, 7), (12, 999), (13, 999), (14, 999), (18, 999)]
set_option maxHeartbeats 4000000 in
set_option maxRecDepth 100000 in
theorem h_haven_X8 (l : Launch) (D : va_G) (g : Nat → ClassId) (σ : Nat → Option Nat) (Z : State → Heap → Prop) (hZ0 : hZ σ Z) (M : hM) (N : hN) (R : hR) (x : Nat) (g_x : σ x = some 8) (p1 : Int32) (p2 : Int32) : Met l yX8_haven wsX8_haven ({ frames := 5, cells := 0, slots := 0, locals := 117 }) (va_Pc [.ref x, .int p1, .int p2] (hPre D g σ Z M N R)) (hQi D g σ e_h_haven_X8 M (fun (r : Int32) (M1 : hM) (N1 : hN) (R1 : hR) => N = N1 ∧ R = R1 ∧ iv r (-1) 99)) 0 0 (hA σ) := by
  refine h_head (cc := cX8_haven) (maxL := 7) (ret := (some .int)) (by decide) rfl (Nat.le_of_ble_eq_true rfl) e_h_haven_X8 ?_
  intro p e s m below meth c ls Q ar hQ hx hb hr hlocks hml hown hts hK hE H locs hI hl
  have hown : s.vm.findClass RX8 = some m.cls := hown
  have hl : lv_has ls 7 [(0, .ref x), (1, .int p1), (2, .int p2)] := hl
  refine lv_aload_n hx hb dX8_haven_0 rfl (lv_at hl 0 rfl) ?_
  refine lv_iload_n hx hb dX8_haven_1 rfl (lv_at hl 1 rfl) ?_
  refine h_goi hI (by decide) (va_runV (As := [.int p1]) (rest := []) ⟨hx, hb, hml, hown, hts⟩ (h_isTenant_X8 l D g σ Z hZ0 M N R x g_x p1) (cwV 1 hts gX8_haven_X8_isTenant rfl rfl rfl (by decide +kernel) ⟨Nat.le_of_ble_eq_true rfl, Nat.le_of_ble_eq_true rfl⟩) (h_preV hZ0 hK hE hI g_x (by decide) rfl) rfl rfl hl.1 rfl (lv_room (Nat.le_of_ble_eq_true rfl)) dX8_haven_2 ⟨Nat.le_of_ble_eq_true rfl, Nat.le_of_ble_eq_true rfl⟩) (fun r1 M2 N3 R4 H locs q5 z_M2 hI => ?_)
  obtain ⟨rfl, rfl, rfl, i_r1, z6⟩ := q5
  refine lv_if_eq (tgt := 17) hx hb dX8_haven_5 (by decide) (fun c7 => ?_) (fun c7 => ?_)
  · have i8 : iv r1 0 0 := iv_eq1 c7 i_r1 kc_0
    refine lv_iconst (v := (-1)) hx hb dX8_haven_17 (by decide) ?_
    exact h_iret hQ hx hb hr hlocks rfl hK hI ⟨rfl, rfl, (iv_w (lo' := (-1)) (hi' := 99) kc_m1 (by decide) (by decide))⟩ dX8_haven_18
  · have i9 : iv p1 0 6 := z6 c7
    have i10 : iv r1 1 1 := iv_neL c7 i_r1 (by decide) (by decide)
    refine lv_iload_n hx hb dX8_haven_8 rfl (lv_at hl 2 rfl) ?_
    refine lv_if_lt (tgt := 17) hx hb dX8_haven_9 (by decide) (fun c11 => ?_) (fun c11 => ?_)
    · have i12 : iv p2 (-2147483648) (-1) := iv_lt1 c11 (iv_any p2) kc_0 (by decide)
      refine lv_iconst (v := (-1)) hx hb dX8_haven_17 (by decide) ?_
      exact h_iret hQ hx hb hr hlocks rfl hK hI ⟨rfl, rfl, (iv_w (lo' := (-1)) (hi' := 99) kc_m1 (by decide) (by decide))⟩ dX8_haven_18
    · have i13 : iv p2 0 2147483647 := iv_nlt1 c11 (iv_any p2) kc_0 (by decide)
      refine lv_iload_n hx hb dX8_haven_12 rfl (lv_at hl 2 rfl) ?_
      refine lv_iconst (v := 1) hx hb dX8_haven_13 (by decide) ?_
      refine lv_icmp_le (tgt := 19) hx hb dX8_haven_14 (by decide) (fun c14 => ?_) (fun c14 => ?_)
      · have i15 : iv p2 0 1 := iv_le1 c14 i13 kc_1 (by decide)
        refine lv_iconst (v := (-1)) hx hb dX8_haven_19 (by decide) ?_
        refine lv_istore_n (lv' := [(3, .int (-1 : Int32)), (0, .ref x), (1, .int p1), (2, .int p2)]) hx hb dX8_haven_20 rfl hl (by decide) rfl (fun ls hl => ?_)
        refine lv_iconst (v := (-1)) hx hb dX8_haven_21 (by decide) ?_
        refine lv_istore (lv' := [(4, .int (-1 : Int32)), (3, .int (-1 : Int32)), (0, .ref x), (1, .int p1), (2, .int p2)]) hx hb dX8_haven_22 hl (by decide) rfl (fun ls hl => ?_)
        refine lv_iconst (v := 0) hx hb dX8_haven_24 (by decide) ?_
        have J27 : ∀ (n : Nat) (M_27 : hM) (v3_27 : Int32) (v4_27 : Int32) (v5_27 : Int32) (H : Heap) (locs : List Loc) (ls : Array Slot), kI D g σ e_h_haven_X8 M s.heap M_27 N R H locs → lv_has ls 7 [(0, .ref x), (1, .int p1), (2, .int p2), (3, .int v3_27), (4, .int v4_27), (5, .int v5_27)] → iv v3_27 (-1) 7 → iv v4_27 (-1) 99 → iv v5_27 0 8 → 9 ≤ v5_27.toInt + (n : Int) → W p l e (headSpec wsX8_haven ({ frames := 5, cells := 0, slots := 0, locals := 117 })).room s m ar below meth c H locs 0 0 Q (F0 m 27 ls []) := by
          intro n
          induction n with
          | zero => intro M_27 v3_27 v4_27 v5_27 H locs ls hI hl i_v3_27 i_v4_27 i_v5_27 hn; exfalso; have hz := i_v5_27; simp only [iv] at hz; omega
          | succ n ih27 =>
            intro M_27 v3_27 v4_27 v5_27 H locs ls hI hl i_v3_27 i_v4_27 i_v5_27 hn27
            refine lv_iload hx hb dX8_haven_27 (lv_at hl 5 rfl) ?_
            refine lv_aload_n hx hb dX8_haven_29 rfl (lv_at hl 0 rfl) ?_
            refine h_getr hx hb hts iX8_haven_X8 hown hK hI g_x (by decide) rfl rfl 3 (by decide) rfl 4 rfl (hts (.fieldLink RX8 27 "CatLeases" "mews" "LCatLeases$Mews;") (List.mem_of_getElem? (i := 1) rfl)) (fun _ h9 => h9) dX8_haven_30 (fun a16 e_a16 g_a16 => ?_)
            refine h_geti (lo := 0) (hi := 8) hx hb hts iX8_haven_X4 hown hK hI g_a16 (by decide) rfl rfl 1 (by decide) rfl rfl (hts (.fieldLink RX8 173 "CatLeases$Mews" "rooms" "I") (List.mem_of_getElem? (i := 2) rfl)) (fun _ h9 => h9) dX8_haven_33 (fun v17 e_v17 i_v17 => ?_)
            refine lv_icmp_ge (tgt := 68) hx hb dX8_haven_36 (by decide) (fun c18 => ?_) (fun c18 => ?_)
            · refine lv_iload_n hx hb dX8_haven_68 rfl (lv_at hl 2 rfl) ?_
              refine lv_if_ne (tgt := 76) hx hb dX8_haven_69 (by decide) (fun c19 => ?_) (fun c19 => ?_)
              · have i20 : iv p2 1 1 := iv_neL c19 i15 (by decide) (by decide)
                refine lv_iload hx hb dX8_haven_76 (lv_at hl 4 rfl) ?_
                exact h_iret hQ hx hb hr hlocks rfl hK hI ⟨rfl, rfl, i_v4_27⟩ dX8_haven_78
              · have i21 : iv p2 0 0 := iv_eq1 c19 i15 kc_0
                refine lv_iload_n hx hb dX8_haven_72 rfl (lv_at hl 3 rfl) ?_
                refine lv_goto (tgt := 78) hx hb dX8_haven_73 (by decide) ?_
                exact h_iret hQ hx hb hr hlocks rfl hK hI ⟨rfl, rfl, (iv_w (lo' := (-1)) (hi' := 99) i_v3_27 (by decide) (by decide))⟩ dX8_haven_78
            · have i22 : iv v17 1 8 := iv_nle1 c18 i_v17 i_v5_27 (by decide)
              have i23 : iv v5_27 0 7 := iv_nle2 c18 i_v17 i_v5_27 (by decide)
              refine lv_aload_n hx hb dX8_haven_39 rfl (lv_at hl 0 rfl) ?_
              refine lv_iload_n hx hb dX8_haven_40 rfl (lv_at hl 1 rfl) ?_
              refine lv_iload hx hb dX8_haven_41 (lv_at hl 5 rfl) ?_
              refine h_goi hI (by decide) (va_runV (As := [.int p1, .int v5_27]) (rest := []) ⟨hx, hb, hml, hown, hts⟩ (h_timeIn_X8 l D g σ Z hZ0 M_27 N R x g_x p1 i9 v5_27 i23) (cwV 2 hts gX8_haven_X8_timeIn rfl rfl rfl (by decide +kernel) ⟨Nat.le_of_ble_eq_true rfl, Nat.le_of_ble_eq_true rfl⟩) (h_preV hZ0 hK hE hI g_x (by decide) rfl) rfl rfl hl.1 rfl (lv_room (Nat.le_of_ble_eq_true rfl)) dX8_haven_43 ⟨Nat.le_of_ble_eq_true rfl, Nat.le_of_ble_eq_true rfl⟩) (fun r24 M25 N26 R27 H locs q28 z_M25 hI => ?_)
              obtain ⟨rfl, rfl, i_r24⟩ := q28
              refine lv_istore (lv' := [(6, .int r24), (0, .ref x), (1, .int p1), (2, .int p2), (3, .int v3_27), (4, .int v4_27), (5, .int v5_27)]) hx hb dX8_haven_46 hl (by decide) rfl (fun ls hl => ?_)
              refine lv_iload hx hb dX8_haven_48 (lv_at hl 0 rfl) ?_
              refine lv_iload hx hb dX8_haven_50 (lv_at hl 5 rfl) ?_
              have J62 : ∀ (v3_62 : Int32) (v4_62 : Int32) (H : Heap) (locs : List Loc) (ls : Array Slot), kI D g σ e_h_haven_X8 M s.heap M25 N R H locs → lv_has ls 7 [(0, .ref x), (1, .int p1), (2, .int p2), (3, .int v3_62), (4, .int v4_62), (5, .int v5_27)] → iv v3_62 (-1) 7 → iv v4_62 (-1) 99 → W p l e (headSpec wsX8_haven ({ frames := 5, cells := 0, slots := 0, locals := 117 })).room s m ar below meth c H locs 0 0 Q (F0 m 62 ls []) := by
                intro v3_62 v4_62 H locs ls hI hl i_v3_62 i_v4_62
                obtain ⟨v29, e_v29⟩ : ∃ z : Int32, z = v5_27 + Int32.ofInt 1 := ⟨_, rfl⟩
                have i_v29 : iv v29 1 8 := by rw [e_v29]; exact iv_add i23 (ki_1) (by decide) (by decide) (by decide) (by decide)
                refine lv_iinc (v := v29) (lv' := [(5, .int v29), (0, .ref x), (1, .int p1), (2, .int p2), (3, .int v3_62), (4, .int v4_62)]) hx hb dX8_haven_62 hl (k := 5) rfl e_v29.symm (by decide) rfl (fun ls hl => ?_)
                refine lv_goto (tgt := 27) hx hb dX8_haven_65 (by decide) ?_
                exact ih27 M25 v3_62 v4_62 v29 H locs ls hI (lv_sub hl [1, 2, 3, 4, 5, 0] rfl) i_v3_62 i_v4_62 (iv_w (lo' := 0) (hi' := 8) i_v29 (by decide) (by decide)) (by have h9 := (h_inc e_v29 i23 ki_1 (by decide) (by decide)); omega)
              refine lv_icmp_le (tgt := 62) hx hb dX8_haven_52 (by decide) (fun c30 => ?_) (fun c30 => ?_)
              · exact J62 v3_27 v4_27 H locs ls hI (lv_sub hl [1, 2, 3, 4, 5, 6] rfl) i_v3_27 i_v4_27
              · have i31 : iv r24 0 99 := iv_nle1 c30 i_r24 i_v4_27 (by decide)
                have i32 : iv v4_27 (-1) 98 := iv_nle2 c30 i_r24 i_v4_27 (by decide)
                refine lv_iload hx hb dX8_haven_55 (lv_at hl 6 rfl) ?_
                refine lv_istore_n (lv' := [(3, .int v5_27), (6, .int r24), (0, .ref x), (1, .int p1), (2, .int p2), (4, .int v4_27), (5, .int v5_27)]) hx hb dX8_haven_57 rfl hl (by decide) rfl (fun ls hl => ?_)
                refine lv_iload hx hb dX8_haven_58 (lv_at hl 1 rfl) ?_
                refine lv_istore (lv' := [(4, .int r24), (3, .int v5_27), (6, .int r24), (0, .ref x), (1, .int p1), (2, .int p2), (5, .int v5_27)]) hx hb dX8_haven_60 hl (by decide) rfl (fun ls hl => ?_)
                exact J62 v5_27 r24 H locs ls hI (lv_sub hl [3, 4, 5, 1, 0, 6] rfl) (iv_w (lo' := (-1)) (hi' := 7) i23 (by decide) (by decide)) (iv_w (lo' := (-1)) (hi' := 99) i31 (by decide) (by decide))
        refine lv_istore (lv' := [(5, .int (0 : Int32)), (4, .int (-1 : Int32)), (3, .int (-1 : Int32)), (0, .ref x), (1, .int p1), (2, .int p2)]) hx hb dX8_haven_25 hl (by decide) rfl (fun ls hl => ?_)
        exact J27 9 M (-1 : Int32) (-1 : Int32) (0 : Int32) H locs ls hI (lv_sub hl [3, 4, 5, 2, 1, 0] rfl) (iv_w (lo' := (-1)) (hi' := 7) kc_m1 (by decide) (by decide)) (iv_w (lo' := (-1)) (hi' := 99) kc_m1 (by decide) (by decide)) (iv_w (lo' := 0) (hi' := 8) kc_0 (by decide) (by decide)) (by have h9 := kc_0; simp only [iv] at h9; omega)
      · have i33 : iv p2 2 2147483647 := iv_nle1 c14 i13 kc_1 (by decide)
        refine lv_iconst (v := (-1)) hx hb dX8_haven_17 (by decide) ?_
        exact h_iret hQ hx hb hr hlocks rfl hK hI ⟨rfl, rfl, (iv_w (lo' := (-1)) (hi' := 99) kc_m1 (by decide) (by decide))⟩ dX8_haven_18
abbrev e_h_odds_X8 : List (Nat × Nat) := []
set_option maxHeartbeats 4000000 in
set_option maxRecDepth 100000 in
theorem h_odds_X8 (l : Launch) (D : va_G) (g : Nat → ClassId) (σ : Nat → Option Nat) (Z : State → Heap → Prop) (hZ0 : hZ σ Z) (M : hM) (N : hN) (R : hR) (x : Nat) (g_x : σ x = some 8) (p1 : Int32) (p2 : Int32) (p3 : Int32) : Met l yX8_odds wsX8_odds ({ frames := 2, cells := 0, slots := 0, locals := 42 }) (va_Pc [.ref x, .int p1, .int p2, .int p3] (hPre D g σ Z M N R)) (hQi D g σ e_h_odds_X8 M (fun (r : Int32) (M1 : hM) (N1 : hN) (R1 : hR) => M = M1 ∧ N = N1 ∧ R = R1)) 0 0 (hA σ) := by
  refine h_head (cc := cX8_odds) (maxL := 7) (ret := (some .int)) (by decide) rfl (Nat.le_of_ble_eq_true rfl) e_h_odds_X8 ?_
  intro p e s m below meth c ls Q ar hQ hx hb hr hlocks hml hown hts hK hE H locs hI hl
  have hown : s.vm.findClass RX8 = some m.cls := hown
  have hl : lv_has ls 7 [(0, .ref x), (1, .int p1), (2, .int p2), (3, .int p3)] := hl
  refine lv_aload_n hx hb dX8_odds_0 rfl (lv_at hl 0 rfl) ?_
  refine lv_iload_n hx hb dX8_odds_1 rfl (lv_at hl 1 rfl) ?_
  refine h_goi hI (by decide) (va_runV (As := [.int p1]) (rest := []) ⟨hx, hb, hml, hown, hts⟩ (h_isLivingCat_X8 l D g σ Z hZ0 M N R x g_x p1) (cwV 1 hts gX8_odds_X8_isLivingCat rfl rfl rfl (by decide +kernel) ⟨Nat.le_of_ble_eq_true rfl, Nat.le_of_ble_eq_true rfl⟩) (h_preV hZ0 hK hE hI g_x (by decide) rfl) rfl rfl hl.1 rfl (lv_room (Nat.le_of_ble_eq_true rfl)) dX8_odds_2 ⟨Nat.le_of_ble_eq_true rfl, Nat.le_of_ble_eq_true rfl⟩) (fun r1 M2 N3 R4 H locs q5 z_M2 hI => ?_)
  obtain ⟨rfl, rfl, rfl, i_r1, z6⟩ := q5
  refine lv_if_eq (tgt := 26) hx hb dX8_odds_5 (by decide) (fun c7 => ?_) (fun c7 => ?_)
  · have i8 : iv r1 0 0 := iv_eq1 c7 i_r1 kc_0
    refine lv_iconst (v := (-1)) hx hb dX8_odds_26 (by decide) ?_
    exact h_iret hQ hx hb hr hlocks rfl hK hI ⟨rfl, rfl, rfl⟩ dX8_odds_27
  · have i9 : iv p1 0 5 := z6 c7
    have i10 : iv r1 1 1 := iv_neL c7 i_r1 (by decide) (by decide)
    refine lv_iload_n hx hb dX8_odds_8 rfl (lv_at hl 2 rfl) ?_
    refine lv_if_lt (tgt := 26) hx hb dX8_odds_9 (by decide) (fun c11 => ?_) (fun c11 => ?_)
    · have i12 : iv p2 (-2147483648) (-1) := iv_lt1 c11 (iv_any p2) kc_0 (by decide)
      refine lv_iconst (v := (-1)) hx hb dX8_odds_26 (by decide) ?_
      exact h_iret hQ hx hb hr hlocks rfl hK hI ⟨rfl, rfl, rfl⟩ dX8_odds_27
    · have i13 : iv p2 0 2147483647 := iv_nlt1 c11 (iv_any p2) kc_0 (by decide)
      refine lv_iload_n hx hb dX8_odds_12 rfl (lv_at hl 2 rfl) ?_
      refine lv_iconst (v := 4) hx hb dX8_odds_13 (by decide) ?_
      refine lv_icmp_gt (tgt := 26) hx hb dX8_odds_14 (by decide) (fun c14 => ?_) (fun c14 => ?_)
      · have i15 : iv p2 5 2147483647 := iv_lt2 c14 kc_4 i13 (by decide)
        refine lv_iconst (v := (-1)) hx hb dX8_odds_26 (by decide) ?_
        exact h_iret hQ hx hb hr hlocks rfl hK hI ⟨rfl, rfl, rfl⟩ dX8_odds_27
      · have i16 : iv p2 0 4 := iv_nlt2 c14 kc_4 i13 (by decide)
        refine lv_iload_n hx hb dX8_odds_17 rfl (lv_at hl 3 rfl) ?_
        refine lv_if_lt (tgt := 26) hx hb dX8_odds_18 (by decide) (fun c17 => ?_) (fun c17 => ?_)
        · have i18 : iv p3 (-2147483648) (-1) := iv_lt1 c17 (iv_any p3) kc_0 (by decide)
          refine lv_iconst (v := (-1)) hx hb dX8_odds_26 (by decide) ?_
          exact h_iret hQ hx hb hr hlocks rfl hK hI ⟨rfl, rfl, rfl⟩ dX8_odds_27
        · have i19 : iv p3 0 2147483647 := iv_nlt1 c17 (iv_any p3) kc_0 (by decide)
          refine lv_iload_n hx hb dX8_odds_21 rfl (lv_at hl 3 rfl) ?_
          refine lv_iconst (v := 1) hx hb dX8_odds_22 (by decide) ?_
          refine lv_icmp_le (tgt := 28) hx hb dX8_odds_23 (by decide) (fun c20 => ?_) (fun c20 => ?_)
          · have i21 : iv p3 0 1 := iv_le1 c20 i19 kc_1 (by decide)
            refine lv_iconst (v := 1) hx hb dX8_odds_28 (by decide) ?_
            refine lv_istore (lv' := [(4, .int (1 : Int32)), (0, .ref x), (1, .int p1), (2, .int p2), (3, .int p3)]) hx hb dX8_odds_29 hl (by decide) rfl (fun ls hl => ?_)
            refine lv_iconst (v := 1) hx hb dX8_odds_31 (by decide) ?_
            refine lv_istore (lv' := [(5, .int (1 : Int32)), (4, .int (1 : Int32)), (0, .ref x), (1, .int p1), (2, .int p2), (3, .int p3)]) hx hb dX8_odds_32 hl (by decide) rfl (fun ls hl => ?_)
            refine lv_iconst (v := 0) hx hb dX8_odds_34 (by decide) ?_
            have J37 : ∀ (n : Nat) (v4_37 : Int32) (v5_37 : Int32) (v6_37 : Int32) (H : Heap) (locs : List Loc) (ls : Array Slot), kI D g σ e_h_odds_X8 M s.heap M N R H locs → lv_has ls 7 [(0, .ref x), (2, .int p2), (3, .int p3), (4, .int v4_37), (5, .int v5_37), (6, .int v6_37)] → iv v6_37 0 4 → 5 ≤ v6_37.toInt + (n : Int) → W p l e (headSpec wsX8_odds ({ frames := 2, cells := 0, slots := 0, locals := 42 })).room s m ar below meth c H locs 0 0 Q (F0 m 37 ls []) := by
              intro n
              induction n with
              | zero => intro v4_37 v5_37 v6_37 H locs ls hI hl i_v6_37 hn; exfalso; have hz := i_v6_37; simp only [iv] at hz; omega
              | succ n ih37 =>
                intro v4_37 v5_37 v6_37 H locs ls hI hl i_v6_37 hn37
                refine lv_iload hx hb dX8_odds_37 (lv_at hl 5 rfl) ?_
                refine lv_iload_n hx hb dX8_odds_39 rfl (lv_at hl 1 rfl) ?_
                refine lv_icmp_ge (tgt := 71) hx hb dX8_odds_40 (by decide) (fun c22 => ?_) (fun c22 => ?_)
                · refine lv_iload hx hb dX8_odds_71 (lv_at hl 3 rfl) ?_
                  refine lv_iload hx hb dX8_odds_73 (lv_at hl 4 rfl) ?_
                  refine h_goi hI (by decide) (va_runS (As := [.int v4_37, .int v5_37]) (rest := []) ⟨hx, hb, hml, hown, hts⟩ (h_commonDivisor_X8 l D g σ Z hZ0 M N R v4_37 v5_37) (va_cwS 2 hts gX8_odds_X8_commonDivisor rfl rfl rfl (by decide +kernel) ⟨Nat.le_of_ble_eq_true rfl, Nat.le_of_ble_eq_true rfl⟩) (h_preS hZ0 hK hE hI) rfl rfl hl.1 rfl (lv_room (Nat.le_of_ble_eq_true rfl)) dX8_odds_75 ⟨Nat.le_of_ble_eq_true rfl, Nat.le_of_ble_eq_true rfl⟩) (fun r23 M24 N25 R26 H locs q27 z_M24 hI => ?_)
                  obtain ⟨rfl, rfl, rfl⟩ := q27
                  refine lv_istore (lv' := [(6, .int r23), (0, .ref x), (2, .int p2), (3, .int p3), (4, .int v4_37), (5, .int v5_37)]) hx hb dX8_odds_78 hl (by decide) rfl (fun ls hl => ?_)
                  refine lv_iload_n hx hb dX8_odds_80 rfl (lv_at hl 3 rfl) ?_
                  have J91 : ∀ (t0_91 : Int32) (H : Heap) (locs : List Loc) (ls : Array Slot), kI D g σ e_h_odds_X8 M s.heap M N R H locs → lv_has ls 7 [(6, .int r23)] → W p l e (headSpec wsX8_odds ({ frames := 2, cells := 0, slots := 0, locals := 42 })).room s m ar below meth c H locs 0 0 Q (F0 m 91 ls [.int t0_91]) := by
                    intro t0_91 H locs ls hI hl
                    refine lv_iconst (v := 1) hx hb dX8_odds_91 (by decide) ?_
                    refine lv_iload hx hb dX8_odds_92 (lv_at hl 0 rfl) ?_
                    refine va_mmax hx hb (hml.trans hl.1.symm) hown (hts (.methodLink RX8 241 Lib.Math.max.name) (List.mem_of_getElem? (i := 3) rfl)) (hts (.static Lib.Math.max.name) (List.mem_of_getElem? (i := 4) rfl)) (hts (.initialized "java/lang/Math") (List.mem_of_getElem? (i := 5) rfl)) (hts (.code Lib.Math.max.name Lib.Math.max.code 2 (some .int)) (List.mem_of_getElem? (i := 6) rfl)) (Nat.le_of_ble_eq_true rfl) (Nat.le_of_ble_eq_true rfl) (Nat.le_of_ble_eq_true rfl) (Nat.le_of_ble_eq_true rfl) dX8_odds_94 ?_
                    refine h_nm (lo := 1) (hi := 2147483647) (iv_max kc_1 (iv_any r23) (by decide) (by decide) (by decide)) (fun v28 e_v28 i_v28 => ?_)
                    refine lv_idiv hx hb dX8_odds_97 (iv_ne i_v28 kc_0 (by decide)) ?_
                    refine h_nm (lo := (-2147483648)) (hi := 2147483647) (iv_any _) (fun v29 e_v29 i_v29 => ?_)
                    exact h_iret hQ hx hb hr hlocks rfl hK hI ⟨rfl, rfl, rfl⟩ dX8_odds_98
                  refine lv_if_ne (tgt := 89) hx hb dX8_odds_81 (by decide) (fun c30 => ?_) (fun c30 => ?_)
                  · have i31 : iv p3 1 1 := iv_neL c30 i21 (by decide) (by decide)
                    refine lv_iload hx hb dX8_odds_89 (lv_at hl 5 rfl) ?_
                    exact J91 v5_37 H locs ls hI (lv_sub hl [0] rfl)
                  · have i32 : iv p3 0 0 := iv_eq1 c30 i21 kc_0
                    refine lv_iload hx hb dX8_odds_84 (lv_at hl 4 rfl) ?_
                    refine lv_goto (tgt := 91) hx hb dX8_odds_86 (by decide) ?_
                    exact J91 v4_37 H locs ls hI (lv_sub hl [0] rfl)
                · have i33 : iv p2 1 4 := iv_nle1 c22 i16 i_v6_37 (by decide)
                  have i34 : iv v6_37 0 3 := iv_nle2 c22 i16 i_v6_37 (by decide)
                  refine lv_iload hx hb dX8_odds_43 (lv_at hl 3 rfl) ?_
                  refine lv_bipush (v := 100) hx hb dX8_odds_45 (by decide) ?_
                  refine lv_aload_n hx hb dX8_odds_47 rfl (lv_at hl 0 rfl) ?_
                  refine h_getr hx hb hts iX8_odds_X8 hown hK hI g_x (by decide) rfl rfl 3 (by decide) rfl 4 rfl (hts (.fieldLink RX8 27 "CatLeases" "mews" "LCatLeases$Mews;") (List.mem_of_getElem? (i := 1) rfl)) (fun _ h9 => h9) dX8_odds_48 (fun a35 e_a35 g_a35 => ?_)
                  refine h_geti (lo := (-2147483648)) (hi := 2147483647) hx hb hts iX8_odds_X4 hown hK hI g_a35 (by decide) rfl rfl 3 (by decide) rfl rfl (hts (.fieldLink RX8 235 "CatLeases$Mews" "dies" "I") (List.mem_of_getElem? (i := 2) rfl)) (fun _ h9 => h9) dX8_odds_51 (fun v36 e_v36 i_v36 => ?_)
                  refine lv_isub hx hb dX8_odds_54 ?_
                  refine h_nm (lo := (-2147483648)) (hi := 2147483647) (iv_any _) (fun v37 e_v37 i_v37 => ?_)
                  refine lv_imul hx hb dX8_odds_55 ?_
                  refine h_nm (lo := (-2147483648)) (hi := 2147483647) (iv_any _) (fun v38 e_v38 i_v38 => ?_)
                  refine lv_istore (lv' := [(4, .int v38), (0, .ref x), (2, .int p2), (3, .int p3), (5, .int v5_37), (6, .int v6_37)]) hx hb dX8_odds_56 hl (by decide) rfl (fun ls hl => ?_)
                  refine lv_iload hx hb dX8_odds_58 (lv_at hl 4 rfl) ?_
                  refine lv_bipush (v := 100) hx hb dX8_odds_60 (by decide) ?_
                  refine lv_imul hx hb dX8_odds_62 ?_
                  refine h_nm (lo := (-2147483648)) (hi := 2147483647) (iv_any _) (fun v39 e_v39 i_v39 => ?_)
                  refine lv_istore (lv' := [(5, .int v39), (4, .int v38), (0, .ref x), (2, .int p2), (3, .int p3), (6, .int v6_37)]) hx hb dX8_odds_63 hl (by decide) rfl (fun ls hl => ?_)
                  obtain ⟨v40, e_v40⟩ : ∃ z : Int32, z = v6_37 + Int32.ofInt 1 := ⟨_, rfl⟩
                  have i_v40 : iv v40 1 4 := by rw [e_v40]; exact iv_add i34 (ki_1) (by decide) (by decide) (by decide) (by decide)
                  refine lv_iinc (v := v40) (lv' := [(6, .int v40), (5, .int v39), (4, .int v38), (0, .ref x), (2, .int p2), (3, .int p3)]) hx hb dX8_odds_65 hl (k := 5) rfl e_v40.symm (by decide) rfl (fun ls hl => ?_)
                  refine lv_goto (tgt := 37) hx hb dX8_odds_68 (by decide) ?_
                  exact ih37 v38 v39 v40 H locs ls hI (lv_sub hl [3, 4, 5, 2, 1, 0] rfl) (iv_w (lo' := 0) (hi' := 4) i_v40 (by decide) (by decide)) (by have h9 := (h_inc e_v40 i34 ki_1 (by decide) (by decide)); omega)
            refine lv_istore (lv' := [(6, .int (0 : Int32)), (5, .int (1 : Int32)), (4, .int (1 : Int32)), (0, .ref x), (1, .int p1), (2, .int p2), (3, .int p3)]) hx hb dX8_odds_35 hl (by decide) rfl (fun ls hl => ?_)
            exact J37 5 (1 : Int32) (1 : Int32) (0 : Int32) H locs ls hI (lv_sub hl [3, 5, 6, 2, 1, 0] rfl) (iv_w (lo' := 0) (hi' := 4) kc_0 (by decide) (by decide)) (by have h9 := kc_0; simp only [iv] at h9; omega)
          · have i41 : iv p3 2 2147483647 := iv_nle1 c20 i19 kc_1 (by decide)
            refine lv_iconst (v := (-1)) hx hb dX8_odds_26 (by decide) ?_
            exact h_iret hQ hx hb hr hlocks rfl hK hI ⟨rfl, rfl, rfl⟩ dX8_odds_27
abbrev e_h_letting_X8 : List (Nat × Nat) := [(3, 2), (3, 3), (8, 11), (13, 999), (14, 999), (18, 999), (28, 999), (29, 999)]
set_option maxHeartbeats 4000000 in
set_option maxRecDepth 100000 in
theorem h_letting_X8 (l : Launch) (D : va_G) (g : Nat → ClassId) (σ : Nat → Option Nat) (Z : State → Heap → Prop) (hZ0 : hZ σ Z) (M : hM) (N : hN) (R : hR) (x : Nat) (g_x : σ x = some 8) : Met l yX8_letting wsX8_letting ({ frames := 5, cells := 0, slots := 0, locals := 120 }) (va_Pc [.ref x] (hPre D g σ Z M N R)) (hQi D g σ e_h_letting_X8 M (fun (r : Int32) (M1 : hM) (N1 : hN) (R1 : hR) => N = N1 ∧ R = R1)) 0 0 (hA σ) := by
  refine h_head (cc := cX8_letting) (maxL := 1) (ret := (some .int)) (by decide) rfl (Nat.le_of_ble_eq_true rfl) e_h_letting_X8 ?_
  intro p e s m below meth c ls Q ar hQ hx hb hr hlocks hml hown hts hK hE H locs hI hl
  have hown : s.vm.findClass RX8 = some m.cls := hown
  have hl : lv_has ls 1 [(0, .ref x)] := hl
  refine lv_aload_n hx hb dX8_letting_0 rfl (lv_at hl 0 rfl) ?_
  refine h_getr hx hb hts iX8_letting_X8 hown hK hI g_x (by decide) rfl rfl 8 (by decide) rfl 3 rfl (hts (.fieldLink RX8 55 "CatLeases" "let" "LCatLeases$Letting;") (List.mem_of_getElem? (i := 1) rfl)) (fun _ h9 => h9) dX8_letting_1 (fun a1 e_a1 g_a1 => ?_)
  refine lv_aload_n hx hb dX8_letting_4 rfl (lv_at hl 0 rfl) ?_
  refine h_getr hx hb hts iX8_letting_X8 hown hK hI g_x (by decide) rfl rfl 3 (by decide) rfl 4 rfl (hts (.fieldLink RX8 27 "CatLeases" "mews" "LCatLeases$Mews;") (List.mem_of_getElem? (i := 2) rfl)) (fun _ h9 => h9) dX8_letting_5 (fun a2 e_a2 g_a2 => ?_)
  refine lv_aload_n hx hb dX8_letting_8 rfl (lv_at hl 0 rfl) ?_
  refine h_getr hx hb hts iX8_letting_X8 hown hK hI g_x (by decide) rfl rfl 4 (by decide) rfl 0 rfl (hts (.fieldLink RX8 34 "CatLeases" "acts" "LCatLeases$Acts;") (List.mem_of_getElem? (i := 3) rfl)) (fun _ h9 => h9) dX8_letting_9 (fun a3 e_a3 g_a3 => ?_)
  refine h_gor hI (by decide) (va_runV (As := []) (rest := [.ref a2, .ref a1]) ⟨hx, hb, hml, hown, hts⟩ (h_current_X0 l D g σ Z hZ0 M N R a3 g_a3) (cwV 0 hts gX8_letting_X0_current rfl rfl rfl (by decide +kernel) ⟨Nat.le_of_ble_eq_true rfl, Nat.le_of_ble_eq_true rfl⟩) (h_preV hZ0 hK hE hI g_a3 (by decide) rfl) rfl rfl hl.1 rfl (lv_room (Nat.le_of_ble_eq_true rfl)) dX8_letting_12 ⟨Nat.le_of_ble_eq_true rfl, Nat.le_of_ble_eq_true rfl⟩) (fun a4 M5 N6 R7 H locs q8 z_M5 hI => ?_)
  obtain ⟨rfl, rfl, rfl, g_a4⟩ := q8
  refine h_gov hI (by decide) (va_runV (As := [.ref a2, .ref a4]) (rest := []) ⟨hx, hb, hml, hown, hts⟩ (h_solve_X3 l D g σ Z hZ0 M N R a1 g_a1 a2 g_a2 a4 g_a4) (cwV 2 hts gX8_letting_X3_solve rfl rfl rfl (by decide +kernel) ⟨Nat.le_of_ble_eq_true rfl, Nat.le_of_ble_eq_true rfl⟩) (h_preV hZ0 hK hE hI g_a1 (by decide) rfl) rfl rfl hl.1 rfl (lv_room (Nat.le_of_ble_eq_true rfl)) dX8_letting_15 ⟨Nat.le_of_ble_eq_true rfl, Nat.le_of_ble_eq_true rfl⟩) (fun M10 N11 R12 H locs q13 z_M10 hI => ?_)
  obtain ⟨rfl, rfl⟩ := q13
  refine lv_aload_n hx hb dX8_letting_18 rfl (lv_at hl 0 rfl) ?_
  refine lv_aload_n hx hb dX8_letting_19 rfl (lv_at hl 0 rfl) ?_
  refine h_getr hx hb hts iX8_letting_X8 hown hK hI g_x (by decide) rfl rfl 3 (by decide) rfl 4 rfl (hts (.fieldLink RX8 27 "CatLeases" "mews" "LCatLeases$Mews;") (List.mem_of_getElem? (i := 2) rfl)) (fun _ h9 => h9) dX8_letting_20 (fun a14 e_a14 g_a14 => ?_)
  have q15 : a2 = a14 := (e_a2).trans e_a14.symm
  subst q15
  refine h_geti (lo := 0) (hi := 7) hx hb hts iX8_letting_X4 hown hK hI g_a2 (by decide) rfl rfl 2 (by decide) rfl rfl (hts (.fieldLink RX8 102 "CatLeases$Mews" "tenants" "I") (List.mem_of_getElem? (i := 4) rfl)) (fun _ h9 => h9) dX8_letting_23 (fun v16 e_v16 i_v16 => ?_)
  refine h_puti hx hb hts iX8_letting_X8 tyX8 tyX8_ok nmX8 hown hK hI g_x (by decide) rfl rfl 11 (by decide) rfl (hts (.fieldLink RX8 70 "CatLeases" "lyingCount" "I") (List.mem_of_getElem? (i := 5) rfl)) (fun _ h9 => h9) rfl .int (by decide +kernel) rfl rfl i_v16 rfl dX8_letting_26 (fun M17 H locs e_M17 hI => ?_)
  refine lv_aload_n hx hb dX8_letting_29 rfl (lv_at hl 0 rfl) ?_
  refine h_getr hx hb hts iX8_letting_X8 hown hK hI g_x (by decide) rfl rfl 8 (by decide) rfl 3 rfl (hts (.fieldLink RX8 55 "CatLeases" "let" "LCatLeases$Letting;") (List.mem_of_getElem? (i := 1) rfl)) (fun _ h9 => h9) dX8_letting_30 (fun a18 e_a18 g_a18 => ?_)
  have q19 : a1 = a18 := (e_a1).trans e_a18.symm
  subst q19
  refine lv_aload_n hx hb dX8_letting_33 rfl (lv_at hl 0 rfl) ?_
  refine h_getr hx hb hts iX8_letting_X8 hown hK hI g_x (by decide) rfl rfl 10 (by decide) rfl 13 rfl (hts (.fieldLink RX8 66 "CatLeases" "lying" "[I") (List.mem_of_getElem? (i := 6) rfl)) (fun _ h9 => h9) dX8_letting_34 (fun a20 e_a20 g_a20 => ?_)
  refine lv_aload_n hx hb dX8_letting_37 rfl (lv_at hl 0 rfl) ?_
  refine h_geti (lo := 0) (hi := 7) hx hb hts iX8_letting_X8 hown hK hI g_x (by decide) rfl rfl 11 (by decide) rfl rfl (hts (.fieldLink RX8 70 "CatLeases" "lyingCount" "I") (List.mem_of_getElem? (i := 5) rfl)) (fun _ h9 => h9) dX8_letting_38 (fun v21 e_v21 i_v21 => ?_)
  have q22 : v16 = v21 := ((u2_wr e_M17)).trans e_v21.symm
  subst q22
  refine h_gov hI (by decide) (va_runV (As := [.ref a20, .int v16]) (rest := []) ⟨hx, hb, hml, hown, hts⟩ (h_tell_X3 l D g σ Z hZ0 M17 N R a1 g_a1 a20 g_a20 v16) (cwV 2 hts gX8_letting_X3_tell rfl rfl rfl (by decide +kernel) ⟨Nat.le_of_ble_eq_true rfl, Nat.le_of_ble_eq_true rfl⟩) (h_preV hZ0 hK hE hI g_a1 (by decide) rfl) rfl rfl hl.1 rfl (lv_room (Nat.le_of_ble_eq_true rfl)) dX8_letting_41 ⟨Nat.le_of_ble_eq_true rfl, Nat.le_of_ble_eq_true rfl⟩) (fun M24 N25 R26 H locs q27 z_M24 hI => ?_)
  obtain ⟨rfl, rfl⟩ := q27
  refine lv_aload_n hx hb dX8_letting_44 rfl (lv_at hl 0 rfl) ?_
  refine h_getr hx hb hts iX8_letting_X8 hown hK hI g_x (by decide) rfl rfl 8 (by decide) rfl 3 rfl (hts (.fieldLink RX8 55 "CatLeases" "let" "LCatLeases$Letting;") (List.mem_of_getElem? (i := 1) rfl)) (fun _ h9 => h9) dX8_letting_45 (fun a28 e_a28 g_a28 => ?_)
  have q29 : a1 = a28 := (e_a1).trans e_a28.symm
  subst q29
  refine h_goi hI (by decide) (va_runV (As := []) (rest := []) ⟨hx, hb, hml, hown, hts⟩ (h_count_X3 l D g σ Z hZ0 M24 N R a1 g_a1) (cwV 0 hts gX8_letting_X3_count rfl rfl rfl (by decide +kernel) ⟨Nat.le_of_ble_eq_true rfl, Nat.le_of_ble_eq_true rfl⟩) (h_preV hZ0 hK hE hI g_a1 (by decide) rfl) rfl rfl hl.1 rfl (lv_room (Nat.le_of_ble_eq_true rfl)) dX8_letting_48 ⟨Nat.le_of_ble_eq_true rfl, Nat.le_of_ble_eq_true rfl⟩) (fun r30 M31 N32 R33 H locs q34 z_M31 hI => ?_)
  obtain ⟨rfl, rfl, rfl⟩ := q34
  exact h_iret hQ hx hb hr hlocks rfl hK hI ⟨rfl, rfl⟩ dX8_letting_51
