abbrev e_h_crowd_X8 : List (Nat × Nat) := [(14, 999), (18, 999)]
set_option maxHeartbeats 4000000 in
set_option maxRecDepth 100000 in
theorem h_crowd_X8 (l : Launch) (D : va_G) (g : Nat → ClassId) (σ : Nat → Option Nat) (Z : State → Heap → Prop) (hZ0 : hZ σ Z) (M : hM) (N : hN) (R : hR) (x : Nat) (g_x : σ x = some 8) (p1 : Int32) : Met l yX8_crowd wsX8_crowd ({ frames := 4, cells := 0, slots := 0, locals := 93 }) (va_Pc [.ref x, .int p1] (hPre D g σ Z M N R)) (hQi D g σ e_h_crowd_X8 M (fun (r : Int32) (M1 : hM) (N1 : hN) (R1 : hR) => N = N1 ∧ R = R1 ∧ iv r (-1) 8)) 0 0 (hA σ) := by
  refine h_head (cc := cX8_crowd) (maxL := 3) (ret := (some .int)) (by decide) rfl (Nat.le_of_ble_eq_true rfl) e_h_crowd_X8 ?_
  intro p e s m below meth c ls Q ar hQ hx hb hr hlocks hml hown hts hK hE H locs hI hl
  have hown : s.vm.findClass RX8 = some m.cls := hown
  have hl : lv_has ls 3 [(0, .ref x), (1, .int p1)] := hl
  refine lv_aload_n hx hb dX8_crowd_0 rfl (lv_at hl 0 rfl) ?_
  refine lv_iload_n hx hb dX8_crowd_1 rfl (lv_at hl 1 rfl) ?_
  refine h_goi hI (by decide) (va_runV (As := [.int p1]) (rest := []) ⟨hx, hb, hml, hown, hts⟩ (h_isLivingCat_X8 l D g σ Z hZ0 M N R x g_x p1) (cwV 1 hts gX8_crowd_X8_isLivingCat rfl rfl rfl (by decide +kernel) ⟨Nat.le_of_ble_eq_true rfl, Nat.le_of_ble_eq_true rfl⟩) (h_preV hZ0 hK hE hI g_x (by decide) rfl) rfl rfl hl.1 rfl (lv_room (Nat.le_of_ble_eq_true rfl)) dX8_crowd_2 ⟨Nat.le_of_ble_eq_true rfl, Nat.le_of_ble_eq_true rfl⟩) (fun r1 M2 N3 R4 H locs q5 z_M2 hI => ?_)
  obtain ⟨rfl, rfl, rfl, i_r1, z6⟩ := q5
  refine lv_if_ne (tgt := 10) hx hb dX8_crowd_5 (by decide) (fun c7 => ?_) (fun c7 => ?_)
  · have i8 : iv p1 0 5 := z6 c7
    have i9 : iv r1 1 1 := iv_neL c7 i_r1 (by decide) (by decide)
    refine lv_bipush (v := 8) hx hb dX8_crowd_10 (by decide) ?_
    have J13 : ∀ (n : Nat) (M_13 : hM) (v2_13 : Int32) (H : Heap) (locs : List Loc) (ls : Array Slot), kI D g σ e_h_crowd_X8 M s.heap M_13 N R H locs → lv_has ls 3 [(0, .ref x), (1, .int p1), (2, .int v2_13)] → iv v2_13 (-1) 8 → v2_13.toInt ≤ (-2) + (n : Int) → W p l e (headSpec wsX8_crowd ({ frames := 4, cells := 0, slots := 0, locals := 93 })).room s m ar below meth c H locs 0 0 Q (F0 m 13 ls []) := by
      intro n
      induction n with
      | zero => intro M_13 v2_13 H locs ls hI hl i_v2_13 hn; exfalso; have hz := i_v2_13; simp only [iv] at hz; omega
      | succ n ih13 =>
        intro M_13 v2_13 H locs ls hI hl i_v2_13 hn13
        refine lv_iload_n hx hb dX8_crowd_13 rfl (lv_at hl 2 rfl) ?_
        refine lv_if_lt (tgt := 34) hx hb dX8_crowd_14 (by decide) (fun c10 => ?_) (fun c10 => ?_)
        · have i11 : iv v2_13 (-1) (-1) := iv_lt1 c10 i_v2_13 kc_0 (by decide)
          refine lv_iconst (v := (-1)) hx hb dX8_crowd_34 (by decide) ?_
          exact h_iret hQ hx hb hr hlocks rfl hK hI ⟨rfl, rfl, (iv_w (lo' := (-1)) (hi' := 8) kc_m1 (by decide) (by decide))⟩ dX8_crowd_35
        · have i12 : iv v2_13 0 8 := iv_nlt1 c10 i_v2_13 kc_0 (by decide)
          refine lv_aload_n hx hb dX8_crowd_17 rfl (lv_at hl 0 rfl) ?_
          refine lv_iload_n hx hb dX8_crowd_18 rfl (lv_at hl 1 rfl) ?_
          refine lv_iload_n hx hb dX8_crowd_19 rfl (lv_at hl 2 rfl) ?_
          refine h_goi hI (by decide) (va_runV (As := [.int p1, .int v2_13]) (rest := []) ⟨hx, hb, hml, hown, hts⟩ (h_likesAllBy_X8 l D g σ Z hZ0 M_13 N R x g_x p1 v2_13) (cwV 2 hts gX8_crowd_X8_likesAllBy rfl rfl rfl (by decide +kernel) ⟨Nat.le_of_ble_eq_true rfl, Nat.le_of_ble_eq_true rfl⟩) (h_preV hZ0 hK hE hI g_x (by decide) rfl) rfl rfl hl.1 rfl (lv_room (Nat.le_of_ble_eq_true rfl)) dX8_crowd_20 ⟨Nat.le_of_ble_eq_true rfl, Nat.le_of_ble_eq_true rfl⟩) (fun r13 M14 N15 R16 H locs q17 z_M14 hI => ?_)
          obtain ⟨rfl, rfl, i_r13⟩ := q17
          refine lv_if_eq (tgt := 28) hx hb dX8_crowd_23 (by decide) (fun c18 => ?_) (fun c18 => ?_)
          · have i19 : iv r13 0 0 := iv_eq1 c18 i_r13 kc_0
            obtain ⟨v20, e_v20⟩ : ∃ z : Int32, z = v2_13 + Int32.ofInt (-1) := ⟨_, rfl⟩
            have i_v20 : iv v20 (-1) 7 := by rw [e_v20]; exact iv_add i12 (ki_m1) (by decide) (by decide) (by decide) (by decide)
            refine lv_iinc (v := v20) (lv' := [(2, .int v20), (0, .ref x), (1, .int p1)]) hx hb dX8_crowd_28 hl (k := 2) rfl e_v20.symm (by decide) rfl (fun ls hl => ?_)
            refine lv_goto (tgt := 13) hx hb dX8_crowd_31 (by decide) ?_
            exact ih13 M14 v20 H locs ls hI (lv_sub hl [1, 2, 0] rfl) (iv_w (lo' := (-1)) (hi' := 8) i_v20 (by decide) (by decide)) (by have h9 := (h_inc e_v20 i12 ki_m1 (by decide) (by decide)); omega)
          · have i21 : iv r13 1 1 := iv_neL c18 i_r13 (by decide) (by decide)
            refine lv_iload_n hx hb dX8_crowd_26 rfl (lv_at hl 2 rfl) ?_
            exact h_iret hQ hx hb hr hlocks rfl hK hI ⟨rfl, rfl, (iv_w (lo' := (-1)) (hi' := 8) i12 (by decide) (by decide))⟩ dX8_crowd_27
    refine lv_istore_n (lv' := [(2, .int (8 : Int32)), (0, .ref x), (1, .int p1)]) hx hb dX8_crowd_12 rfl hl (by decide) rfl (fun ls hl => ?_)
    exact J13 10 M (8 : Int32) H locs ls hI (lv_sub hl [1, 2, 0] rfl) (iv_w (lo' := (-1)) (hi' := 8) kc_8 (by decide) (by decide)) (by have h9 := kc_8; simp only [iv] at h9; omega)
  · have i22 : iv r1 0 0 := iv_eq1 c7 i_r1 kc_0
    refine lv_iconst (v := (-1)) hx hb dX8_crowd_8 (by decide) ?_
    exact h_iret hQ hx hb hr hlocks rfl hK hI ⟨rfl, rfl, (iv_w (lo' := (-1)) (hi' := 8) kc_m1 (by decide) (by decide))⟩ dX8_crowd_9
abbrev e_h_fondest_X8 : List (Nat × Nat) := [(14, 999), (18, 999)]
set_option maxHeartbeats 4000000 in
set_option maxRecDepth 100000 in
theorem h_fondest_X8 (l : Launch) (D : va_G) (g : Nat → ClassId) (σ : Nat → Option Nat) (Z : State → Heap → Prop) (hZ0 : hZ σ Z) (M : hM) (N : hN) (R : hR) (x : Nat) (g_x : σ x = some 8) : Met l yX8_fondest wsX8_fondest ({ frames := 4, cells := 0, slots := 0, locals := 95 }) (va_Pc [.ref x] (hPre D g σ Z M N R)) (hQi D g σ e_h_fondest_X8 M (fun (r : Int32) (M1 : hM) (N1 : hN) (R1 : hR) => N = N1 ∧ R = R1 ∧ iv r (-1) 5)) 0 0 (hA σ) := by
  refine h_head (cc := cX8_fondest) (maxL := 7) (ret := (some .int)) (by decide) rfl (Nat.le_of_ble_eq_true rfl) e_h_fondest_X8 ?_
  intro p e s m below meth c ls Q ar hQ hx hb hr hlocks hml hown hts hK hE H locs hI hl
  have hown : s.vm.findClass RX8 = some m.cls := hown
  have hl : lv_has ls 7 [(0, .ref x)] := hl
  refine lv_aload_n hx hb dX8_fondest_0 rfl (lv_at hl 0 rfl) ?_
  refine h_getr hx hb hts iX8_fondest_X8 hown hK hI g_x (by decide) rfl rfl 4 (by decide) rfl 0 rfl (hts (.fieldLink RX8 34 "CatLeases" "acts" "LCatLeases$Acts;") (List.mem_of_getElem? (i := 1) rfl)) (fun _ h9 => h9) dX8_fondest_1 (fun a1 e_a1 g_a1 => ?_)
  refine h_gor hI (by decide) (va_runV (As := []) (rest := []) ⟨hx, hb, hml, hown, hts⟩ (h_current_X0 l D g σ Z hZ0 M N R a1 g_a1) (cwV 0 hts gX8_fondest_X0_current rfl rfl rfl (by decide +kernel) ⟨Nat.le_of_ble_eq_true rfl, Nat.le_of_ble_eq_true rfl⟩) (h_preV hZ0 hK hE hI g_a1 (by decide) rfl) rfl rfl hl.1 rfl (lv_room (Nat.le_of_ble_eq_true rfl)) dX8_fondest_4 ⟨Nat.le_of_ble_eq_true rfl, Nat.le_of_ble_eq_true rfl⟩) (fun a2 M3 N4 R5 H locs q6 z_M3 hI => ?_)
  obtain ⟨rfl, rfl, rfl, g_a2⟩ := q6
  refine lv_astore_n (lv' := [(1, .ref a2), (0, .ref x)]) hx hb dX8_fondest_7 rfl hl (by decide) rfl (fun ls hl => ?_)
  refine lv_iconst (v := (-1)) hx hb dX8_fondest_8 (by decide) ?_
  refine lv_istore_n (lv' := [(2, .int (-1 : Int32)), (1, .ref a2), (0, .ref x)]) hx hb dX8_fondest_9 rfl hl (by decide) rfl (fun ls hl => ?_)
  refine lv_iconst (v := 0) hx hb dX8_fondest_10 (by decide) ?_
  refine lv_istore_n (lv' := [(3, .int (0 : Int32)), (2, .int (-1 : Int32)), (1, .ref a2), (0, .ref x)]) hx hb dX8_fondest_11 rfl hl (by decide) rfl (fun ls hl => ?_)
  refine lv_iconst (v := 0) hx hb dX8_fondest_12 (by decide) ?_
  have J15 : ∀ (n : Nat) (M_15 : hM) (v2_15 : Int32) (v3_15 : Int32) (v4_15 : Int32) (H : Heap) (locs : List Loc) (ls : Array Slot), kI D g σ e_h_fondest_X8 M s.heap M_15 N R H locs → lv_has ls 7 [(0, .ref x), (1, .ref a2), (2, .int v2_15), (3, .int v3_15), (4, .int v4_15)] → iv v2_15 (-1) 5 → iv v4_15 0 6 → 7 ≤ v4_15.toInt + (n : Int) → W p l e (headSpec wsX8_fondest ({ frames := 4, cells := 0, slots := 0, locals := 95 })).room s m ar below meth c H locs 0 0 Q (F0 m 15 ls []) := by
    intro n
    induction n with
    | zero => intro M_15 v2_15 v3_15 v4_15 H locs ls hI hl i_v2_15 i_v4_15 hn; exfalso; have hz := i_v4_15; simp only [iv] at hz; omega
    | succ n ih15 =>
      intro M_15 v2_15 v3_15 v4_15 H locs ls hI hl i_v2_15 i_v4_15 hn15
      refine lv_iload hx hb dX8_fondest_15 (lv_at hl 4 rfl) ?_
      refine lv_aload_n hx hb dX8_fondest_17 rfl (lv_at hl 0 rfl) ?_
      refine h_getr hx hb hts iX8_fondest_X8 hown hK hI g_x (by decide) rfl rfl 3 (by decide) rfl 4 rfl (hts (.fieldLink RX8 27 "CatLeases" "mews" "LCatLeases$Mews;") (List.mem_of_getElem? (i := 2) rfl)) (fun _ h9 => h9) dX8_fondest_18 (fun a7 e_a7 g_a7 => ?_)
      refine h_geti (lo := 0) (hi := 6) hx hb hts iX8_fondest_X4 hown hK hI g_a7 (by decide) rfl rfl 0 (by decide) rfl rfl (hts (.fieldLink RX8 170 "CatLeases$Mews" "cats" "I") (List.mem_of_getElem? (i := 3) rfl)) (fun _ h9 => h9) dX8_fondest_21 (fun v8 e_v8 i_v8 => ?_)
      refine lv_icmp_ge (tgt := 75) hx hb dX8_fondest_24 (by decide) (fun c9 => ?_) (fun c9 => ?_)
      · refine lv_iload_n hx hb dX8_fondest_75 rfl (lv_at hl 2 rfl) ?_
        exact h_iret hQ hx hb hr hlocks rfl hK hI ⟨rfl, rfl, i_v2_15⟩ dX8_fondest_76
      · have i10 : iv v8 1 6 := iv_nle1 c9 i_v8 i_v4_15 (by decide)
        have i11 : iv v4_15 0 5 := iv_nle2 c9 i_v8 i_v4_15 (by decide)
        refine lv_aload_n hx hb dX8_fondest_27 rfl (lv_at hl 0 rfl) ?_
        refine h_getr hx hb hts iX8_fondest_X8 hown hK hI g_x (by decide) rfl rfl 3 (by decide) rfl 4 rfl (hts (.fieldLink RX8 27 "CatLeases" "mews" "LCatLeases$Mews;") (List.mem_of_getElem? (i := 2) rfl)) (fun _ h9 => h9) dX8_fondest_28 (fun a12 e_a12 g_a12 => ?_)
        have q13 : a7 = a12 := (e_a7).trans e_a12.symm
        subst q13
        refine lv_aload_n hx hb dX8_fondest_31 rfl (lv_at hl 1 rfl) ?_
        refine lv_iload hx hb dX8_fondest_32 (lv_at hl 4 rfl) ?_
        refine h_goi hI (by decide) (va_runV (As := [.ref a2, .int v4_15]) (rest := []) ⟨hx, hb, hml, hown, hts⟩ (h_tenantsOf_X4 l D g σ Z hZ0 M_15 N R a7 g_a7 a2 g_a2 v4_15) (cwV 2 hts gX8_fondest_X4_tenantsOf rfl rfl rfl (by decide +kernel) ⟨Nat.le_of_ble_eq_true rfl, Nat.le_of_ble_eq_true rfl⟩) (h_preV hZ0 hK hE hI g_a7 (by decide) rfl) rfl rfl hl.1 rfl (lv_room (Nat.le_of_ble_eq_true rfl)) dX8_fondest_34 ⟨Nat.le_of_ble_eq_true rfl, Nat.le_of_ble_eq_true rfl⟩) (fun r14 M15 N16 R17 H locs q18 z_M15 hI => ?_)
        obtain ⟨rfl, rfl, rfl, i_r14⟩ := q18
        refine lv_istore (lv' := [(5, .int r14), (0, .ref x), (1, .ref a2), (2, .int v2_15), (3, .int v3_15), (4, .int v4_15)]) hx hb dX8_fondest_37 hl (by decide) rfl (fun ls hl => ?_)
        refine lv_iload hx hb dX8_fondest_39 (lv_at hl 0 rfl) ?_
        have J69 : ∀ (M_69 : hM) (v2_69 : Int32) (v3_69 : Int32) (H : Heap) (locs : List Loc) (ls : Array Slot), kI D g σ e_h_fondest_X8 M s.heap M_69 N R H locs → lv_has ls 7 [(0, .ref x), (1, .ref a2), (2, .int v2_69), (3, .int v3_69), (4, .int v4_15)] → v8 = M_69 a7 0 → iv v2_69 (-1) 5 → W p l e (headSpec wsX8_fondest ({ frames := 4, cells := 0, slots := 0, locals := 95 })).room s m ar below meth c H locs 0 0 Q (F0 m 69 ls []) := by
          intro M_69 v2_69 v3_69 H locs ls hI hl k0_69 i_v2_69
          obtain ⟨v19, e_v19⟩ : ∃ z : Int32, z = v4_15 + Int32.ofInt 1 := ⟨_, rfl⟩
          have i_v19 : iv v19 1 6 := by rw [e_v19]; exact iv_add i11 (ki_1) (by decide) (by decide) (by decide) (by decide)
          refine lv_iinc (v := v19) (lv' := [(4, .int v19), (0, .ref x), (1, .ref a2), (2, .int v2_69), (3, .int v3_69)]) hx hb dX8_fondest_69 hl (k := 4) rfl e_v19.symm (by decide) rfl (fun ls hl => ?_)
          refine lv_goto (tgt := 15) hx hb dX8_fondest_72 (by decide) ?_
          exact ih15 M_69 v2_69 v3_69 v19 H locs ls hI (lv_sub hl [1, 2, 3, 4, 0] rfl) i_v2_69 (iv_w (lo' := 0) (hi' := 6) i_v19 (by decide) (by decide)) (by have h9 := (h_inc e_v19 i11 ki_1 (by decide) (by decide)); omega)
        refine lv_if_eq (tgt := 69) hx hb dX8_fondest_41 (by decide) (fun c20 => ?_) (fun c20 => ?_)
        · have i21 : iv r14 0 0 := iv_eq1 c20 i_r14 kc_0
          exact J69 M_15 v2_15 v3_15 H locs ls hI (lv_sub hl [1, 2, 3, 4, 5] rfl) (e_v8) i_v2_15
        · have i22 : iv r14 1 255 := iv_neL c20 i_r14 (by decide) (by decide)
          refine lv_aload_n hx hb dX8_fondest_44 rfl (lv_at hl 1 rfl) ?_
          refine lv_iload hx hb dX8_fondest_45 (lv_at hl 0 rfl) ?_
          refine h_goi hI (by decide) (va_runV (As := [.int r14]) (rest := []) ⟨hx, hb, hml, hown, hts⟩ (h_likingTogether_X8 l D g σ Z hZ0 M_15 N R x g_x r14) (cwV 1 hts gX8_fondest_X8_likingTogether rfl rfl rfl (by decide +kernel) ⟨Nat.le_of_ble_eq_true rfl, Nat.le_of_ble_eq_true rfl⟩) (h_preV hZ0 hK hE hI g_x (by decide) rfl) rfl rfl hl.1 rfl (lv_room (Nat.le_of_ble_eq_true rfl)) dX8_fondest_47 ⟨Nat.le_of_ble_eq_true rfl, Nat.le_of_ble_eq_true rfl⟩) (fun r23 M24 N25 R26 H locs q27 z_M24 hI => ?_)
          obtain ⟨rfl, rfl⟩ := q27
          refine lv_istore (lv' := [(6, .int r23), (5, .int r14), (0, .ref x), (1, .ref a2), (2, .int v2_15), (3, .int v3_15), (4, .int v4_15)]) hx hb dX8_fondest_50 hl (by decide) rfl (fun ls hl => ?_)
          refine lv_iload_n hx hb dX8_fondest_52 rfl (lv_at hl 4 rfl) ?_
          refine lv_iconst (v := (-1)) hx hb dX8_fondest_53 (by decide) ?_
          have J63 : ∀ (H : Heap) (locs : List Loc) (ls : Array Slot), kI D g σ e_h_fondest_X8 M s.heap M24 N R H locs → lv_has ls 7 [(0, .ref x), (1, .ref a2), (4, .int v4_15), (6, .int r23)] → W p l e (headSpec wsX8_fondest ({ frames := 4, cells := 0, slots := 0, locals := 95 })).room s m ar below meth c H locs 0 0 Q (F0 m 63 ls []) := by
            intro H locs ls hI hl
            refine lv_iload hx hb dX8_fondest_63 (lv_at hl 2 rfl) ?_
            refine lv_istore_n (lv' := [(2, .int v4_15), (0, .ref x), (1, .ref a2), (4, .int v4_15), (6, .int r23)]) hx hb dX8_fondest_65 rfl hl (by decide) rfl (fun ls hl => ?_)
            refine lv_iload hx hb dX8_fondest_66 (lv_at hl 4 rfl) ?_
            refine lv_istore_n (lv' := [(3, .int r23), (2, .int v4_15), (0, .ref x), (1, .ref a2), (4, .int v4_15), (6, .int r23)]) hx hb dX8_fondest_68 rfl hl (by decide) rfl (fun ls hl => ?_)
            exact J69 M24 v4_15 r23 H locs ls hI (lv_sub hl [2, 3, 1, 0, 4] rfl) ((e_v8).trans (z_M24 a7 4 0 g_a7 rfl).symm) (iv_w (lo' := (-1)) (hi' := 5) i11 (by decide) (by decide))
          refine lv_icmp_eq (tgt := 63) hx hb dX8_fondest_54 (by decide) (fun c28 => ?_) (fun c28 => ?_)
          · have i29 : iv v2_15 (-1) (-1) := iv_eq1 c28 i_v2_15 kc_m1
            exact J63 H locs ls hI (lv_sub hl [2, 3, 6, 0] rfl)
          · have i30 : iv v2_15 0 5 := iv_neL c28 i_v2_15 (by decide) (by decide)
            refine lv_iload hx hb dX8_fondest_57 (lv_at hl 0 rfl) ?_
            refine lv_iload_n hx hb dX8_fondest_59 rfl (lv_at hl 5 rfl) ?_
            refine lv_icmp_le (tgt := 69) hx hb dX8_fondest_60 (by decide) (fun c31 => ?_) (fun c31 => ?_)
            · exact J69 M24 v2_15 v3_15 H locs ls hI (lv_sub hl [2, 3, 4, 5, 6] rfl) ((e_v8).trans (z_M24 a7 4 0 g_a7 rfl).symm) (iv_w (lo' := (-1)) (hi' := 5) i30 (by decide) (by decide))
            · have i32 : iv r23 (-2147483647) 2147483647 := iv_nle1 c31 (iv_any r23) (iv_any v3_15) (by decide)
              have i33 : iv v3_15 (-2147483648) 2147483646 := iv_nle2 c31 (iv_any r23) (iv_any v3_15) (by decide)
              exact J63 H locs ls hI (lv_sub hl [2, 3, 6, 0] rfl)
  refine lv_istore (lv' := [(4, .int (0 : Int32)), (3, .int (0 : Int32)), (2, .int (-1 : Int32)), (1, .ref a2), (0, .ref x)]) hx hb dX8_fondest_13 hl (by decide) rfl (fun ls hl => ?_)
  exact J15 7 M (-1 : Int32) (0 : Int32) (0 : Int32) H locs ls hI (lv_sub hl [4, 3, 2, 1, 0] rfl) (iv_w (lo' := (-1)) (hi' := 5) kc_m1 (by decide) (by decide)) (iv_w (lo' := 0) (hi' := 6) kc_0 (by decide) (by decide)) (by have h9 := kc_0; simp only [iv] at h9; omega)
abbrev e_h_nobodys_X8 : List (Nat × Nat) := [(14, 999), (18, 999)]
set_option maxHeartbeats 4000000 in
set_option maxRecDepth 100000 in
theorem h_nobodys_X8 (l : Launch) (D : va_G) (g : Nat → ClassId) (σ : Nat → Option Nat) (Z : State → Heap → Prop) (hZ0 : hZ σ Z) (M : hM) (N : hN) (R : hR) (x : Nat) (g_x : σ x = some 8) : Met l yX8_nobodys wsX8_nobodys ({ frames := 4, cells := 0, slots := 0, locals := 93 }) (va_Pc [.ref x] (hPre D g σ Z M N R)) (hQi D g σ e_h_nobodys_X8 M (fun (r : Int32) (M1 : hM) (N1 : hN) (R1 : hR) => N = N1 ∧ R = R1 ∧ iv r 0 255)) 0 0 (hA σ) := by
  refine h_head (cc := cX8_nobodys) (maxL := 3) (ret := (some .int)) (by decide) rfl (Nat.le_of_ble_eq_true rfl) e_h_nobodys_X8 ?_
  intro p e s m below meth c ls Q ar hQ hx hb hr hlocks hml hown hts hK hE H locs hI hl
  have hown : s.vm.findClass RX8 = some m.cls := hown
  have hl : lv_has ls 3 [(0, .ref x)] := hl
  refine lv_iconst (v := 0) hx hb dX8_nobodys_0 (by decide) ?_
  refine lv_istore_n (lv' := [(1, .int (0 : Int32)), (0, .ref x)]) hx hb dX8_nobodys_1 rfl hl (by decide) rfl (fun ls hl => ?_)
  refine lv_iconst (v := 0) hx hb dX8_nobodys_2 (by decide) ?_
  have J4 : ∀ (n : Nat) (M_4 : hM) (v1_4 : Int32) (v2_4 : Int32) (H : Heap) (locs : List Loc) (ls : Array Slot), kI D g σ e_h_nobodys_X8 M s.heap M_4 N R H locs → lv_has ls 3 [(0, .ref x), (1, .int v1_4), (2, .int v2_4)] → iv v1_4 0 255 → iv v2_4 0 7 → 8 ≤ v2_4.toInt + (n : Int) → W p l e (headSpec wsX8_nobodys ({ frames := 4, cells := 0, slots := 0, locals := 93 })).room s m ar below meth c H locs 0 0 Q (F0 m 4 ls []) := by
    intro n
    induction n with
    | zero => intro M_4 v1_4 v2_4 H locs ls hI hl i_v1_4 i_v2_4 hn; exfalso; have hz := i_v2_4; simp only [iv] at hz; omega
    | succ n ih4 =>
      intro M_4 v1_4 v2_4 H locs ls hI hl i_v1_4 i_v2_4 hn4
      refine lv_iload_n hx hb dX8_nobodys_4 rfl (lv_at hl 2 rfl) ?_
      refine lv_aload_n hx hb dX8_nobodys_5 rfl (lv_at hl 0 rfl) ?_
      refine h_getr hx hb hts iX8_nobodys_X8 hown hK hI g_x (by decide) rfl rfl 3 (by decide) rfl 4 rfl (hts (.fieldLink RX8 27 "CatLeases" "mews" "LCatLeases$Mews;") (List.mem_of_getElem? (i := 1) rfl)) (fun _ h9 => h9) dX8_nobodys_6 (fun a1 e_a1 g_a1 => ?_)
      refine h_geti (lo := 0) (hi := 7) hx hb hts iX8_nobodys_X4 hown hK hI g_a1 (by decide) rfl rfl 2 (by decide) rfl rfl (hts (.fieldLink RX8 102 "CatLeases$Mews" "tenants" "I") (List.mem_of_getElem? (i := 2) rfl)) (fun _ h9 => h9) dX8_nobodys_9 (fun v2 e_v2 i_v2 => ?_)
      refine lv_icmp_ge (tgt := 35) hx hb dX8_nobodys_12 (by decide) (fun c3 => ?_) (fun c3 => ?_)
      · refine lv_iload_n hx hb dX8_nobodys_35 rfl (lv_at hl 1 rfl) ?_
        exact h_iret hQ hx hb hr hlocks rfl hK hI ⟨rfl, rfl, i_v1_4⟩ dX8_nobodys_36
      · have i4 : iv v2 1 7 := iv_nle1 c3 i_v2 i_v2_4 (by decide)
        have i5 : iv v2_4 0 6 := iv_nle2 c3 i_v2 i_v2_4 (by decide)
        refine lv_aload_n hx hb dX8_nobodys_15 rfl (lv_at hl 0 rfl) ?_
        refine lv_iload_n hx hb dX8_nobodys_16 rfl (lv_at hl 2 rfl) ?_
        refine h_goi hI (by decide) (va_runV (As := [.int v2_4]) (rest := []) ⟨hx, hb, hml, hown, hts⟩ (h_isLikedAnywhere_X8 l D g σ Z hZ0 M_4 N R x g_x v2_4) (cwV 1 hts gX8_nobodys_X8_isLikedAnywhere rfl rfl rfl (by decide +kernel) ⟨Nat.le_of_ble_eq_true rfl, Nat.le_of_ble_eq_true rfl⟩) (h_preV hZ0 hK hE hI g_x (by decide) rfl) rfl rfl hl.1 rfl (lv_room (Nat.le_of_ble_eq_true rfl)) dX8_nobodys_17 ⟨Nat.le_of_ble_eq_true rfl, Nat.le_of_ble_eq_true rfl⟩) (fun r6 M7 N8 R9 H locs q10 z_M7 hI => ?_)
        obtain ⟨rfl, rfl, i_r6⟩ := q10
        have J29 : ∀ (v1_29 : Int32) (H : Heap) (locs : List Loc) (ls : Array Slot), kI D g σ e_h_nobodys_X8 M s.heap M7 N R H locs → lv_has ls 3 [(0, .ref x), (1, .int v1_29), (2, .int v2_4)] → iv v1_29 0 255 → W p l e (headSpec wsX8_nobodys ({ frames := 4, cells := 0, slots := 0, locals := 93 })).room s m ar below meth c H locs 0 0 Q (F0 m 29 ls []) := by
          intro v1_29 H locs ls hI hl i_v1_29
          obtain ⟨v11, e_v11⟩ : ∃ z : Int32, z = v2_4 + Int32.ofInt 1 := ⟨_, rfl⟩
          have i_v11 : iv v11 1 7 := by rw [e_v11]; exact iv_add i5 (ki_1) (by decide) (by decide) (by decide) (by decide)
          refine lv_iinc (v := v11) (lv' := [(2, .int v11), (0, .ref x), (1, .int v1_29)]) hx hb dX8_nobodys_29 hl (k := 2) rfl e_v11.symm (by decide) rfl (fun ls hl => ?_)
          refine lv_goto (tgt := 4) hx hb dX8_nobodys_32 (by decide) ?_
          exact ih4 M7 v1_29 v11 H locs ls hI (lv_sub hl [1, 2, 0] rfl) i_v1_29 (iv_w (lo' := 0) (hi' := 7) i_v11 (by decide) (by decide)) (by have h9 := (h_inc e_v11 i5 ki_1 (by decide) (by decide)); omega)
        refine lv_if_ne (tgt := 29) hx hb dX8_nobodys_20 (by decide) (fun c12 => ?_) (fun c12 => ?_)
        · have i13 : iv r6 1 1 := iv_neL c12 i_r6 (by decide) (by decide)
          exact J29 v1_4 H locs ls hI hl i_v1_4
        · have i14 : iv r6 0 0 := iv_eq1 c12 i_r6 kc_0
          refine lv_iload_n hx hb dX8_nobodys_23 rfl (lv_at hl 1 rfl) ?_
          refine lv_iconst (v := 1) hx hb dX8_nobodys_24 (by decide) ?_
          refine lv_iload_n hx hb dX8_nobodys_25 rfl (lv_at hl 2 rfl) ?_
          refine lv_ishl hx hb dX8_nobodys_26 ?_
          refine h_nm (lo := 1) (hi := 64) (iv_shl1 6 i5 (by decide) (by decide) (by decide) (by decide) (by decide)) (fun v15 e_v15 i_v15 => ?_)
          refine lv_ior hx hb dX8_nobodys_27 ?_
          refine h_nm (lo := 0) (hi := 255) (iv_or 8 i_v1_4 i_v15 (by decide) (by decide) (by decide) (by decide) (by decide) (by decide)) (fun v16 e_v16 i_v16 => ?_)
          refine lv_istore_n (lv' := [(1, .int v16), (0, .ref x), (2, .int v2_4)]) hx hb dX8_nobodys_28 rfl hl (by decide) rfl (fun ls hl => ?_)
          exact J29 v16 H locs ls hI (lv_sub hl [1, 0, 2] rfl) i_v16
  refine lv_istore_n (lv' := [(2, .int (0 : Int32)), (1, .int (0 : Int32)), (0, .ref x)]) hx hb dX8_nobodys_3 rfl hl (by decide) rfl (fun ls hl => ?_)
  exact J4 8 M (0 : Int32) (0 : Int32) H locs ls hI (lv_sub hl [2, 1, 0] rfl) (iv_w (lo' := 0) (hi' := 255) kc_0 (by decide) (by decide)) (iv_w (lo' := 0) (hi' := 7) kc_0 (by decide) (by decide)) (by have h9 := kc_0; simp only [iv] at h9; omega)
abbrev e_h_purse_X8 : List (Nat × Nat) := []
set_option maxHeartbeats 4000000 in
set_option maxRecDepth 100000 in
theorem h_purse_X8 (l : Launch) (D : va_G) (g : Nat → ClassId) (σ : Nat → Option Nat) (Z : State → Heap → Prop) (hZ0 : hZ σ Z) (M : hM) (N : hN) (R : hR) (x : Nat) (g_x : σ x = some 8) (p1 : Int32) : Met l yX8_purse wsX8_purse ({ frames := 2, cells := 0, slots := 0, locals := 46 }) (va_Pc [.ref x, .int p1] (hPre D g σ Z M N R)) (hQi D g σ e_h_purse_X8 M (fun (r : Int32) (M1 : hM) (N1 : hN) (R1 : hR) => M = M1 ∧ N = N1 ∧ R = R1)) 0 0 (hA σ) := by
  refine h_head (cc := cX8_purse) (maxL := 6) (ret := (some .int)) (by decide) rfl (Nat.le_of_ble_eq_true rfl) e_h_purse_X8 ?_
  intro p e s m below meth c ls Q ar hQ hx hb hr hlocks hml hown hts hK hE H locs hI hl
  have hown : s.vm.findClass RX8 = some m.cls := hown
  have hl : lv_has ls 6 [(0, .ref x), (1, .int p1)] := hl
  refine lv_aload_n hx hb dX8_purse_0 rfl (lv_at hl 0 rfl) ?_
  refine lv_iload_n hx hb dX8_purse_1 rfl (lv_at hl 1 rfl) ?_
  refine h_goi hI (by decide) (va_runV (As := [.int p1]) (rest := []) ⟨hx, hb, hml, hown, hts⟩ (h_isCat_X8 l D g σ Z hZ0 M N R x g_x p1) (cwV 1 hts gX8_purse_X8_isCat rfl rfl rfl (by decide +kernel) ⟨Nat.le_of_ble_eq_true rfl, Nat.le_of_ble_eq_true rfl⟩) (h_preV hZ0 hK hE hI g_x (by decide) rfl) rfl rfl hl.1 rfl (lv_room (Nat.le_of_ble_eq_true rfl)) dX8_purse_2 ⟨Nat.le_of_ble_eq_true rfl, Nat.le_of_ble_eq_true rfl⟩) (fun r1 M2 N3 R4 H locs q5 z_M2 hI => ?_)
  obtain ⟨rfl, rfl, rfl, i_r1, z6⟩ := q5
  refine lv_if_ne (tgt := 12) hx hb dX8_purse_5 (by decide) (fun c7 => ?_) (fun c7 => ?_)
  · have i8 : iv p1 0 5 := z6 c7
    have i9 : iv r1 1 1 := iv_neL c7 i_r1 (by decide) (by decide)
    refine lv_aload_n hx hb dX8_purse_12 rfl (lv_at hl 0 rfl) ?_
    refine h_getr hx hb hts iX8_purse_X8 hown hK hI g_x (by decide) rfl rfl 4 (by decide) rfl 0 rfl (hts (.fieldLink RX8 34 "CatLeases" "acts" "LCatLeases$Acts;") (List.mem_of_getElem? (i := 2) rfl)) (fun _ h9 => h9) dX8_purse_13 (fun a10 e_a10 g_a10 => ?_)
    refine h_gor hI (by decide) (va_runV (As := []) (rest := []) ⟨hx, hb, hml, hown, hts⟩ (h_current_X0 l D g σ Z hZ0 M N R a10 g_a10) (cwV 0 hts gX8_purse_X0_current rfl rfl rfl (by decide +kernel) ⟨Nat.le_of_ble_eq_true rfl, Nat.le_of_ble_eq_true rfl⟩) (h_preV hZ0 hK hE hI g_a10 (by decide) rfl) rfl rfl hl.1 rfl (lv_room (Nat.le_of_ble_eq_true rfl)) dX8_purse_16 ⟨Nat.le_of_ble_eq_true rfl, Nat.le_of_ble_eq_true rfl⟩) (fun a11 M12 N13 R14 H locs q15 z_M12 hI => ?_)
    obtain ⟨rfl, rfl, rfl, g_a11⟩ := q15
    refine lv_astore_n (lv' := [(2, .ref a11), (0, .ref x), (1, .int p1)]) hx hb dX8_purse_19 rfl hl (by decide) rfl (fun ls hl => ?_)
    refine lv_aload_n hx hb dX8_purse_20 rfl (lv_at hl 1 rfl) ?_
    refine h_getr hx hb hts iX8_purse_X8 hown hK hI g_x (by decide) rfl rfl 3 (by decide) rfl 4 rfl (hts (.fieldLink RX8 27 "CatLeases" "mews" "LCatLeases$Mews;") (List.mem_of_getElem? (i := 3) rfl)) (fun _ h9 => h9) dX8_purse_21 (fun a16 e_a16 g_a16 => ?_)
    refine lv_aload_n hx hb dX8_purse_24 rfl (lv_at hl 0 rfl) ?_
    refine lv_iload_n hx hb dX8_purse_25 rfl (lv_at hl 2 rfl) ?_
    refine h_goi hI (by decide) (va_runV (As := [.ref a11, .int p1]) (rest := []) ⟨hx, hb, hml, hown, hts⟩ (h_tenantsOf_X4 l D g σ Z hZ0 M N R a16 g_a16 a11 g_a11 p1) (cwV 2 hts gX8_purse_X4_tenantsOf rfl rfl rfl (by decide +kernel) ⟨Nat.le_of_ble_eq_true rfl, Nat.le_of_ble_eq_true rfl⟩) (h_preV hZ0 hK hE hI g_a16 (by decide) rfl) rfl rfl hl.1 rfl (lv_room (Nat.le_of_ble_eq_true rfl)) dX8_purse_26 ⟨Nat.le_of_ble_eq_true rfl, Nat.le_of_ble_eq_true rfl⟩) (fun r17 M18 N19 R20 H locs q21 z_M18 hI => ?_)
    obtain ⟨rfl, rfl, rfl, i_r17⟩ := q21
    refine lv_istore_n (lv' := [(3, .int r17), (2, .ref a11), (0, .ref x), (1, .int p1)]) hx hb dX8_purse_29 rfl hl (by decide) rfl (fun ls hl => ?_)
    refine lv_iconst (v := 0) hx hb dX8_purse_30 (by decide) ?_
    refine lv_istore (lv' := [(4, .int (0 : Int32)), (3, .int r17), (2, .ref a11), (0, .ref x), (1, .int p1)]) hx hb dX8_purse_31 hl (by decide) rfl (fun ls hl => ?_)
    refine lv_iconst (v := 0) hx hb dX8_purse_33 (by decide) ?_
    have J36 : ∀ (n : Nat) (v4_36 : Int32) (v5_36 : Int32) (H : Heap) (locs : List Loc) (ls : Array Slot), kI D g σ e_h_purse_X8 M s.heap M N R H locs → lv_has ls 6 [(0, .ref x), (1, .int p1), (2, .ref a11), (3, .int r17), (4, .int v4_36), (5, .int v5_36)] → iv v5_36 0 7 → 8 ≤ v5_36.toInt + (n : Int) → W p l e (headSpec wsX8_purse ({ frames := 2, cells := 0, slots := 0, locals := 46 })).room s m ar below meth c H locs 0 0 Q (F0 m 36 ls []) := by
      intro n
      induction n with
      | zero => intro v4_36 v5_36 H locs ls hI hl i_v5_36 hn; exfalso; have hz := i_v5_36; simp only [iv] at hz; omega
      | succ n ih36 =>
        intro v4_36 v5_36 H locs ls hI hl i_v5_36 hn36
        refine lv_iload hx hb dX8_purse_36 (lv_at hl 5 rfl) ?_
        refine lv_aload_n hx hb dX8_purse_38 rfl (lv_at hl 0 rfl) ?_
        refine h_getr hx hb hts iX8_purse_X8 hown hK hI g_x (by decide) rfl rfl 3 (by decide) rfl 4 rfl (hts (.fieldLink RX8 27 "CatLeases" "mews" "LCatLeases$Mews;") (List.mem_of_getElem? (i := 3) rfl)) (fun _ h9 => h9) dX8_purse_39 (fun a22 e_a22 g_a22 => ?_)
        have q23 : a16 = a22 := (e_a16).trans e_a22.symm
        subst q23
        refine h_geti (lo := 0) (hi := 7) hx hb hts iX8_purse_X4 hown hK hI g_a16 (by decide) rfl rfl 2 (by decide) rfl rfl (hts (.fieldLink RX8 102 "CatLeases$Mews" "tenants" "I") (List.mem_of_getElem? (i := 4) rfl)) (fun _ h9 => h9) dX8_purse_42 (fun v24 e_v24 i_v24 => ?_)
        refine lv_icmp_ge (tgt := 85) hx hb dX8_purse_45 (by decide) (fun c25 => ?_) (fun c25 => ?_)
        · refine lv_iload hx hb dX8_purse_85 (lv_at hl 4 rfl) ?_
          exact h_iret hQ hx hb hr hlocks rfl hK hI ⟨rfl, rfl, rfl⟩ dX8_purse_87
        · have i26 : iv v24 1 7 := iv_nle1 c25 i_v24 i_v5_36 (by decide)
          have i27 : iv v5_36 0 6 := iv_nle2 c25 i_v24 i_v5_36 (by decide)
          refine lv_iload_n hx hb dX8_purse_48 rfl (lv_at hl 3 rfl) ?_
          refine lv_iload hx hb dX8_purse_49 (lv_at hl 5 rfl) ?_
          refine lv_ishr hx hb dX8_purse_51 ?_
          refine h_nm (lo := (-2147483648)) (hi := 2147483647) (iv_any _) (fun v28 e_v28 i_v28 => ?_)
          refine lv_iconst (v := 1) hx hb dX8_purse_52 (by decide) ?_
          refine lv_iand hx hb dX8_purse_53 ?_
          refine h_nm (lo := 0) (hi := 1) (iv_and 1 (by decide) (by decide) (by decide)) (fun v29 e_v29 i_v29 => ?_)
          have J79 : ∀ (v4_79 : Int32) (H : Heap) (locs : List Loc) (ls : Array Slot), kI D g σ e_h_purse_X8 M s.heap M N R H locs → lv_has ls 6 [(0, .ref x), (1, .int p1), (2, .ref a11), (3, .int r17), (4, .int v4_79), (5, .int v5_36)] → W p l e (headSpec wsX8_purse ({ frames := 2, cells := 0, slots := 0, locals := 46 })).room s m ar below meth c H locs 0 0 Q (F0 m 79 ls []) := by
            intro v4_79 H locs ls hI hl
            obtain ⟨v30, e_v30⟩ : ∃ z : Int32, z = v5_36 + Int32.ofInt 1 := ⟨_, rfl⟩
            have i_v30 : iv v30 1 7 := by rw [e_v30]; exact iv_add i27 (ki_1) (by decide) (by decide) (by decide) (by decide)
            refine lv_iinc (v := v30) (lv' := [(5, .int v30), (0, .ref x), (1, .int p1), (2, .ref a11), (3, .int r17), (4, .int v4_79)]) hx hb dX8_purse_79 hl (k := 5) rfl e_v30.symm (by decide) rfl (fun ls hl => ?_)
            refine lv_goto (tgt := 36) hx hb dX8_purse_82 (by decide) ?_
            exact ih36 v4_79 v30 H locs ls hI (lv_sub hl [1, 2, 3, 4, 5, 0] rfl) (iv_w (lo' := 0) (hi' := 7) i_v30 (by decide) (by decide)) (by have h9 := (h_inc e_v30 i27 ki_1 (by decide) (by decide)); omega)
          refine lv_if_eq (tgt := 79) hx hb dX8_purse_54 (by decide) (fun c31 => ?_) (fun c31 => ?_)
          · have i32 : iv v29 0 0 := iv_eq1 c31 i_v29 kc_0
            exact J79 v4_36 H locs ls hI hl
          · have i33 : iv v29 1 1 := iv_neL c31 i_v29 (by decide) (by decide)
            refine lv_iload hx hb dX8_purse_57 (lv_at hl 4 rfl) ?_
            refine lv_aload_n hx hb dX8_purse_59 rfl (lv_at hl 2 rfl) ?_
            refine h_getr hx hb hts iX8_purse_X7 hown hK hI g_a11 (by decide) rfl rfl 3 (by decide) rfl 14 rfl (hts (.fieldLink RX8 150 "CatLeases$State" "hours" "[I") (List.mem_of_getElem? (i := 5) rfl)) (fun _ h9 => h9) dX8_purse_60 (fun a34 e_a34 g_a34 => ?_)
            refine lv_iload hx hb dX8_purse_63 (lv_at hl 5 rfl) ?_
            refine h_iald (j := v5_36.toNatClampNeg) (lo := (-2147483648)) (hi := 2147483647) hx hb hK hI g_a34 (by decide) rfl (iv_in (n := 7) i27 (by decide) (by decide)) rfl (iv_any _) dX8_purse_65 (fun v35 e_v35 i_v35 => ?_)
            refine lv_aload_n hx hb dX8_purse_66 rfl (lv_at hl 0 rfl) ?_
            refine h_getr hx hb hts iX8_purse_X8 hown hK hI g_x (by decide) rfl rfl 3 (by decide) rfl 4 rfl (hts (.fieldLink RX8 27 "CatLeases" "mews" "LCatLeases$Mews;") (List.mem_of_getElem? (i := 3) rfl)) (fun _ h9 => h9) dX8_purse_67 (fun a36 e_a36 g_a36 => ?_)
            have q37 : a16 = a36 := (e_a16).trans e_a36.symm
            subst q37
            refine h_getr hx hb hts iX8_purse_X4 hown hK hI g_a16 (by decide) rfl rfl 5 (by decide) rfl 15 rfl (hts (.fieldLink RX8 122 "CatLeases$Mews" "wants" "[I") (List.mem_of_getElem? (i := 6) rfl)) (fun _ h9 => h9) dX8_purse_70 (fun a38 e_a38 g_a38 => ?_)
            refine lv_iload_n hx hb dX8_purse_73 rfl (lv_at hl 1 rfl) ?_
            refine h_iald (j := p1.toNatClampNeg) (lo := (-2147483648)) (hi := 2147483647) hx hb hK hI g_a38 (by decide) rfl (iv_in (n := 6) i8 (by decide) (by decide)) rfl (iv_any _) dX8_purse_74 (fun v39 e_v39 i_v39 => ?_)
            refine lv_isub hx hb dX8_purse_75 ?_
            refine h_nm (lo := (-2147483648)) (hi := 2147483647) (iv_any _) (fun v40 e_v40 i_v40 => ?_)
            refine lv_iadd hx hb dX8_purse_76 ?_
            refine h_nm (lo := (-2147483648)) (hi := 2147483647) (iv_any _) (fun v41 e_v41 i_v41 => ?_)
            refine lv_istore (lv' := [(4, .int v41), (0, .ref x), (1, .int p1), (2, .ref a11), (3, .int r17), (5, .int v5_36)]) hx hb dX8_purse_77 hl (by decide) rfl (fun ls hl => ?_)
            exact J79 v41 H locs ls hI (lv_sub hl [1, 2, 3, 4, 0, 5] rfl)
    refine lv_istore (lv' := [(5, .int (0 : Int32)), (4, .int (0 : Int32)), (3, .int r17), (2, .ref a11), (0, .ref x), (1, .int p1)]) hx hb dX8_purse_34 hl (by decide) rfl (fun ls hl => ?_)
    exact J36 8 (0 : Int32) (0 : Int32) H locs ls hI (lv_sub hl [4, 5, 3, 2, 1, 0] rfl) (iv_w (lo' := 0) (hi' := 7) kc_0 (by decide) (by decide)) (by have h9 := kc_0; simp only [iv] at h9; omega)
  · have i42 : iv r1 0 0 := iv_eq1 c7 i_r1 kc_0
    refine lv_ldcw (v := (-1000000)) hx hb hown (hts (.constant RX8 314 (-1000000)) (List.mem_of_getElem? (i := 1) rfl)) dX8_purse_8 ?_
    exact h_iret hQ hx hb hr hlocks rfl hK hI ⟨rfl, rfl, rfl⟩ dX8_purse_11
abbrev e_h_seen_X8 : List (Nat × Nat) := [(6, 0), (18, 999), (19, 999), (20, 999)]
set_option maxHeartbeats 4000000 in
set_option maxRecDepth 100000 in
theorem h_seen_X8 (l : Launch) (D : va_G) (g : Nat → ClassId) (σ : Nat → Option Nat) (Z : State → Heap → Prop) (hZ0 : hZ σ Z) (M : hM) (N : hN) (R : hR) (x : Nat) (g_x : σ x = some 8) (p1 : Int32) (p2 : Int32) (p3 : Int32) (h_p3 : iv p3 0 1) : Met l yX8_seen wsX8_seen ({ frames := 1, cells := 0, slots := 0, locals := 24 }) (va_Pc [.ref x, .int p1, .int p2, .int p3] (hPre D g σ Z M N R)) (hQi D g σ e_h_seen_X8 M (fun (r : Int32) (M1 : hM) (N1 : hN) (R1 : hR) => N = N1 ∧ R = R1 ∧ iv r (-1) 29)) 0 0 (hA σ) := by
  refine h_head (cc := cX8_seen) (maxL := 4) (ret := (some .int)) (by decide) rfl (Nat.le_of_ble_eq_true rfl) e_h_seen_X8 ?_
  intro p e s m below meth c ls Q ar hQ hx hb hr hlocks hml hown hts hK hE H locs hI hl
  have hown : s.vm.findClass RX8 = some m.cls := hown
  have hl : lv_has ls 4 [(0, .ref x), (1, .int p1), (2, .int p2), (3, .int p3)] := hl
  refine lv_iload_n hx hb dX8_seen_0 rfl (lv_at hl 1 rfl) ?_
  refine h_goi hI (by decide) (va_runS (As := [.int p1]) (rest := []) ⟨hx, hb, hml, hown, hts⟩ (h_isSeenQuarter_X8 l D g σ Z hZ0 M N R p1) (va_cwS 1 hts gX8_seen_X8_isSeenQuarter rfl rfl rfl (by decide +kernel) ⟨Nat.le_of_ble_eq_true rfl, Nat.le_of_ble_eq_true rfl⟩) (h_preS hZ0 hK hE hI) rfl rfl hl.1 rfl (lv_room (Nat.le_of_ble_eq_true rfl)) dX8_seen_1 ⟨Nat.le_of_ble_eq_true rfl, Nat.le_of_ble_eq_true rfl⟩) (fun r1 M2 N3 R4 H locs q5 z_M2 hI => ?_)
  obtain ⟨rfl, rfl, rfl, i_r1, z6⟩ := q5
  refine lv_if_eq (tgt := 25) hx hb dX8_seen_4 (by decide) (fun c7 => ?_) (fun c7 => ?_)
  · have i8 : iv r1 0 0 := iv_eq1 c7 i_r1 kc_0
    refine lv_iconst (v := (-1)) hx hb dX8_seen_25 (by decide) ?_
    exact h_iret hQ hx hb hr hlocks rfl hK hI ⟨rfl, rfl, (iv_w (lo' := (-1)) (hi' := 29) kc_m1 (by decide) (by decide))⟩ dX8_seen_26
  · have i9 : iv p1 0 9 := z6 c7
    have i10 : iv r1 1 1 := iv_neL c7 i_r1 (by decide) (by decide)
    refine lv_aload_n hx hb dX8_seen_7 rfl (lv_at hl 0 rfl) ?_
    refine lv_iload_n hx hb dX8_seen_8 rfl (lv_at hl 2 rfl) ?_
    refine h_goi hI (by decide) (va_runV (As := [.int p2]) (rest := []) ⟨hx, hb, hml, hown, hts⟩ (h_isTenant_X8 l D g σ Z hZ0 M N R x g_x p2) (cwV 1 hts gX8_seen_X8_isTenant rfl rfl rfl (by decide +kernel) ⟨Nat.le_of_ble_eq_true rfl, Nat.le_of_ble_eq_true rfl⟩) (h_preV hZ0 hK hE hI g_x (by decide) rfl) rfl rfl hl.1 rfl (lv_room (Nat.le_of_ble_eq_true rfl)) dX8_seen_9 ⟨Nat.le_of_ble_eq_true rfl, Nat.le_of_ble_eq_true rfl⟩) (fun r11 M12 N13 R14 H locs q15 z_M12 hI => ?_)
    obtain ⟨rfl, rfl, rfl, i_r11, z16⟩ := q15
    refine lv_if_eq (tgt := 25) hx hb dX8_seen_12 (by decide) (fun c17 => ?_) (fun c17 => ?_)
    · have i18 : iv r11 0 0 := iv_eq1 c17 i_r11 kc_0
      refine lv_iconst (v := (-1)) hx hb dX8_seen_25 (by decide) ?_
      exact h_iret hQ hx hb hr hlocks rfl hK hI ⟨rfl, rfl, (iv_w (lo' := (-1)) (hi' := 29) kc_m1 (by decide) (by decide))⟩ dX8_seen_26
    · have i19 : iv p2 0 6 := z16 c17
      have i20 : iv r11 1 1 := iv_neL c17 i_r11 (by decide) (by decide)
      refine lv_aload_n hx hb dX8_seen_15 rfl (lv_at hl 0 rfl) ?_
      refine h_getr hx hb hts iX8_seen_X8 hown hK hI g_x (by decide) rfl rfl 3 (by decide) rfl 4 rfl (hts (.fieldLink RX8 27 "CatLeases" "mews" "LCatLeases$Mews;") (List.mem_of_getElem? (i := 1) rfl)) (fun _ h9 => h9) dX8_seen_16 (fun a21 e_a21 g_a21 => ?_)
      refine h_geti (lo := 0) (hi := 6) hx hb hts iX8_seen_X4 hown hK hI g_a21 (by decide) rfl rfl 0 (by decide) rfl rfl (hts (.fieldLink RX8 170 "CatLeases$Mews" "cats" "I") (List.mem_of_getElem? (i := 2) rfl)) (fun _ h9 => h9) dX8_seen_19 (fun v22 e_v22 i_v22 => ?_)
      refine lv_if_ne (tgt := 27) hx hb dX8_seen_22 (by decide) (fun c23 => ?_) (fun c23 => ?_)
      · have i24 : iv v22 1 6 := iv_neL c23 i_v22 (by decide) (by decide)
        refine lv_aload_n hx hb dX8_seen_27 rfl (lv_at hl 0 rfl) ?_
        refine h_getr hx hb hts iX8_seen_X8 hown hK hI g_x (by decide) rfl rfl 12 (by decide) rfl 6 rfl (hts (.fieldLink RX8 76 "CatLeases" "sightings" "LCatLeases$Sightings;") (List.mem_of_getElem? (i := 3) rfl)) (fun _ h9 => h9) dX8_seen_28 (fun a25 e_a25 g_a25 => ?_)
        refine lv_iload_n hx hb dX8_seen_31 rfl (lv_at hl 1 rfl) ?_
        refine lv_iload_n hx hb dX8_seen_32 rfl (lv_at hl 2 rfl) ?_
        refine lv_iload_n hx hb dX8_seen_33 rfl (lv_at hl 3 rfl) ?_
        refine lv_aload_n hx hb dX8_seen_34 rfl (lv_at hl 0 rfl) ?_
        refine h_geti (lo := (-2147483648)) (hi := 2147483647) hx hb hts iX8_seen_X8 hown hK hI g_x (by decide) rfl rfl 13 (by decide) rfl rfl (hts (.fieldLink RX8 80 "CatLeases" "time" "I") (List.mem_of_getElem? (i := 4) rfl)) (fun _ h9 => h9) dX8_seen_35 (fun v26 e_v26 i_v26 => ?_)
        refine h_goi hI (by decide) (va_runV (As := [.int p1, .int p2, .int p3, .int v26]) (rest := []) ⟨hx, hb, hml, hown, hts⟩ (h_add_X6 l D g σ Z hZ0 M N R a25 g_a25 p1 p2 i19 p3 h_p3 v26) (cwV 4 hts gX8_seen_X6_add rfl rfl rfl (by decide +kernel) ⟨Nat.le_of_ble_eq_true rfl, Nat.le_of_ble_eq_true rfl⟩) (h_preV hZ0 hK hE hI g_a25 (by decide) rfl) rfl rfl hl.1 rfl (lv_room (Nat.le_of_ble_eq_true rfl)) dX8_seen_38 ⟨Nat.le_of_ble_eq_true rfl, Nat.le_of_ble_eq_true rfl⟩) (fun r27 M28 N29 R30 H locs q31 z_M28 hI => ?_)
        obtain ⟨rfl, rfl, i_r27⟩ := q31
        exact h_iret hQ hx hb hr hlocks rfl hK hI ⟨rfl, rfl, i_r27⟩ dX8_seen_41
      · have i32 : iv v22 0 0 := iv_eq1 c23 i_v22 kc_0
        refine lv_iconst (v := (-1)) hx hb dX8_seen_25 (by decide) ?_
        exact h_iret hQ hx hb hr hlocks rfl hK hI ⟨rfl, rfl, (iv_w (lo' := (-1)) (hi' := 29) kc_m1 (by decide) (by decide))⟩ dX8_seen_26
abbrev e_h_untell_X8 : List (Nat × Nat) := [(18, 999)]
set_option maxHeartbeats 4000000 in
set_option maxRecDepth 100000 in
theorem h_untell_X8 (l : Launch) (D : va_G) (g : Nat → ClassId) (σ : Nat → Option Nat) (Z : State → Heap → Prop) (hZ0 : hZ σ Z) (M : hM) (N : hN) (R : hR) (x : Nat) (g_x : σ x = some 8) (p1 : Int32) : Met l yX8_untell wsX8_untell ({ frames := 1, cells := 0, slots := 0, locals := 22 }) (va_Pc [.ref x, .int p1] (hPre D g σ Z M N R)) (hQi D g σ e_h_untell_X8 M (fun (r : Int32) (M1 : hM) (N1 : hN) (R1 : hR) => N = N1 ∧ R = R1 ∧ iv r 0 1 ∧ (¬ r = 0 → iv p1 0 29))) 0 0 (hA σ) := by
  refine h_head (cc := cX8_untell) (maxL := 2) (ret := (some .boolean)) (by decide) rfl (Nat.le_of_ble_eq_true rfl) e_h_untell_X8 ?_
  intro p e s m below meth c ls Q ar hQ hx hb hr hlocks hml hown hts hK hE H locs hI hl
  have hown : s.vm.findClass RX8 = some m.cls := hown
  have hl : lv_has ls 2 [(0, .ref x), (1, .int p1)] := hl
  refine lv_aload_n hx hb dX8_untell_0 rfl (lv_at hl 0 rfl) ?_
  refine h_getr hx hb hts iX8_untell_X8 hown hK hI g_x (by decide) rfl rfl 12 (by decide) rfl 6 rfl (hts (.fieldLink RX8 76 "CatLeases" "sightings" "LCatLeases$Sightings;") (List.mem_of_getElem? (i := 1) rfl)) (fun _ h9 => h9) dX8_untell_1 (fun a1 e_a1 g_a1 => ?_)
  refine lv_iload_n hx hb dX8_untell_4 rfl (lv_at hl 1 rfl) ?_
  refine lv_aload_n hx hb dX8_untell_5 rfl (lv_at hl 0 rfl) ?_
  refine h_geti (lo := (-2147483648)) (hi := 2147483647) hx hb hts iX8_untell_X8 hown hK hI g_x (by decide) rfl rfl 13 (by decide) rfl rfl (hts (.fieldLink RX8 80 "CatLeases" "time" "I") (List.mem_of_getElem? (i := 2) rfl)) (fun _ h9 => h9) dX8_untell_6 (fun v2 e_v2 i_v2 => ?_)
  refine h_goi hI (by decide) (va_runV (As := [.int p1, .int v2]) (rest := []) ⟨hx, hb, hml, hown, hts⟩ (h_takeBack_X6 l D g σ Z hZ0 M N R a1 g_a1 p1 v2) (cwV 2 hts gX8_untell_X6_takeBack rfl rfl rfl (by decide +kernel) ⟨Nat.le_of_ble_eq_true rfl, Nat.le_of_ble_eq_true rfl⟩) (h_preV hZ0 hK hE hI g_a1 (by decide) rfl) rfl rfl hl.1 rfl (lv_room (Nat.le_of_ble_eq_true rfl)) dX8_untell_9 ⟨Nat.le_of_ble_eq_true rfl, Nat.le_of_ble_eq_true rfl⟩) (fun r3 M4 N5 R6 H locs q7 z_M4 hI => ?_)
  obtain ⟨rfl, rfl, i_r3, z8⟩ := q7
  exact h_iret hQ hx hb hr hlocks (nar_z i_r3) hK hI ⟨rfl, rfl, i_r3, (fun h9 => iv_w (z8 h9) (by decide) (by decide))⟩ dX8_untell_12
abbrev e_h_fits_X8 : List (Nat × Nat) := [(6, 7), (6, 8), (14, 999), (18, 999), (21, 999)]
set_option maxHeartbeats 4000000 in
set_option maxRecDepth 100000 in
theorem h_fits_X8 (l : Launch) (D : va_G) (g : Nat → ClassId) (σ : Nat → Option Nat) (Z : State → Heap → Prop) (hZ0 : hZ σ Z) (M : hM) (N : hN) (R : hR) (x : Nat) (g_x : σ x = some 8) (p1 : Int32) : Met l yX8_fits wsX8_fits ({ frames := 5, cells := 0, slots := 0, locals := 120 }) (va_Pc [.ref x, .int p1] (hPre D g σ Z M N R)) (hQi D g σ e_h_fits_X8 M (fun (r : Int32) (M1 : hM) (N1 : hN) (R1 : hR) => N = N1 ∧ R = R1)) 0 0 (hA σ) := by
  refine h_head (cc := cX8_fits) (maxL := 4) (ret := (some .int)) (by decide) rfl (Nat.le_of_ble_eq_true rfl) e_h_fits_X8 ?_
  intro p e s m below meth c ls Q ar hQ hx hb hr hlocks hml hown hts hK hE H locs hI hl
  have hown : s.vm.findClass RX8 = some m.cls := hown
  have hl : lv_has ls 4 [(0, .ref x), (1, .int p1)] := hl
  refine lv_aload_n hx hb dX8_fits_0 rfl (lv_at hl 0 rfl) ?_
  refine h_getr hx hb hts iX8_fits_X8 hown hK hI g_x (by decide) rfl rfl 12 (by decide) rfl 6 rfl (hts (.fieldLink RX8 76 "CatLeases" "sightings" "LCatLeases$Sightings;") (List.mem_of_getElem? (i := 1) rfl)) (fun _ h9 => h9) dX8_fits_1 (fun a1 e_a1 g_a1 => ?_)
  refine lv_aload_n hx hb dX8_fits_4 rfl (lv_at hl 0 rfl) ?_
  refine h_getr hx hb hts iX8_fits_X8 hown hK hI g_x (by decide) rfl rfl 3 (by decide) rfl 4 rfl (hts (.fieldLink RX8 27 "CatLeases" "mews" "LCatLeases$Mews;") (List.mem_of_getElem? (i := 2) rfl)) (fun _ h9 => h9) dX8_fits_5 (fun a2 e_a2 g_a2 => ?_)
  refine h_gov hI (by decide) (va_runV (As := [.ref a2]) (rest := []) ⟨hx, hb, hml, hown, hts⟩ (h_foresee_X6 l D g σ Z hZ0 M N R a1 g_a1 a2 g_a2) (cwV 1 hts gX8_fits_X6_foresee rfl rfl rfl (by decide +kernel) ⟨Nat.le_of_ble_eq_true rfl, Nat.le_of_ble_eq_true rfl⟩) (h_preV hZ0 hK hE hI g_a1 (by decide) rfl) rfl rfl hl.1 rfl (lv_room (Nat.le_of_ble_eq_true rfl)) dX8_fits_8 ⟨Nat.le_of_ble_eq_true rfl, Nat.le_of_ble_eq_true rfl⟩) (fun M4 N5 R6 H locs q7 z_M4 hI => ?_)
  obtain ⟨rfl, rfl⟩ := q7
  refine lv_iconst (v := 0) hx hb dX8_fits_11 (by decide) ?_
  refine lv_istore_n (lv' := [(2, .int (0 : Int32)), (0, .ref x), (1, .int p1)]) hx hb dX8_fits_12 rfl hl (by decide) rfl (fun ls hl => ?_)
  refine lv_iconst (v := 0) hx hb dX8_fits_13 (by decide) ?_
  have J15 : ∀ (n : Nat) (v2_15 : Int32) (v3_15 : Int32) (H : Heap) (locs : List Loc) (ls : Array Slot), kI D g σ e_h_fits_X8 M s.heap M4 N R H locs → lv_has ls 4 [(0, .ref x), (1, .int p1), (2, .int v2_15), (3, .int v3_15)] → iv v3_15 0 100 → 101 ≤ v3_15.toInt + (n : Int) → W p l e (headSpec wsX8_fits ({ frames := 5, cells := 0, slots := 0, locals := 120 })).room s m ar below meth c H locs 0 0 Q (F0 m 15 ls []) := by
    intro n
    induction n with
    | zero => intro v2_15 v3_15 H locs ls hI hl i_v3_15 hn; exfalso; have hz := i_v3_15; simp only [iv] at hz; omega
    | succ n ih15 =>
      intro v2_15 v3_15 H locs ls hI hl i_v3_15 hn15
      refine lv_iload_n hx hb dX8_fits_15 rfl (lv_at hl 3 rfl) ?_
      refine lv_bipush (v := 99) hx hb dX8_fits_16 (by decide) ?_
      refine lv_icmp_gt (tgt := 42) hx hb dX8_fits_18 (by decide) (fun c8 => ?_) (fun c8 => ?_)
      · have i9 : iv v3_15 100 100 := iv_lt2 c8 kc_99 i_v3_15 (by decide)
        refine lv_iload_n hx hb dX8_fits_42 rfl (lv_at hl 2 rfl) ?_
        exact h_iret hQ hx hb hr hlocks rfl hK hI ⟨rfl, rfl⟩ dX8_fits_43
      · have i10 : iv v3_15 0 99 := iv_nlt2 c8 kc_99 i_v3_15 (by decide)
        refine lv_aload_n hx hb dX8_fits_21 rfl (lv_at hl 0 rfl) ?_
        refine h_getr hx hb hts iX8_fits_X8 hown hK hI g_x (by decide) rfl rfl 12 (by decide) rfl 6 rfl (hts (.fieldLink RX8 76 "CatLeases" "sightings" "LCatLeases$Sightings;") (List.mem_of_getElem? (i := 1) rfl)) (fun _ h9 => h9) dX8_fits_22 (fun a11 e_a11 g_a11 => ?_)
        have q12 : a1 = a11 := (e_a1).trans e_a11.symm
        subst q12
        refine lv_iload_n hx hb dX8_fits_25 rfl (lv_at hl 3 rfl) ?_
        refine lv_iload_n hx hb dX8_fits_26 rfl (lv_at hl 1 rfl) ?_
        refine h_goi hI (by decide) (va_runV (As := [.int v3_15, .int p1]) (rest := []) ⟨hx, hb, hml, hown, hts⟩ (h_allow_X6 l D g σ Z hZ0 M4 N R a1 g_a1 v3_15 i10 p1) (cwV 2 hts gX8_fits_X6_allow rfl rfl rfl (by decide +kernel) ⟨Nat.le_of_ble_eq_true rfl, Nat.le_of_ble_eq_true rfl⟩) (h_preV hZ0 hK hE hI g_a1 (by decide) rfl) rfl rfl hl.1 rfl (lv_room (Nat.le_of_ble_eq_true rfl)) dX8_fits_27 ⟨Nat.le_of_ble_eq_true rfl, Nat.le_of_ble_eq_true rfl⟩) (fun r13 M14 N15 R16 H locs q17 z_M14 hI => ?_)
        obtain ⟨rfl, rfl, rfl, i_r13⟩ := q17
        have J36 : ∀ (v2_36 : Int32) (H : Heap) (locs : List Loc) (ls : Array Slot), kI D g σ e_h_fits_X8 M s.heap M4 N R H locs → lv_has ls 4 [(0, .ref x), (1, .int p1), (2, .int v2_36), (3, .int v3_15)] → W p l e (headSpec wsX8_fits ({ frames := 5, cells := 0, slots := 0, locals := 120 })).room s m ar below meth c H locs 0 0 Q (F0 m 36 ls []) := by
          intro v2_36 H locs ls hI hl
          obtain ⟨v18, e_v18⟩ : ∃ z : Int32, z = v3_15 + Int32.ofInt 1 := ⟨_, rfl⟩
          have i_v18 : iv v18 1 100 := by rw [e_v18]; exact iv_add i10 (ki_1) (by decide) (by decide) (by decide) (by decide)
          refine lv_iinc (v := v18) (lv' := [(3, .int v18), (0, .ref x), (1, .int p1), (2, .int v2_36)]) hx hb dX8_fits_36 hl (k := 3) rfl e_v18.symm (by decide) rfl (fun ls hl => ?_)
          refine lv_goto (tgt := 15) hx hb dX8_fits_39 (by decide) ?_
          exact ih15 v2_36 v18 H locs ls hI (lv_sub hl [1, 2, 3, 0] rfl) (iv_w (lo' := 0) (hi' := 100) i_v18 (by decide) (by decide)) (by have h9 := (h_inc e_v18 i10 ki_1 (by decide) (by decide)); omega)
        refine lv_if_eq (tgt := 36) hx hb dX8_fits_30 (by decide) (fun c19 => ?_) (fun c19 => ?_)
        · have i20 : iv r13 0 0 := iv_eq1 c19 i_r13 kc_0
          exact J36 v2_15 H locs ls hI hl
        · have i21 : iv r13 1 1 := iv_neL c19 i_r13 (by decide) (by decide)
          obtain ⟨v22, e_v22⟩ : ∃ z : Int32, z = v2_15 + Int32.ofInt 1 := ⟨_, rfl⟩
          refine lv_iinc (v := v22) (lv' := [(2, .int v22), (0, .ref x), (1, .int p1), (3, .int v3_15)]) hx hb dX8_fits_33 hl (k := 2) rfl e_v22.symm (by decide) rfl (fun ls hl => ?_)
          exact J36 v22 H locs ls hI (lv_sub hl [1, 2, 0, 3] rfl)
  refine lv_istore_n (lv' := [(3, .int (0 : Int32)), (2, .int (0 : Int32)), (0, .ref x), (1, .int p1)]) hx hb dX8_fits_14 rfl hl (by decide) rfl (fun ls hl => ?_)
  exact J15 101 (0 : Int32) (0 : Int32) H locs ls hI (lv_sub hl [2, 3, 1, 0] rfl) (iv_w (lo' := 0) (hi' := 100) kc_0 (by decide) (by decide)) (by have h9 := kc_0; simp only [iv] at h9; omega)
abbrev e_h_sure_X8 : List (Nat × Nat) := [(6, 7), (6, 8), (14, 999), (18, 999), (21, 999)]
set_option maxHeartbeats 4000000 in
set_option maxRecDepth 100000 in
theorem h_sure_X8 (l : Launch) (D : va_G) (g : Nat → ClassId) (σ : Nat → Option Nat) (Z : State → Heap → Prop) (hZ0 : hZ σ Z) (M : hM) (N : hN) (R : hR) (x : Nat) (g_x : σ x = some 8) (p1 : Int32) (p2 : Int32) : Met l yX8_sure wsX8_sure ({ frames := 5, cells := 0, slots := 0, locals := 120 }) (va_Pc [.ref x, .int p1, .int p2] (hPre D g σ Z M N R)) (hQi D g σ e_h_sure_X8 M (fun (r : Int32) (M1 : hM) (N1 : hN) (R1 : hR) => N = N1 ∧ R = R1 ∧ iv r (-1) 99)) 0 0 (hA σ) := by
  refine h_head (cc := cX8_sure) (maxL := 5) (ret := (some .int)) (by decide) rfl (Nat.le_of_ble_eq_true rfl) e_h_sure_X8 ?_
  intro p e s m below meth c ls Q ar hQ hx hb hr hlocks hml hown hts hK hE H locs hI hl
  have hown : s.vm.findClass RX8 = some m.cls := hown
  have hl : lv_has ls 5 [(0, .ref x), (1, .int p1), (2, .int p2)] := hl
  refine lv_iload_n hx hb dX8_sure_0 rfl (lv_at hl 1 rfl) ?_
  refine lv_if_lt (tgt := 9) hx hb dX8_sure_1 (by decide) (fun c1 => ?_) (fun c1 => ?_)
  · have i2 : iv p1 (-2147483648) (-1) := iv_lt1 c1 (iv_any p1) kc_0 (by decide)
    refine lv_iconst (v := (-1)) hx hb dX8_sure_9 (by decide) ?_
    exact h_iret hQ hx hb hr hlocks rfl hK hI ⟨rfl, rfl, (iv_w (lo' := (-1)) (hi' := 99) kc_m1 (by decide) (by decide))⟩ dX8_sure_10
  · have i3 : iv p1 0 2147483647 := iv_nlt1 c1 (iv_any p1) kc_0 (by decide)
    refine lv_iload_n hx hb dX8_sure_4 rfl (lv_at hl 1 rfl) ?_
    refine lv_iconst (v := 1) hx hb dX8_sure_5 (by decide) ?_
    refine lv_icmp_le (tgt := 11) hx hb dX8_sure_6 (by decide) (fun c4 => ?_) (fun c4 => ?_)
    · have i5 : iv p1 0 1 := iv_le1 c4 i3 kc_1 (by decide)
      refine lv_aload_n hx hb dX8_sure_11 rfl (lv_at hl 0 rfl) ?_
      refine h_getr hx hb hts iX8_sure_X8 hown hK hI g_x (by decide) rfl rfl 12 (by decide) rfl 6 rfl (hts (.fieldLink RX8 76 "CatLeases" "sightings" "LCatLeases$Sightings;") (List.mem_of_getElem? (i := 1) rfl)) (fun _ h9 => h9) dX8_sure_12 (fun a6 e_a6 g_a6 => ?_)
      refine lv_aload_n hx hb dX8_sure_15 rfl (lv_at hl 0 rfl) ?_
      refine h_getr hx hb hts iX8_sure_X8 hown hK hI g_x (by decide) rfl rfl 3 (by decide) rfl 4 rfl (hts (.fieldLink RX8 27 "CatLeases" "mews" "LCatLeases$Mews;") (List.mem_of_getElem? (i := 2) rfl)) (fun _ h9 => h9) dX8_sure_16 (fun a7 e_a7 g_a7 => ?_)
      refine h_gov hI (by decide) (va_runV (As := [.ref a7]) (rest := []) ⟨hx, hb, hml, hown, hts⟩ (h_foresee_X6 l D g σ Z hZ0 M N R a6 g_a6 a7 g_a7) (cwV 1 hts gX8_sure_X6_foresee rfl rfl rfl (by decide +kernel) ⟨Nat.le_of_ble_eq_true rfl, Nat.le_of_ble_eq_true rfl⟩) (h_preV hZ0 hK hE hI g_a6 (by decide) rfl) rfl rfl hl.1 rfl (lv_room (Nat.le_of_ble_eq_true rfl)) dX8_sure_19 ⟨Nat.le_of_ble_eq_true rfl, Nat.le_of_ble_eq_true rfl⟩) (fun M9 N10 R11 H locs q12 z_M9 hI => ?_)
      obtain ⟨rfl, rfl⟩ := q12
      refine lv_iconst (v := 0) hx hb dX8_sure_22 (by decide) ?_
      have J24 : ∀ (n : Nat) (v3_24 : Int32) (H : Heap) (locs : List Loc) (ls : Array Slot), kI D g σ e_h_sure_X8 M s.heap M9 N R H locs → lv_has ls 5 [(0, .ref x), (1, .int p1), (2, .int p2), (3, .int v3_24)] → iv v3_24 0 100 → 101 ≤ v3_24.toInt + (n : Int) → W p l e (headSpec wsX8_sure ({ frames := 5, cells := 0, slots := 0, locals := 120 })).room s m ar below meth c H locs 0 0 Q (F0 m 24 ls []) := by
        intro n
        induction n with
        | zero => intro v3_24 H locs ls hI hl i_v3_24 hn; exfalso; have hz := i_v3_24; simp only [iv] at hz; omega
        | succ n ih24 =>
          intro v3_24 H locs ls hI hl i_v3_24 hn24
          refine lv_iload_n hx hb dX8_sure_24 rfl (lv_at hl 3 rfl) ?_
          refine lv_bipush (v := 99) hx hb dX8_sure_25 (by decide) ?_
          refine lv_icmp_gt (tgt := 66) hx hb dX8_sure_27 (by decide) (fun c13 => ?_) (fun c13 => ?_)
          · have i14 : iv v3_24 100 100 := iv_lt2 c13 kc_99 i_v3_24 (by decide)
            refine lv_iconst (v := (-1)) hx hb dX8_sure_66 (by decide) ?_
            exact h_iret hQ hx hb hr hlocks rfl hK hI ⟨rfl, rfl, (iv_w (lo' := (-1)) (hi' := 99) kc_m1 (by decide) (by decide))⟩ dX8_sure_67
          · have i15 : iv v3_24 0 99 := iv_nlt2 c13 kc_99 i_v3_24 (by decide)
            refine lv_iload_n hx hb dX8_sure_30 rfl (lv_at hl 1 rfl) ?_
            have J42 : ∀ (t0_42 : Int32) (H : Heap) (locs : List Loc) (ls : Array Slot), kI D g σ e_h_sure_X8 M s.heap M9 N R H locs → lv_has ls 5 [(0, .ref x), (1, .int p1), (2, .int p2), (3, .int v3_24)] → iv t0_42 0 99 → W p l e (headSpec wsX8_sure ({ frames := 5, cells := 0, slots := 0, locals := 120 })).room s m ar below meth c H locs 0 0 Q (F0 m 42 ls [.int t0_42]) := by
              intro t0_42 H locs ls hI hl i_t0_42
              refine lv_istore (lv' := [(4, .int t0_42), (0, .ref x), (1, .int p1), (2, .int p2), (3, .int v3_24)]) hx hb dX8_sure_42 hl (by decide) rfl (fun ls hl => ?_)
              refine lv_aload_n hx hb dX8_sure_44 rfl (lv_at hl 1 rfl) ?_
              refine h_getr hx hb hts iX8_sure_X8 hown hK hI g_x (by decide) rfl rfl 12 (by decide) rfl 6 rfl (hts (.fieldLink RX8 76 "CatLeases" "sightings" "LCatLeases$Sightings;") (List.mem_of_getElem? (i := 1) rfl)) (fun _ h9 => h9) dX8_sure_45 (fun a16 e_a16 g_a16 => ?_)
              have q17 : a6 = a16 := (e_a6).trans e_a16.symm
              subst q17
              refine lv_iload hx hb dX8_sure_48 (lv_at hl 0 rfl) ?_
              refine lv_iload_n hx hb dX8_sure_50 rfl (lv_at hl 3 rfl) ?_
              refine h_goi hI (by decide) (va_runV (As := [.int t0_42, .int p2]) (rest := []) ⟨hx, hb, hml, hown, hts⟩ (h_allow_X6 l D g σ Z hZ0 M9 N R a6 g_a6 t0_42 i_t0_42 p2) (cwV 2 hts gX8_sure_X6_allow rfl rfl rfl (by decide +kernel) ⟨Nat.le_of_ble_eq_true rfl, Nat.le_of_ble_eq_true rfl⟩) (h_preV hZ0 hK hE hI g_a6 (by decide) rfl) rfl rfl hl.1 rfl (lv_room (Nat.le_of_ble_eq_true rfl)) dX8_sure_51 ⟨Nat.le_of_ble_eq_true rfl, Nat.le_of_ble_eq_true rfl⟩) (fun r18 M19 N20 R21 H locs q22 z_M19 hI => ?_)
              obtain ⟨rfl, rfl, rfl, i_r18⟩ := q22
              refine lv_if_eq (tgt := 60) hx hb dX8_sure_54 (by decide) (fun c23 => ?_) (fun c23 => ?_)
              · have i24 : iv r18 0 0 := iv_eq1 c23 i_r18 kc_0
                obtain ⟨v25, e_v25⟩ : ∃ z : Int32, z = v3_24 + Int32.ofInt 1 := ⟨_, rfl⟩
                have i_v25 : iv v25 1 100 := by rw [e_v25]; exact iv_add i15 (ki_1) (by decide) (by decide) (by decide) (by decide)
                refine lv_iinc (v := v25) (lv' := [(3, .int v25), (4, .int t0_42), (0, .ref x), (1, .int p1), (2, .int p2)]) hx hb dX8_sure_60 hl (k := 4) rfl e_v25.symm (by decide) rfl (fun ls hl => ?_)
                refine lv_goto (tgt := 24) hx hb dX8_sure_63 (by decide) ?_
                exact ih24 v25 H locs ls hI (lv_sub hl [2, 3, 4, 0] rfl) (iv_w (lo' := 0) (hi' := 100) i_v25 (by decide) (by decide)) (by have h9 := (h_inc e_v25 i15 ki_1 (by decide) (by decide)); omega)
              · have i26 : iv r18 1 1 := iv_neL c23 i_r18 (by decide) (by decide)
                refine lv_iload hx hb dX8_sure_57 (lv_at hl 0 rfl) ?_
                exact h_iret hQ hx hb hr hlocks rfl hK hI ⟨rfl, rfl, (iv_w (lo' := (-1)) (hi' := 99) i_t0_42 (by decide) (by decide))⟩ dX8_sure_59
            refine lv_if_ne (tgt := 38) hx hb dX8_sure_31 (by decide) (fun c27 => ?_) (fun c27 => ?_)
            · have i28 : iv p1 1 1 := iv_neL c27 i5 (by decide) (by decide)
              refine lv_bipush (v := 99) hx hb dX8_sure_38 (by decide) ?_
              refine lv_iload_n hx hb dX8_sure_40 rfl (lv_at hl 3 rfl) ?_
              refine lv_isub hx hb dX8_sure_41 ?_
              refine h_nm (lo := 0) (hi := 99) (iv_sub kc_99 i15 (by decide) (by decide) (by decide) (by decide)) (fun v29 e_v29 i_v29 => ?_)
              exact J42 v29 H locs ls hI hl i_v29
            · have i30 : iv p1 0 0 := iv_eq1 c27 i5 kc_0
              refine lv_iload_n hx hb dX8_sure_34 rfl (lv_at hl 3 rfl) ?_
              refine lv_goto (tgt := 42) hx hb dX8_sure_35 (by decide) ?_
              exact J42 v3_24 H locs ls hI hl i15
      refine lv_istore_n (lv' := [(3, .int (0 : Int32)), (0, .ref x), (1, .int p1), (2, .int p2)]) hx hb dX8_sure_23 rfl hl (by decide) rfl (fun ls hl => ?_)
      exact J24 101 (0 : Int32) H locs ls hI (lv_sub hl [1, 2, 3, 0] rfl) (iv_w (lo' := 0) (hi' := 100) kc_0 (by decide) (by decide)) (by have h9 := kc_0; simp only [iv] at h9; omega)
    · have i31 : iv p1 2 2147483647 := iv_nle1 c4 i3 kc_1 (by decide)
      refine lv_iconst (v := (-1)) hx hb dX8_sure_9 (by decide) ?_
      exact h_iret hQ hx hb hr hlocks rfl hK hI ⟨rfl, rfl, (iv_w (lo' := (-1)) (hi' := 99) kc_m1 (by decide) (by decide))⟩ dX8_sure_10
abbrev e_h_ask_X8 : List (Nat × Nat) := [(6, 7), (6, 8), (14, 999), (18, 999), (21, 999)]
set_option maxHeartbeats 4000000 in
set_option maxRecDepth 100000 in
theorem h_ask_X8 (l : Launch) (D : va_G) (g : Nat → ClassId) (σ : Nat → Option Nat) (Z : State → Heap → Prop) (hZ0 : hZ σ Z) (M : hM) (N : hN) (R : hR) (x : Nat) (g_x : σ x = some 8) (p1 : Int32) (p2 : Int32) (p3 : Int32) : Met l yX8_ask wsX8_ask ({ frames := 6, cells := 0, slots := 0, locals := 143 }) (va_Pc [.ref x, .int p1, .int p2, .int p3] (hPre D g σ Z M N R)) (hQi D g σ e_h_ask_X8 M (fun (r : Int32) (M1 : hM) (N1 : hN) (R1 : hR) => N = N1 ∧ R = R1)) 0 0 (hA σ) := by
  refine h_head (cc := cX8_ask) (maxL := 10) (ret := (some .int)) (by decide) rfl (Nat.le_of_ble_eq_true rfl) e_h_ask_X8 ?_
  intro p e s m below meth c ls Q ar hQ hx hb hr hlocks hml hown hts hK hE H locs hI hl
  have hown : s.vm.findClass RX8 = some m.cls := hown
  have hl : lv_has ls 10 [(0, .ref x), (1, .int p1), (2, .int p2), (3, .int p3)] := hl
  refine lv_iload_n hx hb dX8_ask_0 rfl (lv_at hl 1 rfl) ?_
  refine h_goi hI (by decide) (va_runS (As := [.int p1]) (rest := []) ⟨hx, hb, hml, hown, hts⟩ (h_isSeenQuarter_X8 l D g σ Z hZ0 M N R p1) (va_cwS 1 hts gX8_ask_X8_isSeenQuarter rfl rfl rfl (by decide +kernel) ⟨Nat.le_of_ble_eq_true rfl, Nat.le_of_ble_eq_true rfl⟩) (h_preS hZ0 hK hE hI) rfl rfl hl.1 rfl (lv_room (Nat.le_of_ble_eq_true rfl)) dX8_ask_1 ⟨Nat.le_of_ble_eq_true rfl, Nat.le_of_ble_eq_true rfl⟩) (fun r1 M2 N3 R4 H locs q5 z_M2 hI => ?_)
  obtain ⟨rfl, rfl, rfl, i_r1, z6⟩ := q5
  refine lv_if_eq (tgt := 16) hx hb dX8_ask_4 (by decide) (fun c7 => ?_) (fun c7 => ?_)
  · have i8 : iv r1 0 0 := iv_eq1 c7 i_r1 kc_0
    refine lv_iconst (v := (-1)) hx hb dX8_ask_16 (by decide) ?_
    exact h_iret hQ hx hb hr hlocks rfl hK hI ⟨rfl, rfl⟩ dX8_ask_17
  · have i9 : iv p1 0 9 := z6 c7
    have i10 : iv r1 1 1 := iv_neL c7 i_r1 (by decide) (by decide)
    refine lv_iload_n hx hb dX8_ask_7 rfl (lv_at hl 2 rfl) ?_
    refine lv_if_lt (tgt := 16) hx hb dX8_ask_8 (by decide) (fun c11 => ?_) (fun c11 => ?_)
    · have i12 : iv p2 (-2147483648) (-1) := iv_lt1 c11 (iv_any p2) kc_0 (by decide)
      refine lv_iconst (v := (-1)) hx hb dX8_ask_16 (by decide) ?_
      exact h_iret hQ hx hb hr hlocks rfl hK hI ⟨rfl, rfl⟩ dX8_ask_17
    · have i13 : iv p2 0 2147483647 := iv_nlt1 c11 (iv_any p2) kc_0 (by decide)
      refine lv_iload_n hx hb dX8_ask_11 rfl (lv_at hl 2 rfl) ?_
      refine lv_iconst (v := 1) hx hb dX8_ask_12 (by decide) ?_
      refine lv_icmp_le (tgt := 18) hx hb dX8_ask_13 (by decide) (fun c14 => ?_) (fun c14 => ?_)
      · have i15 : iv p2 0 1 := iv_le1 c14 i13 kc_1 (by decide)
        refine lv_aload_n hx hb dX8_ask_18 rfl (lv_at hl 0 rfl) ?_
        refine lv_iload_n hx hb dX8_ask_19 rfl (lv_at hl 3 rfl) ?_
        refine h_goi hI (by decide) (va_runV (As := [.int p3]) (rest := []) ⟨hx, hb, hml, hown, hts⟩ (h_fits_X8 l D g σ Z hZ0 M N R x g_x p3) (cwV 1 hts gX8_ask_X8_fits rfl rfl rfl (by decide +kernel) ⟨Nat.le_of_ble_eq_true rfl, Nat.le_of_ble_eq_true rfl⟩) (h_preV hZ0 hK hE hI g_x (by decide) rfl) rfl rfl hl.1 rfl (lv_room (Nat.le_of_ble_eq_true rfl)) dX8_ask_20 ⟨Nat.le_of_ble_eq_true rfl, Nat.le_of_ble_eq_true rfl⟩) (fun r16 M17 N18 R19 H locs q20 z_M17 hI => ?_)
        obtain ⟨rfl, rfl⟩ := q20
        refine lv_istore (lv' := [(4, .int r16), (0, .ref x), (1, .int p1), (2, .int p2), (3, .int p3)]) hx hb dX8_ask_23 hl (by decide) rfl (fun ls hl => ?_)
        refine lv_iload hx hb dX8_ask_25 (lv_at hl 0 rfl) ?_
        refine lv_if_ne (tgt := 32) hx hb dX8_ask_27 (by decide) (fun c21 => ?_) (fun c21 => ?_)
        · refine lv_iconst (v := (-1)) hx hb dX8_ask_32 (by decide) ?_
          refine lv_istore (lv' := [(5, .int (-1 : Int32)), (4, .int r16), (0, .ref x), (1, .int p1), (2, .int p2), (3, .int p3)]) hx hb dX8_ask_33 hl (by decide) rfl (fun ls hl => ?_)
          refine lv_iconst (v := (-1)) hx hb dX8_ask_35 (by decide) ?_
          refine lv_istore (lv' := [(6, .int (-1 : Int32)), (5, .int (-1 : Int32)), (4, .int r16), (0, .ref x), (1, .int p1), (2, .int p2), (3, .int p3)]) hx hb dX8_ask_36 hl (by decide) rfl (fun ls hl => ?_)
          refine lv_iconst (v := 0) hx hb dX8_ask_38 (by decide) ?_
          have J41 : ∀ (n : Nat) (v5_41 : Int32) (v6_41 : Int32) (v7_41 : Int32) (H : Heap) (locs : List Loc) (ls : Array Slot), kI D g σ e_h_ask_X8 M s.heap M17 N R H locs → lv_has ls 10 [(0, .ref x), (1, .int p1), (2, .int p2), (3, .int p3), (4, .int r16), (5, .int v5_41), (6, .int v6_41), (7, .int v7_41)] → iv v5_41 (-1) 6 → iv v7_41 0 7 → 8 ≤ v7_41.toInt + (n : Int) → W p l e (headSpec wsX8_ask ({ frames := 6, cells := 0, slots := 0, locals := 143 })).room s m ar below meth c H locs 0 0 Q (F0 m 41 ls []) := by
            intro n
            induction n with
            | zero => intro v5_41 v6_41 v7_41 H locs ls hI hl i_v5_41 i_v7_41 hn; exfalso; have hz := i_v7_41; simp only [iv] at hz; omega
            | succ n ih41 =>
              intro v5_41 v6_41 v7_41 H locs ls hI hl i_v5_41 i_v7_41 hn41
              refine lv_iload hx hb dX8_ask_41 (lv_at hl 7 rfl) ?_
              refine lv_aload_n hx hb dX8_ask_43 rfl (lv_at hl 0 rfl) ?_
              refine h_getr hx hb hts iX8_ask_X8 hown hK hI g_x (by decide) rfl rfl 3 (by decide) rfl 4 rfl (hts (.fieldLink RX8 27 "CatLeases" "mews" "LCatLeases$Mews;") (List.mem_of_getElem? (i := 1) rfl)) (fun _ h9 => h9) dX8_ask_44 (fun a22 e_a22 g_a22 => ?_)
              refine h_geti (lo := 0) (hi := 7) hx hb hts iX8_ask_X4 hown hK hI g_a22 (by decide) rfl rfl 2 (by decide) rfl rfl (hts (.fieldLink RX8 102 "CatLeases$Mews" "tenants" "I") (List.mem_of_getElem? (i := 2) rfl)) (fun _ h9 => h9) dX8_ask_47 (fun v23 e_v23 i_v23 => ?_)
              refine lv_icmp_ge (tgt := 105) hx hb dX8_ask_50 (by decide) (fun c24 => ?_) (fun c24 => ?_)
              · refine lv_iload_n hx hb dX8_ask_105 rfl (lv_at hl 2 rfl) ?_
                refine lv_if_ne (tgt := 114) hx hb dX8_ask_106 (by decide) (fun c25 => ?_) (fun c25 => ?_)
                · have i26 : iv p2 1 1 := iv_neL c25 i15 (by decide) (by decide)
                  refine lv_iload hx hb dX8_ask_114 (lv_at hl 6 rfl) ?_
                  exact h_iret hQ hx hb hr hlocks rfl hK hI ⟨rfl, rfl⟩ dX8_ask_116
                · have i27 : iv p2 0 0 := iv_eq1 c25 i15 kc_0
                  refine lv_iload hx hb dX8_ask_109 (lv_at hl 5 rfl) ?_
                  refine lv_goto (tgt := 116) hx hb dX8_ask_111 (by decide) ?_
                  exact h_iret hQ hx hb hr hlocks rfl hK hI ⟨rfl, rfl⟩ dX8_ask_116
              · have i28 : iv v23 1 7 := iv_nle1 c24 i_v23 i_v7_41 (by decide)
                have i29 : iv v7_41 0 6 := iv_nle2 c24 i_v23 i_v7_41 (by decide)
                refine lv_aload_n hx hb dX8_ask_53 rfl (lv_at hl 0 rfl) ?_
                refine h_getr hx hb hts iX8_ask_X8 hown hK hI g_x (by decide) rfl rfl 12 (by decide) rfl 6 rfl (hts (.fieldLink RX8 76 "CatLeases" "sightings" "LCatLeases$Sightings;") (List.mem_of_getElem? (i := 3) rfl)) (fun _ h9 => h9) dX8_ask_54 (fun a30 e_a30 g_a30 => ?_)
                refine lv_iload hx hb dX8_ask_57 (lv_at hl 7 rfl) ?_
                refine lv_iload_n hx hb dX8_ask_59 rfl (lv_at hl 1 rfl) ?_
                refine lv_iload_n hx hb dX8_ask_60 rfl (lv_at hl 3 rfl) ?_
                refine h_goi hI (by decide) (va_runV (As := [.int v7_41, .int p1, .int p3]) (rest := []) ⟨hx, hb, hml, hown, hts⟩ (h_countInside_X6 l D g σ Z hZ0 M17 N R a30 g_a30 v7_41 i29 p1 p3) (cwV 3 hts gX8_ask_X6_countInside rfl rfl rfl (by decide +kernel) ⟨Nat.le_of_ble_eq_true rfl, Nat.le_of_ble_eq_true rfl⟩) (h_preV hZ0 hK hE hI g_a30 (by decide) rfl) rfl rfl hl.1 rfl (lv_room (Nat.le_of_ble_eq_true rfl)) dX8_ask_61 ⟨Nat.le_of_ble_eq_true rfl, Nat.le_of_ble_eq_true rfl⟩) (fun r31 M32 N33 R34 H locs q35 z_M32 hI => ?_)
                obtain ⟨rfl, rfl, rfl⟩ := q35
                refine lv_istore (lv' := [(8, .int r31), (0, .ref x), (1, .int p1), (2, .int p2), (3, .int p3), (4, .int r16), (5, .int v5_41), (6, .int v6_41), (7, .int v7_41)]) hx hb dX8_ask_64 hl (by decide) rfl (fun ls hl => ?_)
                refine lv_iload hx hb dX8_ask_66 (lv_at hl 0 rfl) ?_
                refine lv_iload hx hb dX8_ask_68 (lv_at hl 5 rfl) ?_
                refine lv_iload hx hb dX8_ask_70 (lv_at hl 0 rfl) ?_
                refine lv_isub hx hb dX8_ask_72 ?_
                refine h_nm (lo := (-2147483648)) (hi := 2147483647) (iv_any _) (fun v36 e_v36 i_v36 => ?_)
                refine va_mmax hx hb (hml.trans hl.1.symm) hown (hts (.methodLink RX8 241 Lib.Math.max.name) (List.mem_of_getElem? (i := 4) rfl)) (hts (.static Lib.Math.max.name) (List.mem_of_getElem? (i := 5) rfl)) (hts (.initialized "java/lang/Math") (List.mem_of_getElem? (i := 6) rfl)) (hts (.code Lib.Math.max.name Lib.Math.max.code 2 (some .int)) (List.mem_of_getElem? (i := 7) rfl)) (Nat.le_of_ble_eq_true rfl) (Nat.le_of_ble_eq_true rfl) (Nat.le_of_ble_eq_true rfl) (Nat.le_of_ble_eq_true rfl) dX8_ask_73 ?_
                refine h_nm (lo := (-2147483648)) (hi := 2147483647) (iv_max (iv_any r31) i_v36 (by decide) (by decide) (by decide)) (fun v37 e_v37 i_v37 => ?_)
                refine lv_istore (lv' := [(9, .int v37), (8, .int r31), (0, .ref x), (1, .int p1), (2, .int p2), (3, .int p3), (4, .int r16), (5, .int v5_41), (6, .int v6_41), (7, .int v7_41)]) hx hb dX8_ask_76 hl (by decide) rfl (fun ls hl => ?_)
                refine lv_iload hx hb dX8_ask_78 (lv_at hl 7 rfl) ?_
                refine lv_iconst (v := (-1)) hx hb dX8_ask_80 (by decide) ?_
                have J99 : ∀ (v5_99 : Int32) (v6_99 : Int32) (H : Heap) (locs : List Loc) (ls : Array Slot), kI D g σ e_h_ask_X8 M s.heap M17 N R H locs → lv_has ls 10 [(0, .ref x), (1, .int p1), (2, .int p2), (3, .int p3), (4, .int r16), (5, .int v5_99), (6, .int v6_99), (7, .int v7_41)] → iv v5_99 0 6 → W p l e (headSpec wsX8_ask ({ frames := 6, cells := 0, slots := 0, locals := 143 })).room s m ar below meth c H locs 0 0 Q (F0 m 99 ls []) := by
                  intro v5_99 v6_99 H locs ls hI hl i_v5_99
                  obtain ⟨v38, e_v38⟩ : ∃ z : Int32, z = v7_41 + Int32.ofInt 1 := ⟨_, rfl⟩
                  have i_v38 : iv v38 1 7 := by rw [e_v38]; exact iv_add i29 (ki_1) (by decide) (by decide) (by decide) (by decide)
                  refine lv_iinc (v := v38) (lv' := [(7, .int v38), (0, .ref x), (1, .int p1), (2, .int p2), (3, .int p3), (4, .int r16), (5, .int v5_99), (6, .int v6_99)]) hx hb dX8_ask_99 hl (k := 7) rfl e_v38.symm (by decide) rfl (fun ls hl => ?_)
                  refine lv_goto (tgt := 41) hx hb dX8_ask_102 (by decide) ?_
                  exact ih41 v5_99 v6_99 v38 H locs ls hI (lv_sub hl [1, 2, 3, 4, 5, 6, 7, 0] rfl) (iv_w (lo' := (-1)) (hi' := 6) i_v5_99 (by decide) (by decide)) (iv_w (lo' := 0) (hi' := 7) i_v38 (by decide) (by decide)) (by have h9 := (h_inc e_v38 i29 ki_1 (by decide) (by decide)); omega)
                have J91 : ∀ (H : Heap) (locs : List Loc) (ls : Array Slot), kI D g σ e_h_ask_X8 M s.heap M17 N R H locs → lv_has ls 10 [(0, .ref x), (1, .int p1), (2, .int p2), (3, .int p3), (4, .int r16), (7, .int v7_41), (9, .int v37)] → W p l e (headSpec wsX8_ask ({ frames := 6, cells := 0, slots := 0, locals := 143 })).room s m ar below meth c H locs 0 0 Q (F0 m 91 ls []) := by
                  intro H locs ls hI hl
                  refine lv_iload hx hb dX8_ask_91 (lv_at hl 5 rfl) ?_
                  refine lv_istore (lv' := [(5, .int v7_41), (0, .ref x), (1, .int p1), (2, .int p2), (3, .int p3), (4, .int r16), (7, .int v7_41), (9, .int v37)]) hx hb dX8_ask_93 hl (by decide) rfl (fun ls hl => ?_)
                  refine lv_iload hx hb dX8_ask_95 (lv_at hl 7 rfl) ?_
                  refine lv_istore (lv' := [(6, .int v37), (5, .int v7_41), (0, .ref x), (1, .int p1), (2, .int p2), (3, .int p3), (4, .int r16), (7, .int v7_41), (9, .int v37)]) hx hb dX8_ask_97 hl (by decide) rfl (fun ls hl => ?_)
                  exact J99 v7_41 v37 H locs ls hI (lv_sub hl [2, 3, 4, 5, 6, 1, 0, 7] rfl) i29
                refine lv_icmp_eq (tgt := 91) hx hb dX8_ask_81 (by decide) (fun c39 => ?_) (fun c39 => ?_)
                · have i40 : iv v5_41 (-1) (-1) := iv_eq1 c39 i_v5_41 kc_m1
                  exact J91 H locs ls hI (lv_sub hl [2, 3, 4, 5, 6, 9, 0] rfl)
                · have i41 : iv v5_41 0 6 := iv_neL c39 i_v5_41 (by decide) (by decide)
                  refine lv_iload hx hb dX8_ask_84 (lv_at hl 0 rfl) ?_
                  refine lv_iload hx hb dX8_ask_86 (lv_at hl 8 rfl) ?_
                  refine lv_icmp_ge (tgt := 99) hx hb dX8_ask_88 (by decide) (fun c42 => ?_) (fun c42 => ?_)
                  · exact J99 v5_41 v6_41 H locs ls hI (lv_sub hl [2, 3, 4, 5, 6, 7, 8, 9] rfl) i41
                  · have i43 : iv v6_41 (-2147483647) 2147483647 := iv_nle1 c42 (iv_any v6_41) i_v37 (by decide)
                    have i44 : iv v37 (-2147483648) 2147483646 := iv_nle2 c42 (iv_any v6_41) i_v37 (by decide)
                    exact J91 H locs ls hI (lv_sub hl [2, 3, 4, 5, 6, 9, 0] rfl)
          refine lv_istore (lv' := [(7, .int (0 : Int32)), (6, .int (-1 : Int32)), (5, .int (-1 : Int32)), (4, .int r16), (0, .ref x), (1, .int p1), (2, .int p2), (3, .int p3)]) hx hb dX8_ask_39 hl (by decide) rfl (fun ls hl => ?_)
          exact J41 8 (-1 : Int32) (-1 : Int32) (0 : Int32) H locs ls hI (lv_sub hl [4, 5, 6, 7, 3, 2, 1, 0] rfl) (iv_w (lo' := (-1)) (hi' := 6) kc_m1 (by decide) (by decide)) (iv_w (lo' := 0) (hi' := 7) kc_0 (by decide) (by decide)) (by have h9 := kc_0; simp only [iv] at h9; omega)
        · have i45 : iv r16 0 0 := iv_eq1 c21 (iv_any r16) kc_0
          refine lv_iconst (v := (-1)) hx hb dX8_ask_30 (by decide) ?_
          exact h_iret hQ hx hb hr hlocks rfl hK hI ⟨rfl, rfl⟩ dX8_ask_31
      · have i46 : iv p2 2 2147483647 := iv_nle1 c14 i13 kc_1 (by decide)
        refine lv_iconst (v := (-1)) hx hb dX8_ask_16 (by decide) ?_
        exact h_iret hQ hx hb hr hlocks rfl hK hI ⟨rfl, rfl⟩ dX8_ask_17
abbrev e_h_image_X8 : List (Nat × Nat) := [(7, 5), (7, 6), (7, 7), (8, 7), (12, 999), (13, 999), (14, 999)]
set_option maxHeartbeats 4000000 in
set_option maxRecDepth 100000 in
theorem h_image_X8 (l : Launch) (D : va_G) (g : Nat → ClassId) (σ : Nat → Option Nat) (Z : State → Heap → Prop) (hZ0 : hZ σ Z) (M : hM) (N : hN) (R : hR) (x : Nat) (g_x : σ x = some 8) (p1 : Int32) : Met l yX8_image wsX8_image ({ frames := 2, cells := 0, slots := 0, locals := 61 }) (va_Pc [.ref x, .int p1] (hPre D g σ Z M N R)) (hQi D g σ e_h_image_X8 M (fun (r : Int32) (M1 : hM) (N1 : hN) (R1 : hR) => N = N1 ∧ R = R1)) 0 0 (hA σ) := by
  refine h_head (cc := cX8_image) (maxL := 3) (ret := (some .int)) (by decide) rfl (Nat.le_of_ble_eq_true rfl) e_h_image_X8 ?_
  intro p e s m below meth c ls Q ar hQ hx hb hr hlocks hml hown hts hK hE H locs hI hl
  have hown : s.vm.findClass RX8 = some m.cls := hown
  have hl : lv_has ls 3 [(0, .ref x), (1, .int p1)] := hl
  refine lv_iload_n hx hb dX8_image_0 rfl (lv_at hl 1 rfl) ?_
  refine lv_if_lt (tgt := 13) hx hb dX8_image_1 (by decide) (fun c1 => ?_) (fun c1 => ?_)
  · have i2 : iv p1 (-2147483648) (-1) := iv_lt1 c1 (iv_any p1) kc_0 (by decide)
    refine lv_iconst (v := (-1)) hx hb dX8_image_13 (by decide) ?_
    exact h_iret hQ hx hb hr hlocks rfl hK hI ⟨rfl, rfl⟩ dX8_image_14
  · have i3 : iv p1 0 2147483647 := iv_nlt1 c1 (iv_any p1) kc_0 (by decide)
    refine lv_iload_n hx hb dX8_image_4 rfl (lv_at hl 1 rfl) ?_
    refine lv_aload_n hx hb dX8_image_5 rfl (lv_at hl 0 rfl) ?_
    refine h_getr hx hb hts iX8_image_X8 hown hK hI g_x (by decide) rfl rfl 6 (by decide) rfl 27 rfl (hts (.fieldLink RX8 45 "CatLeases" "boxes" "[LCatLeases$State;") (List.mem_of_getElem? (i := 1) rfl)) (fun _ h9 => h9) dX8_image_6 (fun a4 e_a4 g_a4 => ?_)
    refine h_alen (v := 3) hx hb hK hI g_a4 (by decide) rfl (by decide) (by decide) dX8_image_9 ?_
    refine lv_icmp_lt (tgt := 15) hx hb dX8_image_10 (by decide) (fun c5 => ?_) (fun c5 => ?_)
    · have i6 : iv p1 0 2 := iv_lt1 c5 i3 kc_3 (by decide)
      refine lv_aload_n hx hb dX8_image_15 rfl (lv_at hl 0 rfl) ?_
      refine h_getr hx hb hts iX8_image_X8 hown hK hI g_x (by decide) rfl rfl 4 (by decide) rfl 0 rfl (hts (.fieldLink RX8 34 "CatLeases" "acts" "LCatLeases$Acts;") (List.mem_of_getElem? (i := 2) rfl)) (fun _ h9 => h9) dX8_image_16 (fun a7 e_a7 g_a7 => ?_)
      refine h_gor hI (by decide) (va_runV (As := []) (rest := []) ⟨hx, hb, hml, hown, hts⟩ (h_current_X0 l D g σ Z hZ0 M N R a7 g_a7) (cwV 0 hts gX8_image_X0_current rfl rfl rfl (by decide +kernel) ⟨Nat.le_of_ble_eq_true rfl, Nat.le_of_ble_eq_true rfl⟩) (h_preV hZ0 hK hE hI g_a7 (by decide) rfl) rfl rfl hl.1 rfl (lv_room (Nat.le_of_ble_eq_true rfl)) dX8_image_19 ⟨Nat.le_of_ble_eq_true rfl, Nat.le_of_ble_eq_true rfl⟩) (fun a8 M9 N10 R11 H locs q12 z_M9 hI => ?_)
      obtain ⟨rfl, rfl, rfl, g_a8⟩ := q12
      refine lv_astore_n (lv' := [(2, .ref a8), (0, .ref x), (1, .int p1)]) hx hb dX8_image_22 rfl hl (by decide) rfl (fun ls hl => ?_)
      refine lv_aload_n hx hb dX8_image_23 rfl (lv_at hl 1 rfl) ?_
      refine h_getr hx hb hts iX8_image_X8 hown hK hI g_x (by decide) rfl rfl 6 (by decide) rfl 27 rfl (hts (.fieldLink RX8 45 "CatLeases" "boxes" "[LCatLeases$State;") (List.mem_of_getElem? (i := 1) rfl)) (fun _ h9 => h9) dX8_image_24 (fun a13 e_a13 g_a13 => ?_)
      have q14 : a4 = a13 := (e_a4).trans e_a13.symm
      subst q14
      refine lv_iload_n hx hb dX8_image_27 rfl (lv_at hl 2 rfl) ?_
      refine h_aald (j := p1.toNatClampNeg) hx hb hK hI g_a4 (by decide) rfl rfl rfl (iv_in (n := 3) i6 (by decide) (by decide)) rfl dX8_image_28 (fun a15 e_a15 g_a15 => ?_)
      refine lv_aload_n hx hb dX8_image_29 rfl (lv_at hl 0 rfl) ?_
      refine h_gov hI (by decide) (va_runV (As := [.ref a8]) (rest := []) ⟨hx, hb, hml, hown, hts⟩ (h_copyOf_X7 l D g σ Z hZ0 M N R a15 g_a15 a8 g_a8) (cwV 1 hts gX8_image_X7_copyOf rfl rfl rfl (by decide +kernel) ⟨Nat.le_of_ble_eq_true rfl, Nat.le_of_ble_eq_true rfl⟩) (h_preV hZ0 hK hE hI g_a15 (by decide) rfl) rfl rfl hl.1 rfl (lv_room (Nat.le_of_ble_eq_true rfl)) dX8_image_30 ⟨Nat.le_of_ble_eq_true rfl, Nat.le_of_ble_eq_true rfl⟩) (fun M17 N18 R19 H locs q20 z_M17 hI => ?_)
      obtain ⟨rfl, rfl⟩ := q20
      refine lv_aload_n hx hb dX8_image_33 rfl (lv_at hl 1 rfl) ?_
      refine lv_dup hx hb dX8_image_34 rfl ?_
      refine h_geti (lo := (-2147483648)) (hi := 2147483647) hx hb hts iX8_image_X8 hown hK hI g_x (by decide) rfl rfl 7 (by decide) rfl rfl (hts (.fieldLink RX8 49 "CatLeases" "filledBoxes" "I") (List.mem_of_getElem? (i := 3) rfl)) (fun _ h9 => h9) dX8_image_35 (fun v21 e_v21 i_v21 => ?_)
      refine lv_iconst (v := 1) hx hb dX8_image_38 (by decide) ?_
      refine lv_iload_n hx hb dX8_image_39 rfl (lv_at hl 2 rfl) ?_
      refine lv_ishl hx hb dX8_image_40 ?_
      refine h_nm (lo := 1) (hi := 4) (iv_shl1 2 i6 (by decide) (by decide) (by decide) (by decide) (by decide)) (fun v22 e_v22 i_v22 => ?_)
      refine lv_ior hx hb dX8_image_41 ?_
      refine h_nm (lo := (-2147483648)) (hi := 2147483647) (iv_any _) (fun v23 e_v23 i_v23 => ?_)
      refine h_puti hx hb hts iX8_image_X8 tyX8 tyX8_ok nmX8 hown hK hI g_x (by decide) rfl rfl 7 (by decide) rfl (hts (.fieldLink RX8 49 "CatLeases" "filledBoxes" "I") (List.mem_of_getElem? (i := 3) rfl)) (fun _ h9 => h9) rfl .int (by decide +kernel) rfl rfl i_v23 rfl dX8_image_42 (fun M24 H locs e_M24 hI => ?_)
      refine lv_aload_n hx hb dX8_image_45 rfl (lv_at hl 0 rfl) ?_
      refine h_geti (lo := (-2147483648)) (hi := 2147483647) hx hb hts iX8_image_X7 hown hK hI g_a8 (by decide) rfl rfl 6 (by decide) rfl rfl (hts (.fieldLink RX8 176 "CatLeases$State" "quarters" "I") (List.mem_of_getElem? (i := 4) rfl)) (fun _ h9 => h9) dX8_image_46 (fun v25 e_v25 i_v25 => ?_)
      exact h_iret hQ hx hb hr hlocks rfl hK hI ⟨rfl, rfl⟩ dX8_image_49
    · have i26 : iv p1 3 2147483647 := iv_nlt1 c5 i3 kc_3 (by decide)
      refine lv_iconst (v := (-1)) hx hb dX8_image_13 (by decide) ?_
      exact h_iret hQ hx hb hr hlocks rfl hK hI ⟨rfl, rfl⟩ dX8_image_14
abbrev e_h_back_X8 : List (Nat × Nat) := [(0, 0), (0, 1), (7, 5), (7, 6), (7, 7), (12, 999), (13, 999), (14, 999)]
set_option maxHeartbeats 4000000 in
set_option maxRecDepth 100000 in
theorem h_back_X8 (l : Launch) (D : va_G) (g : Nat → ClassId) (σ : Nat → Option Nat) (Z : State → Heap → Prop) (hZ0 : hZ σ Z) (M : hM) (N : hN) (R : hR) (x : Nat) (g_x : σ x = some 8) (p1 : Int32) : Met l yX8_back wsX8_back ({ frames := 3, cells := 0, slots := 0, locals := 82 }) (va_Pc [.ref x, .int p1] (hPre D g σ Z M N R)) (hQi D g σ e_h_back_X8 M (fun (r : Int32) (M1 : hM) (N1 : hN) (R1 : hR) => N = N1 ∧ R = R1)) 0 0 (hA σ) := by
  refine h_head (cc := cX8_back) (maxL := 2) (ret := (some .int)) (by decide) rfl (Nat.le_of_ble_eq_true rfl) e_h_back_X8 ?_
  intro p e s m below meth c ls Q ar hQ hx hb hr hlocks hml hown hts hK hE H locs hI hl
  have hown : s.vm.findClass RX8 = some m.cls := hown
  have hl : lv_has ls 2 [(0, .ref x), (1, .int p1)] := hl
  refine lv_iload_n hx hb dX8_back_0 rfl (lv_at hl 1 rfl) ?_
  refine lv_if_lt (tgt := 24) hx hb dX8_back_1 (by decide) (fun c1 => ?_) (fun c1 => ?_)
  · have i2 : iv p1 (-2147483648) (-1) := iv_lt1 c1 (iv_any p1) kc_0 (by decide)
    refine lv_iconst (v := (-1)) hx hb dX8_back_24 (by decide) ?_
    exact h_iret hQ hx hb hr hlocks rfl hK hI ⟨rfl, rfl⟩ dX8_back_25
  · have i3 : iv p1 0 2147483647 := iv_nlt1 c1 (iv_any p1) kc_0 (by decide)
    refine lv_iload_n hx hb dX8_back_4 rfl (lv_at hl 1 rfl) ?_
    refine lv_aload_n hx hb dX8_back_5 rfl (lv_at hl 0 rfl) ?_
    refine h_getr hx hb hts iX8_back_X8 hown hK hI g_x (by decide) rfl rfl 6 (by decide) rfl 27 rfl (hts (.fieldLink RX8 45 "CatLeases" "boxes" "[LCatLeases$State;") (List.mem_of_getElem? (i := 1) rfl)) (fun _ h9 => h9) dX8_back_6 (fun a4 e_a4 g_a4 => ?_)
    refine h_alen (v := 3) hx hb hK hI g_a4 (by decide) rfl (by decide) (by decide) dX8_back_9 ?_
    refine lv_icmp_ge (tgt := 24) hx hb dX8_back_10 (by decide) (fun c5 => ?_) (fun c5 => ?_)
    · have i6 : iv p1 3 2147483647 := iv_le2 c5 kc_3 i3 (by decide)
      refine lv_iconst (v := (-1)) hx hb dX8_back_24 (by decide) ?_
      exact h_iret hQ hx hb hr hlocks rfl hK hI ⟨rfl, rfl⟩ dX8_back_25
    · have i7 : iv p1 0 2 := iv_nle2 c5 kc_3 i3 (by decide)
      refine lv_aload_n hx hb dX8_back_13 rfl (lv_at hl 0 rfl) ?_
      refine h_geti (lo := (-2147483648)) (hi := 2147483647) hx hb hts iX8_back_X8 hown hK hI g_x (by decide) rfl rfl 7 (by decide) rfl rfl (hts (.fieldLink RX8 49 "CatLeases" "filledBoxes" "I") (List.mem_of_getElem? (i := 2) rfl)) (fun _ h9 => h9) dX8_back_14 (fun v8 e_v8 i_v8 => ?_)
      refine lv_iload_n hx hb dX8_back_17 rfl (lv_at hl 1 rfl) ?_
      refine lv_ishr hx hb dX8_back_18 ?_
      refine h_nm (lo := (-2147483648)) (hi := 2147483647) (iv_any _) (fun v9 e_v9 i_v9 => ?_)
      refine lv_iconst (v := 1) hx hb dX8_back_19 (by decide) ?_
      refine lv_iand hx hb dX8_back_20 ?_
      refine h_nm (lo := 0) (hi := 1) (iv_and 1 (by decide) (by decide) (by decide)) (fun v10 e_v10 i_v10 => ?_)
      refine lv_if_ne (tgt := 26) hx hb dX8_back_21 (by decide) (fun c11 => ?_) (fun c11 => ?_)
      · have i12 : iv v10 1 1 := iv_neL c11 i_v10 (by decide) (by decide)
        refine lv_aload_n hx hb dX8_back_26 rfl (lv_at hl 0 rfl) ?_
        refine h_getr hx hb hts iX8_back_X8 hown hK hI g_x (by decide) rfl rfl 4 (by decide) rfl 0 rfl (hts (.fieldLink RX8 34 "CatLeases" "acts" "LCatLeases$Acts;") (List.mem_of_getElem? (i := 3) rfl)) (fun _ h9 => h9) dX8_back_27 (fun a13 e_a13 g_a13 => ?_)
        refine lv_aload_n hx hb dX8_back_30 rfl (lv_at hl 0 rfl) ?_
        refine h_getr hx hb hts iX8_back_X8 hown hK hI g_x (by decide) rfl rfl 6 (by decide) rfl 27 rfl (hts (.fieldLink RX8 45 "CatLeases" "boxes" "[LCatLeases$State;") (List.mem_of_getElem? (i := 1) rfl)) (fun _ h9 => h9) dX8_back_31 (fun a14 e_a14 g_a14 => ?_)
        have q15 : a4 = a14 := (e_a4).trans e_a14.symm
        subst q15
        refine lv_iload_n hx hb dX8_back_34 rfl (lv_at hl 1 rfl) ?_
        refine h_aald (j := p1.toNatClampNeg) hx hb hK hI g_a4 (by decide) rfl rfl rfl (iv_in (n := 3) i7 (by decide) (by decide)) rfl dX8_back_35 (fun a16 e_a16 g_a16 => ?_)
        refine h_gov hI (by decide) (va_runV (As := [.ref a16]) (rest := []) ⟨hx, hb, hml, hown, hts⟩ (h_startFrom_X0 l D g σ Z hZ0 M N R a13 g_a13 a16 g_a16) (cwV 1 hts gX8_back_X0_startFrom rfl rfl rfl (by decide +kernel) ⟨Nat.le_of_ble_eq_true rfl, Nat.le_of_ble_eq_true rfl⟩) (h_preV hZ0 hK hE hI g_a13 (by decide) rfl) rfl rfl hl.1 rfl (lv_room (Nat.le_of_ble_eq_true rfl)) dX8_back_36 ⟨Nat.le_of_ble_eq_true rfl, Nat.le_of_ble_eq_true rfl⟩) (fun M18 N19 R20 H locs q21 z_M18 hI => ?_)
        obtain ⟨rfl, rfl⟩ := q21
        refine lv_aload_n hx hb dX8_back_39 rfl (lv_at hl 0 rfl) ?_
        refine h_getr hx hb hts iX8_back_X8 hown hK hI g_x (by decide) rfl rfl 4 (by decide) rfl 0 rfl (hts (.fieldLink RX8 34 "CatLeases" "acts" "LCatLeases$Acts;") (List.mem_of_getElem? (i := 3) rfl)) (fun _ h9 => h9) dX8_back_40 (fun a22 e_a22 g_a22 => ?_)
        have q23 : a13 = a22 := (e_a13).trans e_a22.symm
        subst q23
        refine h_gor hI (by decide) (va_runV (As := []) (rest := []) ⟨hx, hb, hml, hown, hts⟩ (h_current_X0 l D g σ Z hZ0 M18 N R a13 g_a13) (cwV 0 hts gX8_back_X0_current rfl rfl rfl (by decide +kernel) ⟨Nat.le_of_ble_eq_true rfl, Nat.le_of_ble_eq_true rfl⟩) (h_preV hZ0 hK hE hI g_a13 (by decide) rfl) rfl rfl hl.1 rfl (lv_room (Nat.le_of_ble_eq_true rfl)) dX8_back_43 ⟨Nat.le_of_ble_eq_true rfl, Nat.le_of_ble_eq_true rfl⟩) (fun a24 M25 N26 R27 H locs q28 z_M25 hI => ?_)
        obtain ⟨rfl, rfl, rfl, g_a24⟩ := q28
        refine h_geti (lo := (-2147483648)) (hi := 2147483647) hx hb hts iX8_back_X7 hown hK hI g_a24 (by decide) rfl rfl 6 (by decide) rfl rfl (hts (.fieldLink RX8 176 "CatLeases$State" "quarters" "I") (List.mem_of_getElem? (i := 4) rfl)) (fun _ h9 => h9) dX8_back_46 (fun v29 e_v29 i_v29 => ?_)
        exact h_iret hQ hx hb hr hlocks rfl hK hI ⟨rfl, rfl⟩ dX8_back_49
      · have i30 : iv v10 0 0 := iv_eq1 c11 i_v10 kc_0
        refine lv_iconst (v := (-1)) hx hb dX8_back_24 (by decide) ?_
        exact h_iret hQ hx hb hr hlocks rfl hK hI ⟨rfl, rfl⟩ dX8_back_25
abbrev e_h_about_X8 : List (Nat × Nat) := []
set_option maxHeartbeats 4000000 in
set_option maxRecDepth 100000 in
theorem h_about_X8 (l : Launch) (D : va_G) (g : Nat → ClassId) (σ : Nat → Option Nat) (Z : State → Heap → Prop) (hZ0 : hZ σ Z) (M : hM) (N : hN) (R : hR) (x : Nat) (g_x : σ x = some 8) (p1 : Int32) : Met l yX8_about wsX8_about ({ frames := 1, cells := 0, slots := 0, locals := 23 }) (va_Pc [.ref x, .int p1] (hPre D g σ Z M N R)) (hQi D g σ e_h_about_X8 M (fun (r : Int32) (M1 : hM) (N1 : hN) (R1 : hR) => M = M1 ∧ N = N1 ∧ R = R1)) 0 0 (hA σ) := by
  refine h_head (cc := cX8_about) (maxL := 3) (ret := (some .int)) (by decide) rfl (Nat.le_of_ble_eq_true rfl) e_h_about_X8 ?_
  intro p e s m below meth c ls Q ar hQ hx hb hr hlocks hml hown hts hK hE H locs hI hl
  have hown : s.vm.findClass RX8 = some m.cls := hown
  have hl : lv_has ls 3 [(0, .ref x), (1, .int p1)] := hl
  refine lv_aload_n hx hb dX8_about_0 rfl (lv_at hl 0 rfl) ?_
  refine h_getr hx hb hts iX8_about_X8 hown hK hI g_x (by decide) rfl rfl 4 (by decide) rfl 0 rfl (hts (.fieldLink RX8 34 "CatLeases" "acts" "LCatLeases$Acts;") (List.mem_of_getElem? (i := 1) rfl)) (fun _ h9 => h9) dX8_about_1 (fun a1 e_a1 g_a1 => ?_)
  refine h_gor hI (by decide) (va_runV (As := []) (rest := []) ⟨hx, hb, hml, hown, hts⟩ (h_current_X0 l D g σ Z hZ0 M N R a1 g_a1) (cwV 0 hts gX8_about_X0_current rfl rfl rfl (by decide +kernel) ⟨Nat.le_of_ble_eq_true rfl, Nat.le_of_ble_eq_true rfl⟩) (h_preV hZ0 hK hE hI g_a1 (by decide) rfl) rfl rfl hl.1 rfl (lv_room (Nat.le_of_ble_eq_true rfl)) dX8_about_4 ⟨Nat.le_of_ble_eq_true rfl, Nat.le_of_ble_eq_true rfl⟩) (fun a2 M3 N4 R5 H locs q6 z_M3 hI => ?_)
  obtain ⟨rfl, rfl, rfl, g_a2⟩ := q6
  refine lv_astore_n (lv' := [(2, .ref a2), (0, .ref x), (1, .int p1)]) hx hb dX8_about_7 rfl hl (by decide) rfl (fun ls hl => ?_)
  refine lv_iload_n hx hb dX8_about_8 rfl (lv_at hl 2 rfl) ?_
  by_cases c7 : p1 = 0
  · refine lv_tableIn (tgt := 80) hx hb dX8_about_9 (by rw [c7]; decide) (by rw [c7]; decide) (by rw [c7] <;> rfl) (by decide) ?_
    have i8 : iv p1 0 0 := iv_eq1 c7 (iv_any p1) kc_0
    refine lv_aload_n hx hb dX8_about_80 rfl (lv_at hl 1 rfl) ?_
    refine h_getr hx hb hts iX8_about_X8 hown hK hI g_x (by decide) rfl rfl 3 (by decide) rfl 4 rfl (hts (.fieldLink RX8 27 "CatLeases" "mews" "LCatLeases$Mews;") (List.mem_of_getElem? (i := 2) rfl)) (fun _ h9 => h9) dX8_about_81 (fun a9 e_a9 g_a9 => ?_)
    refine h_geti (lo := 0) (hi := 7) hx hb hts iX8_about_X4 hown hK hI g_a9 (by decide) rfl rfl 2 (by decide) rfl rfl (hts (.fieldLink RX8 102 "CatLeases$Mews" "tenants" "I") (List.mem_of_getElem? (i := 3) rfl)) (fun _ h9 => h9) dX8_about_84 (fun v10 e_v10 i_v10 => ?_)
    exact h_iret hQ hx hb hr hlocks rfl hK hI ⟨rfl, rfl, rfl⟩ dX8_about_87
  by_cases c11 : p1 = 1
  · refine lv_tableIn (tgt := 88) hx hb dX8_about_9 (by rw [c11]; decide) (by rw [c11]; decide) (by rw [c11] <;> rfl) (by decide) ?_
    have i12 : iv p1 1 1 := iv_eq1 c11 (iv_any p1) kc_1
    refine lv_aload_n hx hb dX8_about_88 rfl (lv_at hl 1 rfl) ?_
    refine h_getr hx hb hts iX8_about_X8 hown hK hI g_x (by decide) rfl rfl 3 (by decide) rfl 4 rfl (hts (.fieldLink RX8 27 "CatLeases" "mews" "LCatLeases$Mews;") (List.mem_of_getElem? (i := 2) rfl)) (fun _ h9 => h9) dX8_about_89 (fun a13 e_a13 g_a13 => ?_)
    refine h_geti (lo := 0) (hi := 6) hx hb hts iX8_about_X4 hown hK hI g_a13 (by decide) rfl rfl 0 (by decide) rfl rfl (hts (.fieldLink RX8 170 "CatLeases$Mews" "cats" "I") (List.mem_of_getElem? (i := 4) rfl)) (fun _ h9 => h9) dX8_about_92 (fun v14 e_v14 i_v14 => ?_)
    exact h_iret hQ hx hb hr hlocks rfl hK hI ⟨rfl, rfl, rfl⟩ dX8_about_95
  by_cases c15 : p1 = 2
  · refine lv_tableIn (tgt := 96) hx hb dX8_about_9 (by rw [c15]; decide) (by rw [c15]; decide) (by rw [c15] <;> rfl) (by decide) ?_
    have i16 : iv p1 2 2 := iv_eq1 c15 (iv_any p1) kc_2
    refine lv_aload_n hx hb dX8_about_96 rfl (lv_at hl 1 rfl) ?_
    refine h_getr hx hb hts iX8_about_X8 hown hK hI g_x (by decide) rfl rfl 3 (by decide) rfl 4 rfl (hts (.fieldLink RX8 27 "CatLeases" "mews" "LCatLeases$Mews;") (List.mem_of_getElem? (i := 2) rfl)) (fun _ h9 => h9) dX8_about_97 (fun a17 e_a17 g_a17 => ?_)
    refine h_geti (lo := 0) (hi := 8) hx hb hts iX8_about_X4 hown hK hI g_a17 (by decide) rfl rfl 1 (by decide) rfl rfl (hts (.fieldLink RX8 173 "CatLeases$Mews" "rooms" "I") (List.mem_of_getElem? (i := 5) rfl)) (fun _ h9 => h9) dX8_about_100 (fun v18 e_v18 i_v18 => ?_)
    exact h_iret hQ hx hb hr hlocks rfl hK hI ⟨rfl, rfl, rfl⟩ dX8_about_103
  by_cases c19 : p1 = 3
  · refine lv_tableIn (tgt := 104) hx hb dX8_about_9 (by rw [c19]; decide) (by rw [c19]; decide) (by rw [c19] <;> rfl) (by decide) ?_
    have i20 : iv p1 3 3 := iv_eq1 c19 (iv_any p1) kc_3
    refine lv_aload_n hx hb dX8_about_104 rfl (lv_at hl 0 rfl) ?_
    refine h_geti (lo := (-2147483648)) (hi := 2147483647) hx hb hts iX8_about_X7 hown hK hI g_a2 (by decide) rfl rfl 5 (by decide) rfl rfl (hts (.fieldLink RX8 299 "CatLeases$State" "living" "I") (List.mem_of_getElem? (i := 6) rfl)) (fun _ h9 => h9) dX8_about_105 (fun v21 e_v21 i_v21 => ?_)
    exact h_iret hQ hx hb hr hlocks rfl hK hI ⟨rfl, rfl, rfl⟩ dX8_about_108
  by_cases c22 : p1 = 4
  · refine lv_tableIn (tgt := 109) hx hb dX8_about_9 (by rw [c22]; decide) (by rw [c22]; decide) (by rw [c22] <;> rfl) (by decide) ?_
    have i23 : iv p1 4 4 := iv_eq1 c22 (iv_any p1) kc_4
    refine lv_aload_n hx hb dX8_about_109 rfl (lv_at hl 1 rfl) ?_
    refine h_getr hx hb hts iX8_about_X8 hown hK hI g_x (by decide) rfl rfl 3 (by decide) rfl 4 rfl (hts (.fieldLink RX8 27 "CatLeases" "mews" "LCatLeases$Mews;") (List.mem_of_getElem? (i := 2) rfl)) (fun _ h9 => h9) dX8_about_110 (fun a24 e_a24 g_a24 => ?_)
    refine lv_aload_n hx hb dX8_about_113 rfl (lv_at hl 0 rfl) ?_
    refine h_goi hI (by decide) (va_runV (As := [.ref a2]) (rest := []) ⟨hx, hb, hml, hown, hts⟩ (h_whoIsOut_X4 l D g σ Z hZ0 M N R a24 g_a24 a2 g_a2) (cwV 1 hts gX8_about_X4_whoIsOut rfl rfl rfl (by decide +kernel) ⟨Nat.le_of_ble_eq_true rfl, Nat.le_of_ble_eq_true rfl⟩) (h_preV hZ0 hK hE hI g_a24 (by decide) rfl) rfl rfl hl.1 rfl (lv_room (Nat.le_of_ble_eq_true rfl)) dX8_about_114 ⟨Nat.le_of_ble_eq_true rfl, Nat.le_of_ble_eq_true rfl⟩) (fun r25 M26 N27 R28 H locs q29 z_M26 hI => ?_)
    obtain ⟨rfl, rfl, rfl, i_r25⟩ := q29
    exact h_iret hQ hx hb hr hlocks rfl hK hI ⟨rfl, rfl, rfl⟩ dX8_about_117
  by_cases c30 : p1 = 5
  · refine lv_tableIn (tgt := 118) hx hb dX8_about_9 (by rw [c30]; decide) (by rw [c30]; decide) (by rw [c30] <;> rfl) (by decide) ?_
    have i31 : iv p1 5 5 := iv_eq1 c30 (iv_any p1) kc_5
    refine lv_aload_n hx hb dX8_about_118 rfl (lv_at hl 0 rfl) ?_
    refine h_geti (lo := (-2147483648)) (hi := 2147483647) hx hb hts iX8_about_X7 hown hK hI g_a2 (by decide) rfl rfl 6 (by decide) rfl rfl (hts (.fieldLink RX8 176 "CatLeases$State" "quarters" "I") (List.mem_of_getElem? (i := 7) rfl)) (fun _ h9 => h9) dX8_about_119 (fun v32 e_v32 i_v32 => ?_)
    exact h_iret hQ hx hb hr hlocks rfl hK hI ⟨rfl, rfl, rfl⟩ dX8_about_122
  by_cases c33 : p1 = 6
  · refine lv_tableIn (tgt := 123) hx hb dX8_about_9 (by rw [c33]; decide) (by rw [c33]; decide) (by rw [c33] <;> rfl) (by decide) ?_
    have i34 : iv p1 6 6 := iv_eq1 c33 (iv_any p1) kc_6
    refine lv_aload_n hx hb dX8_about_123 rfl (lv_at hl 0 rfl) ?_
    refine h_geti (lo := (-2147483648)) (hi := 2147483647) hx hb hts iX8_about_X7 hown hK hI g_a2 (by decide) rfl rfl 7 (by decide) rfl rfl (hts (.fieldLink RX8 343 "CatLeases$State" "seed" "I") (List.mem_of_getElem? (i := 8) rfl)) (fun _ h9 => h9) dX8_about_124 (fun v35 e_v35 i_v35 => ?_)
    exact h_iret hQ hx hb hr hlocks rfl hK hI ⟨rfl, rfl, rfl⟩ dX8_about_127
  by_cases c36 : p1 = 7
  · refine lv_tableIn (tgt := 128) hx hb dX8_about_9 (by rw [c36]; decide) (by rw [c36]; decide) (by rw [c36] <;> rfl) (by decide) ?_
    have i37 : iv p1 7 7 := iv_eq1 c36 (iv_any p1) kc_7
    refine lv_aload_n hx hb dX8_about_128 rfl (lv_at hl 1 rfl) ?_
    refine h_getr hx hb hts iX8_about_X8 hown hK hI g_x (by decide) rfl rfl 4 (by decide) rfl 0 rfl (hts (.fieldLink RX8 34 "CatLeases" "acts" "LCatLeases$Acts;") (List.mem_of_getElem? (i := 1) rfl)) (fun _ h9 => h9) dX8_about_129 (fun a38 e_a38 g_a38 => ?_)
    have q39 : a1 = a38 := (e_a1).trans e_a38.symm
    subst q39
    refine h_geti (lo := (-2147483648)) (hi := 2147483647) hx hb hts iX8_about_X0 hown hK hI g_a1 (by decide) rfl rfl 0 (by decide) rfl rfl (hts (.fieldLink RX8 346 "CatLeases$Acts" "undoable" "I") (List.mem_of_getElem? (i := 9) rfl)) (fun _ h9 => h9) dX8_about_132 (fun v40 e_v40 i_v40 => ?_)
    exact h_iret hQ hx hb hr hlocks rfl hK hI ⟨rfl, rfl, rfl⟩ dX8_about_135
  by_cases c41 : p1 = 8
  · refine lv_tableIn (tgt := 136) hx hb dX8_about_9 (by rw [c41]; decide) (by rw [c41]; decide) (by rw [c41] <;> rfl) (by decide) ?_
    have i42 : iv p1 8 8 := iv_eq1 c41 (iv_any p1) kc_8
    refine lv_aload_n hx hb dX8_about_136 rfl (lv_at hl 1 rfl) ?_
    refine h_getr hx hb hts iX8_about_X8 hown hK hI g_x (by decide) rfl rfl 4 (by decide) rfl 0 rfl (hts (.fieldLink RX8 34 "CatLeases" "acts" "LCatLeases$Acts;") (List.mem_of_getElem? (i := 1) rfl)) (fun _ h9 => h9) dX8_about_137 (fun a43 e_a43 g_a43 => ?_)
    have q44 : a1 = a43 := (e_a1).trans e_a43.symm
    subst q44
    refine h_geti (lo := (-2147483648)) (hi := 2147483647) hx hb hts iX8_about_X0 hown hK hI g_a1 (by decide) rfl rfl 1 (by decide) rfl rfl (hts (.fieldLink RX8 349 "CatLeases$Acts" "redoable" "I") (List.mem_of_getElem? (i := 10) rfl)) (fun _ h9 => h9) dX8_about_140 (fun v45 e_v45 i_v45 => ?_)
    exact h_iret hQ hx hb hr hlocks rfl hK hI ⟨rfl, rfl, rfl⟩ dX8_about_143
  by_cases c46 : p1 = 9
  · refine lv_tableIn (tgt := 144) hx hb dX8_about_9 (by rw [c46]; decide) (by rw [c46]; decide) (by rw [c46] <;> rfl) (by decide) ?_
    have i47 : iv p1 9 9 := iv_eq1 c46 (iv_any p1) kc_9
    refine lv_aload_n hx hb dX8_about_144 rfl (lv_at hl 1 rfl) ?_
    refine h_getr hx hb hts iX8_about_X8 hown hK hI g_x (by decide) rfl rfl 12 (by decide) rfl 6 rfl (hts (.fieldLink RX8 76 "CatLeases" "sightings" "LCatLeases$Sightings;") (List.mem_of_getElem? (i := 11) rfl)) (fun _ h9 => h9) dX8_about_145 (fun a48 e_a48 g_a48 => ?_)
    refine h_geti (lo := 0) (hi := 30) hx hb hts iX8_about_X6 hown hK hI g_a48 (by decide) rfl rfl 0 (by decide) rfl rfl (hts (.fieldLink RX8 352 "CatLeases$Sightings" "count" "I") (List.mem_of_getElem? (i := 12) rfl)) (fun _ h9 => h9) dX8_about_148 (fun v49 e_v49 i_v49 => ?_)
    exact h_iret hQ hx hb hr hlocks rfl hK hI ⟨rfl, rfl, rfl⟩ dX8_about_151
  by_cases c50 : p1 = 10
  · refine lv_tableIn (tgt := 152) hx hb dX8_about_9 (by rw [c50]; decide) (by rw [c50]; decide) (by rw [c50] <;> rfl) (by decide) ?_
    have i51 : iv p1 10 10 := iv_eq1 c50 (iv_any p1) kc_10
    refine lv_aload_n hx hb dX8_about_152 rfl (lv_at hl 1 rfl) ?_
    refine h_geti (lo := (-2147483648)) (hi := 2147483647) hx hb hts iX8_about_X8 hown hK hI g_x (by decide) rfl rfl 13 (by decide) rfl rfl (hts (.fieldLink RX8 80 "CatLeases" "time" "I") (List.mem_of_getElem? (i := 13) rfl)) (fun _ h9 => h9) dX8_about_153 (fun v52 e_v52 i_v52 => ?_)
    exact h_iret hQ hx hb hr hlocks rfl hK hI ⟨rfl, rfl, rfl⟩ dX8_about_156
  by_cases c53 : p1 = 11
  · refine lv_tableIn (tgt := 157) hx hb dX8_about_9 (by rw [c53]; decide) (by rw [c53]; decide) (by rw [c53] <;> rfl) (by decide) ?_
    have i54 : iv p1 11 11 := iv_eq1 c53 (iv_any p1) kc_11
    refine lv_aload_n hx hb dX8_about_157 rfl (lv_at hl 1 rfl) ?_
    refine h_geti (lo := 0) (hi := 1600) hx hb hts iX8_about_X8 hown hK hI g_x (by decide) rfl rfl 1 (by decide) rfl rfl (hts (.fieldLink RX8 13 "CatLeases" "tapeLength" "I") (List.mem_of_getElem? (i := 14) rfl)) (fun _ h9 => h9) dX8_about_158 (fun v55 e_v55 i_v55 => ?_)
    exact h_iret hQ hx hb hr hlocks rfl hK hI ⟨rfl, rfl, rfl⟩ dX8_about_161
  by_cases c56 : p1 = 12
  · refine lv_tableIn (tgt := 162) hx hb dX8_about_9 (by rw [c56]; decide) (by rw [c56]; decide) (by rw [c56] <;> rfl) (by decide) ?_
    have i57 : iv p1 12 12 := iv_eq1 c56 (iv_any p1) kc_12
    refine lv_aload_n hx hb dX8_about_162 rfl (lv_at hl 1 rfl) ?_
    refine h_getr hx hb hts iX8_about_X8 hown hK hI g_x (by decide) rfl rfl 3 (by decide) rfl 4 rfl (hts (.fieldLink RX8 27 "CatLeases" "mews" "LCatLeases$Mews;") (List.mem_of_getElem? (i := 2) rfl)) (fun _ h9 => h9) dX8_about_163 (fun a58 e_a58 g_a58 => ?_)
    refine h_geti (lo := (-2147483648)) (hi := 2147483647) hx hb hts iX8_about_X4 hown hK hI g_a58 (by decide) rfl rfl 4 (by decide) rfl rfl (hts (.fieldLink RX8 354 "CatLeases$Mews" "units" "I") (List.mem_of_getElem? (i := 15) rfl)) (fun _ h9 => h9) dX8_about_166 (fun v59 e_v59 i_v59 => ?_)
    exact h_iret hQ hx hb hr hlocks rfl hK hI ⟨rfl, rfl, rfl⟩ dX8_about_169
  by_cases c60 : p1 = 13
  · refine lv_tableIn (tgt := 170) hx hb dX8_about_9 (by rw [c60]; decide) (by rw [c60]; decide) (by rw [c60] <;> rfl) (by decide) ?_
    have i61 : iv p1 13 13 := iv_eq1 c60 (iv_any p1) kc_13
    refine lv_aload_n hx hb dX8_about_170 rfl (lv_at hl 1 rfl) ?_
    refine h_geti (lo := 0) (hi := 7) hx hb hts iX8_about_X8 hown hK hI g_x (by decide) rfl rfl 11 (by decide) rfl rfl (hts (.fieldLink RX8 70 "CatLeases" "lyingCount" "I") (List.mem_of_getElem? (i := 16) rfl)) (fun _ h9 => h9) dX8_about_171 (fun v62 e_v62 i_v62 => ?_)
    exact h_iret hQ hx hb hr hlocks rfl hK hI ⟨rfl, rfl, rfl⟩ dX8_about_174
  refine lv_tableOut (tgt := 175) hx hb dX8_about_9 (by have k0 : (0 : Int32).toInt = 0 := (by decide); have zc7 : ¬ p1.toInt = 0 := fun h9 => c7 (Int32.toInt_inj.mp (h9.trans k0.symm)); have k1 : (1 : Int32).toInt = 1 := (by decide); have zc11 : ¬ p1.toInt = 1 := fun h9 => c11 (Int32.toInt_inj.mp (h9.trans k1.symm)); have k2 : (2 : Int32).toInt = 2 := (by decide); have zc15 : ¬ p1.toInt = 2 := fun h9 => c15 (Int32.toInt_inj.mp (h9.trans k2.symm)); have k3 : (3 : Int32).toInt = 3 := (by decide); have zc19 : ¬ p1.toInt = 3 := fun h9 => c19 (Int32.toInt_inj.mp (h9.trans k3.symm)); have k4 : (4 : Int32).toInt = 4 := (by decide); have zc22 : ¬ p1.toInt = 4 := fun h9 => c22 (Int32.toInt_inj.mp (h9.trans k4.symm)); have k5 : (5 : Int32).toInt = 5 := (by decide); have zc30 : ¬ p1.toInt = 5 := fun h9 => c30 (Int32.toInt_inj.mp (h9.trans k5.symm)); have k6 : (6 : Int32).toInt = 6 := (by decide); have zc33 : ¬ p1.toInt = 6 := fun h9 => c33 (Int32.toInt_inj.mp (h9.trans k6.symm)); have k7 : (7 : Int32).toInt = 7 := (by decide); have zc36 : ¬ p1.toInt = 7 := fun h9 => c36 (Int32.toInt_inj.mp (h9.trans k7.symm)); have k8 : (8 : Int32).toInt = 8 := (by decide); have zc41 : ¬ p1.toInt = 8 := fun h9 => c41 (Int32.toInt_inj.mp (h9.trans k8.symm)); have k9 : (9 : Int32).toInt = 9 := (by decide); have zc46 : ¬ p1.toInt = 9 := fun h9 => c46 (Int32.toInt_inj.mp (h9.trans k9.symm)); have k10 : (10 : Int32).toInt = 10 := (by decide); have zc50 : ¬ p1.toInt = 10 := fun h9 => c50 (Int32.toInt_inj.mp (h9.trans k10.symm)); have k11 : (11 : Int32).toInt = 11 := (by decide); have zc53 : ¬ p1.toInt = 11 := fun h9 => c53 (Int32.toInt_inj.mp (h9.trans k11.symm)); have k12 : (12 : Int32).toInt = 12 := (by decide); have zc56 : ¬ p1.toInt = 12 := fun h9 => c56 (Int32.toInt_inj.mp (h9.trans k12.symm)); have k13 : (13 : Int32).toInt = 13 := (by decide); have zc60 : ¬ p1.toInt = 13 := fun h9 => c60 (Int32.toInt_inj.mp (h9.trans k13.symm)); have h8 := (iv_any p1); simp only [iv] at h8; omega) (by decide) ?_
  refine lv_iconst (v := (-1)) hx hb dX8_about_175 (by decide) ?_
  exact h_iret hQ hx hb hr hlocks rfl hK hI ⟨rfl, rfl, rfl⟩ dX8_about_176
abbrev e_h_later_X8 : List (Nat × Nat) := [(8, 13)]
set_option maxHeartbeats 4000000 in
set_option maxRecDepth 100000 in
theorem h_later_X8 (l : Launch) (D : va_G) (g : Nat → ClassId) (σ : Nat → Option Nat) (Z : State → Heap → Prop) (hZ0 : hZ σ Z) (M : hM) (N : hN) (R : hR) (x : Nat) (g_x : σ x = some 8) (p1 : Int32) : Met l yX8_later wsX8_later ({ frames := 0, cells := 0, slots := 0, locals := 0 }) (va_Pc [.ref x, .int p1] (hPre D g σ Z M N R)) (hQi D g σ e_h_later_X8 M (fun (r : Int32) (M1 : hM) (N1 : hN) (R1 : hR) => N = N1 ∧ R = R1)) 0 0 (hA σ) := by
  refine h_head (cc := cX8_later) (maxL := 2) (ret := (some .int)) (by decide) rfl (Nat.le_of_ble_eq_true rfl) e_h_later_X8 ?_
  intro p e s m below meth c ls Q ar hQ hx hb hr hlocks hml hown hts hK hE H locs hI hl
  have hown : s.vm.findClass RX8 = some m.cls := hown
  have hl : lv_has ls 2 [(0, .ref x), (1, .int p1)] := hl
  refine lv_iload_n hx hb dX8_later_0 rfl (lv_at hl 1 rfl) ?_
  refine lv_if_lt (tgt := 23) hx hb dX8_later_1 (by decide) (fun c1 => ?_) (fun c1 => ?_)
  · have i2 : iv p1 (-2147483648) (-1) := iv_lt1 c1 (iv_any p1) kc_0 (by decide)
    refine lv_iconst (v := (-1)) hx hb dX8_later_23 (by decide) ?_
    exact h_iret hQ hx hb hr hlocks rfl hK hI ⟨rfl, rfl⟩ dX8_later_24
  · have i3 : iv p1 0 2147483647 := iv_nlt1 c1 (iv_any p1) kc_0 (by decide)
    refine lv_iload_n hx hb dX8_later_4 rfl (lv_at hl 1 rfl) ?_
    refine lv_sipush (v := 1000) hx hb dX8_later_5 (by decide) ?_
    refine lv_icmp_gt (tgt := 23) hx hb dX8_later_8 (by decide) (fun c4 => ?_) (fun c4 => ?_)
    · have i5 : iv p1 1001 2147483647 := iv_lt2 c4 kc_1000 i3 (by decide)
      refine lv_iconst (v := (-1)) hx hb dX8_later_23 (by decide) ?_
      exact h_iret hQ hx hb hr hlocks rfl hK hI ⟨rfl, rfl⟩ dX8_later_24
    · have i6 : iv p1 0 1000 := iv_nlt2 c4 kc_1000 i3 (by decide)
      refine lv_aload_n hx hb dX8_later_11 rfl (lv_at hl 0 rfl) ?_
      refine h_geti (lo := (-2147483648)) (hi := 2147483647) hx hb hts iX8_later_X8 hown hK hI g_x (by decide) rfl rfl 13 (by decide) rfl rfl (hts (.fieldLink RX8 80 "CatLeases" "time" "I") (List.mem_of_getElem? (i := 1) rfl)) (fun _ h9 => h9) dX8_later_12 (fun v7 e_v7 i_v7 => ?_)
      refine lv_iload_n hx hb dX8_later_15 rfl (lv_at hl 1 rfl) ?_
      refine lv_iadd hx hb dX8_later_16 ?_
      refine h_nm (lo := (-2147483648)) (hi := 2147483647) (iv_any _) (fun v8 e_v8 i_v8 => ?_)
      refine lv_ldcw (v := 100000) hx hb hown (hts (.constant RX8 325 (100000)) (List.mem_of_getElem? (i := 2) rfl)) dX8_later_17 ?_
      refine lv_icmp_le (tgt := 25) hx hb dX8_later_20 (by decide) (fun c9 => ?_) (fun c9 => ?_)
      · have i10 : iv v8 (-2147483648) 100000 := iv_le1 c9 i_v8 kc_100000 (by decide)
        refine lv_aload_n hx hb dX8_later_25 rfl (lv_at hl 0 rfl) ?_
        refine lv_dup hx hb dX8_later_26 rfl ?_
        refine h_geti (lo := (-2147483648)) (hi := 2147483647) hx hb hts iX8_later_X8 hown hK hI g_x (by decide) rfl rfl 13 (by decide) rfl rfl (hts (.fieldLink RX8 80 "CatLeases" "time" "I") (List.mem_of_getElem? (i := 1) rfl)) (fun _ h9 => h9) dX8_later_27 (fun v11 e_v11 i_v11 => ?_)
        have q12 : v7 = v11 := (e_v7).trans e_v11.symm
        subst q12
        refine lv_iload_n hx hb dX8_later_30 rfl (lv_at hl 1 rfl) ?_
        refine lv_iadd hx hb dX8_later_31 ?_
        refine h_nm (lo := (-2147483648)) (hi := 2147483647) (iv_any _) (fun v13 e_v13 i_v13 => ?_)
        refine h_puti hx hb hts iX8_later_X8 tyX8 tyX8_ok nmX8 hown hK hI g_x (by decide) rfl rfl 13 (by decide) rfl (hts (.fieldLink RX8 80 "CatLeases" "time" "I") (List.mem_of_getElem? (i := 1) rfl)) (fun _ h9 => h9) rfl .int (by decide +kernel) rfl rfl i_v13 rfl dX8_later_32 (fun M14 H locs e_M14 hI => ?_)
        refine lv_aload_n hx hb dX8_later_35 rfl (lv_at hl 0 rfl) ?_
        refine h_geti (lo := (-2147483648)) (hi := 2147483647) hx hb hts iX8_later_X8 hown hK hI g_x (by decide) rfl rfl 13 (by decide) rfl rfl (hts (.fieldLink RX8 80 "CatLeases" "time" "I") (List.mem_of_getElem? (i := 1) rfl)) (fun _ h9 => h9) dX8_later_36 (fun v15 e_v15 i_v15 => ?_)
        have q16 : v13 = v15 := ((u2_wr e_M14)).trans e_v15.symm
        subst q16
        exact h_iret hQ hx hb hr hlocks rfl hK hI ⟨rfl, rfl⟩ dX8_later_39
      · have i17 : iv v8 100001 2147483647 := iv_nle1 c9 i_v8 kc_100000 (by decide)
        refine lv_iconst (v := (-1)) hx hb dX8_later_23 (by decide) ?_
        exact h_iret hQ hx hb hr hlocks rfl hK hI ⟨rfl, rfl⟩ dX8_later_24
