abbrev e_h_keepNow_X9 : List (Nat × Nat) := [(152, 999)]
set_option maxHeartbeats 4000000 in
set_option maxRecDepth 100000 in
theorem h_keepNow_X9 (l : Launch) (D : va_G) (g : Nat → ClassId) (σ : Nat → Option Nat) (Z : State → Heap → Prop) (hZ0 : hZ σ Z) (M : hM) (N : hN) (R : hR) (y : Nat) (g_y : σ y = some 9) : Met l yX9_keepNow wsX9_keepNow ({ frames := 0, cells := 0, slots := 0, locals := 0 }) (va_Pc [.ref y] (hPre D g σ Z M N R)) (hQv D g σ e_h_keepNow_X9 M (fun (M1 : hM) (N1 : hN) (R1 : hR) => N = N1 ∧ R = R1 ∧ (CPI M M1 (R y 52) 0 (R y 45) 0 39))) 0 0 (hA σ) := by
  refine h_head (cc := cX9_keepNow) (maxL := 2) (ret := none) (by decide) rfl (Nat.le_of_ble_eq_true rfl) e_h_keepNow_X9 ?_
  intro p e s m below meth c ls Q ar hQ hx hb hr hlocks hml hown hts hK hE H locs hI hl
  have hown : s.vm.findClass RX9 = some m.cls := hown
  have hl : lv_has ls 2 [(0, .ref y)] := hl
  refine lv_iconst (v := 0) hx hb dX9_keepNow_0 (by decide) ?_
  have J2 : ∀ (n : Nat) (M_2 : hM) (v1_2 : Int32) (H : Heap) (locs : List Loc) (ls : Array Slot), kI D g σ e_h_keepNow_X9 M s.heap M_2 N R H locs → lv_has ls 2 [(0, .ref y), (1, .int v1_2)] → iv v1_2 0 39 → CPI M M_2 (R y 52) 0 (R y 45) 0 v1_2.toNatClampNeg → 40 ≤ v1_2.toInt + (n : Int) → W p l e (headSpec wsX9_keepNow ({ frames := 0, cells := 0, slots := 0, locals := 0 })).room s m ar below meth c H locs 0 0 Q (F0 m 2 ls []) := by
    intro n
    induction n with
    | zero => intro M_2 v1_2 H locs ls hI hl i_v1_2 hcp_2 hn; exfalso; have hz := i_v1_2; simp only [iv] at hz; omega
    | succ n ih2 =>
      intro M_2 v1_2 H locs ls hI hl i_v1_2 hcp_2 hn2
      refine lv_iload_n hx hb dX9_keepNow_2 rfl (lv_at hl 1 rfl) ?_
      refine lv_bipush (v := 39) hx hb dX9_keepNow_3 (by decide) ?_
      refine lv_icmp_ge (tgt := 26) hx hb dX9_keepNow_5 (by decide) (fun c1 => ?_) (fun c1 => ?_)
      · have i2 : iv v1_2 39 39 := iv_le2 c1 kc_39 i_v1_2 (by decide)
        exact h_vret hQ hx hb hr hlocks hK hI ⟨rfl, rfl, (cp_end hcp_2 i2)⟩ dX9_keepNow_26
      · have i3 : iv v1_2 0 38 := iv_nle2 c1 kc_39 i_v1_2 (by decide)
        refine lv_aload_n hx hb dX9_keepNow_8 rfl (lv_at hl 0 rfl) ?_
        refine h_getr hx hb hts iX9_keepNow_X9 hown hK hI g_y (by decide) rfl rfl 52 (by decide) rfl 152 rfl (hts (.fieldLink RX9 109 "CatLeasesModel" "kept" "[I") (List.mem_of_getElem? (i := 1) rfl)) (fun _ h9 => h9) dX9_keepNow_9 (fun a4 e_a4 g_a4 => ?_)
        refine lv_iload_n hx hb dX9_keepNow_12 rfl (lv_at hl 1 rfl) ?_
        refine lv_aload_n hx hb dX9_keepNow_13 rfl (lv_at hl 0 rfl) ?_
        refine h_getr hx hb hts iX9_keepNow_X9 hown hK hI g_y (by decide) rfl rfl 45 (by decide) rfl 145 rfl (hts (.fieldLink RX9 94 "CatLeasesModel" "all" "[I") (List.mem_of_getElem? (i := 2) rfl)) (fun _ h9 => h9) dX9_keepNow_14 (fun a5 e_a5 g_a5 => ?_)
        refine lv_iload_n hx hb dX9_keepNow_17 rfl (lv_at hl 1 rfl) ?_
        refine h_iald (j := v1_2.toNatClampNeg) (lo := (-2147483648)) (hi := 2147483647) hx hb hK hI g_a5 (by decide) rfl (iv_in (n := 39) i3 (by decide) (by decide)) rfl (iv_any _) dX9_keepNow_18 (fun v6 e_v6 i_v6 => ?_)
        refine h_iast (j := v1_2.toNatClampNeg) hx hb hK hI g_a4 (by decide) rfl (iv_in (n := 39) i3 (by decide) (by decide)) rfl (iv_cp (s := 145) (s1 := 152) hI.2.1 g_a5 (in_lt (iv_in (n := 39) i3 (by decide) (by decide))) e_v6 (by decide) (by decide) rfl) rfl dX9_keepNow_19 (fun M7 H locs e_M7 hI => ?_)
        obtain ⟨v8, e_v8⟩ : ∃ z : Int32, z = v1_2 + Int32.ofInt 1 := ⟨_, rfl⟩
        have i_v8 : iv v8 1 39 := by rw [e_v8]; exact iv_add i3 (ki_1) (by decide) (by decide) (by decide) (by decide)
        refine lv_iinc (v := v8) (lv' := [(1, .int v8), (0, .ref y)]) hx hb dX9_keepNow_20 hl (k := 1) rfl e_v8.symm (by decide) rfl (fun ls hl => ?_)
        refine lv_goto (tgt := 2) hx hb dX9_keepNow_23 (by decide) ?_
        exact ih2 M7 v8 H locs ls hI (lv_sub hl [1, 0] rfl) (iv_w (lo' := 0) (hi' := 39) i_v8 (by decide) (by decide)) (CPI_step (v := v6) (ix := v1_2.toNatClampNeg) (iy := v1_2.toNatClampNeg) hcp_2 (by rw [e_M7, e_a4]) (by rw [e_v6, e_a5]) (Nat.zero_add _).symm (Nat.zero_add _).symm (k_inc1 e_v8 i3 (by decide)) (fun q => so_ne (hI.2.1.r1 g_y 45 145 (by decide) rfl) (hI.2.1.r1 g_y 52 152 (by decide) rfl) (by decide) q.1)) (by have h9 := (h_inc e_v8 i3 ki_1 (by decide) (by decide)); omega)
  refine lv_istore_n (lv' := [(1, .int (0 : Int32)), (0, .ref y)]) hx hb dX9_keepNow_1 rfl hl (by decide) rfl (fun ls hl => ?_)
  exact J2 40 M (0 : Int32) H locs ls hI (lv_sub hl [1, 0] rfl) (iv_w (lo' := 0) (hi' := 39) kc_0 (by decide) (by decide)) CPI_0 (by have h9 := kc_0; simp only [iv] at h9; omega)
abbrev e_h_bringBack_X9 : List (Nat × Nat) := [(145, 999)]
set_option maxHeartbeats 4000000 in
set_option maxRecDepth 100000 in
theorem h_bringBack_X9 (l : Launch) (D : va_G) (g : Nat → ClassId) (σ : Nat → Option Nat) (Z : State → Heap → Prop) (hZ0 : hZ σ Z) (M : hM) (N : hN) (R : hR) (y : Nat) (g_y : σ y = some 9) : Met l yX9_bringBack wsX9_bringBack ({ frames := 0, cells := 0, slots := 0, locals := 0 }) (va_Pc [.ref y] (hPre D g σ Z M N R)) (hQv D g σ e_h_bringBack_X9 M (fun (M1 : hM) (N1 : hN) (R1 : hR) => N = N1 ∧ R = R1 ∧ (CPI M M1 (R y 45) 0 (R y 52) 0 39))) 0 0 (hA σ) := by
  refine h_head (cc := cX9_bringBack) (maxL := 2) (ret := none) (by decide) rfl (Nat.le_of_ble_eq_true rfl) e_h_bringBack_X9 ?_
  intro p e s m below meth c ls Q ar hQ hx hb hr hlocks hml hown hts hK hE H locs hI hl
  have hown : s.vm.findClass RX9 = some m.cls := hown
  have hl : lv_has ls 2 [(0, .ref y)] := hl
  refine lv_iconst (v := 0) hx hb dX9_bringBack_0 (by decide) ?_
  have J2 : ∀ (n : Nat) (M_2 : hM) (v1_2 : Int32) (H : Heap) (locs : List Loc) (ls : Array Slot), kI D g σ e_h_bringBack_X9 M s.heap M_2 N R H locs → lv_has ls 2 [(0, .ref y), (1, .int v1_2)] → iv v1_2 0 39 → CPI M M_2 (R y 45) 0 (R y 52) 0 v1_2.toNatClampNeg → 40 ≤ v1_2.toInt + (n : Int) → W p l e (headSpec wsX9_bringBack ({ frames := 0, cells := 0, slots := 0, locals := 0 })).room s m ar below meth c H locs 0 0 Q (F0 m 2 ls []) := by
    intro n
    induction n with
    | zero => intro M_2 v1_2 H locs ls hI hl i_v1_2 hcp_2 hn; exfalso; have hz := i_v1_2; simp only [iv] at hz; omega
    | succ n ih2 =>
      intro M_2 v1_2 H locs ls hI hl i_v1_2 hcp_2 hn2
      refine lv_iload_n hx hb dX9_bringBack_2 rfl (lv_at hl 1 rfl) ?_
      refine lv_bipush (v := 39) hx hb dX9_bringBack_3 (by decide) ?_
      refine lv_icmp_ge (tgt := 26) hx hb dX9_bringBack_5 (by decide) (fun c1 => ?_) (fun c1 => ?_)
      · have i2 : iv v1_2 39 39 := iv_le2 c1 kc_39 i_v1_2 (by decide)
        exact h_vret hQ hx hb hr hlocks hK hI ⟨rfl, rfl, (cp_end hcp_2 i2)⟩ dX9_bringBack_26
      · have i3 : iv v1_2 0 38 := iv_nle2 c1 kc_39 i_v1_2 (by decide)
        refine lv_aload_n hx hb dX9_bringBack_8 rfl (lv_at hl 0 rfl) ?_
        refine h_getr hx hb hts iX9_bringBack_X9 hown hK hI g_y (by decide) rfl rfl 45 (by decide) rfl 145 rfl (hts (.fieldLink RX9 94 "CatLeasesModel" "all" "[I") (List.mem_of_getElem? (i := 1) rfl)) (fun _ h9 => h9) dX9_bringBack_9 (fun a4 e_a4 g_a4 => ?_)
        refine lv_iload_n hx hb dX9_bringBack_12 rfl (lv_at hl 1 rfl) ?_
        refine lv_aload_n hx hb dX9_bringBack_13 rfl (lv_at hl 0 rfl) ?_
        refine h_getr hx hb hts iX9_bringBack_X9 hown hK hI g_y (by decide) rfl rfl 52 (by decide) rfl 152 rfl (hts (.fieldLink RX9 109 "CatLeasesModel" "kept" "[I") (List.mem_of_getElem? (i := 2) rfl)) (fun _ h9 => h9) dX9_bringBack_14 (fun a5 e_a5 g_a5 => ?_)
        refine lv_iload_n hx hb dX9_bringBack_17 rfl (lv_at hl 1 rfl) ?_
        refine h_iald (j := v1_2.toNatClampNeg) (lo := (-2147483648)) (hi := 2147483647) hx hb hK hI g_a5 (by decide) rfl (iv_in (n := 39) i3 (by decide) (by decide)) rfl (iv_any _) dX9_bringBack_18 (fun v6 e_v6 i_v6 => ?_)
        refine h_iast (j := v1_2.toNatClampNeg) hx hb hK hI g_a4 (by decide) rfl (iv_in (n := 39) i3 (by decide) (by decide)) rfl (iv_cp (s := 152) (s1 := 145) hI.2.1 g_a5 (in_lt (iv_in (n := 39) i3 (by decide) (by decide))) e_v6 (by decide) (by decide) rfl) rfl dX9_bringBack_19 (fun M7 H locs e_M7 hI => ?_)
        obtain ⟨v8, e_v8⟩ : ∃ z : Int32, z = v1_2 + Int32.ofInt 1 := ⟨_, rfl⟩
        have i_v8 : iv v8 1 39 := by rw [e_v8]; exact iv_add i3 (ki_1) (by decide) (by decide) (by decide) (by decide)
        refine lv_iinc (v := v8) (lv' := [(1, .int v8), (0, .ref y)]) hx hb dX9_bringBack_20 hl (k := 1) rfl e_v8.symm (by decide) rfl (fun ls hl => ?_)
        refine lv_goto (tgt := 2) hx hb dX9_bringBack_23 (by decide) ?_
        exact ih2 M7 v8 H locs ls hI (lv_sub hl [1, 0] rfl) (iv_w (lo' := 0) (hi' := 39) i_v8 (by decide) (by decide)) (CPI_step (v := v6) (ix := v1_2.toNatClampNeg) (iy := v1_2.toNatClampNeg) hcp_2 (by rw [e_M7, e_a4]) (by rw [e_v6, e_a5]) (Nat.zero_add _).symm (Nat.zero_add _).symm (k_inc1 e_v8 i3 (by decide)) (fun q => so_ne (hI.2.1.r1 g_y 52 152 (by decide) rfl) (hI.2.1.r1 g_y 45 145 (by decide) rfl) (by decide) q.1)) (by have h9 := (h_inc e_v8 i3 ki_1 (by decide) (by decide)); omega)
  refine lv_istore_n (lv' := [(1, .int (0 : Int32)), (0, .ref y)]) hx hb dX9_bringBack_1 rfl hl (by decide) rfl (fun ls hl => ?_)
  exact J2 40 M (0 : Int32) H locs ls hI (lv_sub hl [1, 0] rfl) (iv_w (lo' := 0) (hi' := 39) kc_0 (by decide) (by decide)) CPI_0 (by have h9 := kc_0; simp only [iv] at h9; omega)
abbrev e_h_outBehind_X9 : List (Nat × Nat) := [(9, 41), (9, 42), (9, 43), (9, 44), (134, 999), (145, 999)]
set_option maxHeartbeats 4000000 in
set_option maxRecDepth 100000 in
theorem h_outBehind_X9 (l : Launch) (D : va_G) (g : Nat → ClassId) (σ : Nat → Option Nat) (Z : State → Heap → Prop) (hZ0 : hZ σ Z) (M : hM) (N : hN) (R : hR) (y : Nat) (g_y : σ y = some 9) (p1 : Int32) (h_p1 : iv p1 0 6) (m0_KK : KK M R y) (m0_CW : CW M R y) : Met l yX9_outBehind wsX9_outBehind ({ frames := 7, cells := 0, slots := 0, locals := 156 }) (va_Pc [.ref y, .int p1] (hPre D g σ Z M N R)) (hQi D g σ e_h_outBehind_X9 M (fun (r : Int32) (M1 : hM) (N1 : hN) (R1 : hR) => N = N1 ∧ R = R1 ∧ iv r (-1) 99 ∧ (KV M1 R y))) 0 0 (hA σ) := by
  refine h_head (cc := cX9_outBehind) (maxL := 4) (ret := (some .int)) (by decide) rfl (Nat.le_of_ble_eq_true rfl) e_h_outBehind_X9 ?_
  intro p e s m below meth c ls Q ar hQ hx hb hr hlocks hml hown hts hK hE H locs hI hl
  have hown : s.vm.findClass RX9 = some m.cls := hown
  have hl : lv_has ls 4 [(0, .ref y), (1, .int p1)] := hl
  refine lv_iconst (v := 0) hx hb dX9_outBehind_0 (by decide) ?_
  have J2 : ∀ (n : Nat) (M_2 : hM) (v2_2 : Int32) (H : Heap) (locs : List Loc) (ls : Array Slot), kI D g σ e_h_outBehind_X9 M s.heap M_2 N R H locs → lv_has ls 4 [(0, .ref y), (1, .int p1), (2, .int v2_2)] → KK M_2 R y → CW M_2 R y → iv v2_2 0 100 → 101 ≤ v2_2.toInt + (n : Int) → W p l e (headSpec wsX9_outBehind ({ frames := 7, cells := 0, slots := 0, locals := 156 })).room s m ar below meth c H locs 0 0 Q (F0 m 2 ls []) := by
    intro n
    induction n with
    | zero => intro M_2 v2_2 H locs ls hI hl m_KK_2 m_CW_2 i_v2_2 hn; exfalso; have hz := i_v2_2; simp only [iv] at hz; omega
    | succ n ih2 =>
      intro M_2 v2_2 H locs ls hI hl m_KK_2 m_CW_2 i_v2_2 hn2
      refine lv_iload_n hx hb dX9_outBehind_2 rfl (lv_at hl 2 rfl) ?_
      refine lv_bipush (v := 99) hx hb dX9_outBehind_3 (by decide) ?_
      have J27 : ∀ (H : Heap) (locs : List Loc) (ls : Array Slot), kI D g σ e_h_outBehind_X9 M s.heap M_2 N R H locs → lv_has ls 4 [(0, .ref y), (2, .int v2_2)] → W p l e (headSpec wsX9_outBehind ({ frames := 7, cells := 0, slots := 0, locals := 156 })).room s m ar below meth c H locs 0 0 Q (F0 m 27 ls []) := by
        intro H locs ls hI hl
        refine lv_aload_n hx hb dX9_outBehind_27 rfl (lv_at hl 0 rfl) ?_
        refine h_gov hI (by decide) (va_runV (As := []) (rest := []) ⟨hx, hb, hml, hown, hts⟩ (h_bringBack_X9 l D g σ Z hZ0 M_2 N R y g_y) (cwV 0 hts gX9_outBehind_X9_bringBack rfl rfl rfl (by decide +kernel) ⟨Nat.le_of_ble_eq_true rfl, Nat.le_of_ble_eq_true rfl⟩) (h_preV hZ0 hK hE hI g_y (by decide) rfl) rfl rfl hl.1 rfl (lv_room (Nat.le_of_ble_eq_true rfl)) dX9_outBehind_28 ⟨Nat.le_of_ble_eq_true rfl, Nat.le_of_ble_eq_true rfl⟩) (fun M2 N3 R4 H locs q5 z_M2 hI => ?_)
        obtain ⟨rfl, rfl, z6⟩ := q5
        have m7 : KV M2 R y := KV_of z6 hI.2.1 g_y m_KK_2
        refine lv_iload_n hx hb dX9_outBehind_31 rfl (lv_at hl 1 rfl) ?_
        refine lv_bipush (v := 99) hx hb dX9_outBehind_32 (by decide) ?_
        refine lv_icmp_gt (tgt := 41) hx hb dX9_outBehind_34 (by decide) (fun c8 => ?_) (fun c8 => ?_)
        · have i9 : iv v2_2 100 100 := iv_lt2 c8 kc_99 i_v2_2 (by decide)
          refine lv_iconst (v := (-1)) hx hb dX9_outBehind_41 (by decide) ?_
          exact h_iret hQ hx hb hr hlocks rfl hK hI ⟨rfl, rfl, (iv_w (lo' := (-1)) (hi' := 99) kc_m1 (by decide) (by decide)), m7⟩ dX9_outBehind_42
        · have i10 : iv v2_2 0 99 := iv_nlt2 c8 kc_99 i_v2_2 (by decide)
          refine lv_iload_n hx hb dX9_outBehind_37 rfl (lv_at hl 1 rfl) ?_
          refine lv_goto (tgt := 42) hx hb dX9_outBehind_38 (by decide) ?_
          exact h_iret hQ hx hb hr hlocks rfl hK hI ⟨rfl, rfl, (iv_w (lo' := (-1)) (hi' := 99) i10 (by decide) (by decide)), m7⟩ dX9_outBehind_42
      refine lv_icmp_gt (tgt := 27) hx hb dX9_outBehind_5 (by decide) (fun c11 => ?_) (fun c11 => ?_)
      · have i12 : iv v2_2 100 100 := iv_lt2 c11 kc_99 i_v2_2 (by decide)
        exact J27 H locs ls hI (lv_sub hl [0, 2] rfl)
      · have i13 : iv v2_2 0 99 := iv_nlt2 c11 kc_99 i_v2_2 (by decide)
        refine lv_aload_n hx hb dX9_outBehind_8 rfl (lv_at hl 0 rfl) ?_
        refine lv_iload_n hx hb dX9_outBehind_9 rfl (lv_at hl 1 rfl) ?_
        refine h_goi hI (by decide) (va_runV (As := [.int p1]) (rest := []) ⟨hx, hb, hml, hown, hts⟩ (h_isOut_X9 l D g σ Z hZ0 M_2 N R y g_y p1 h_p1) (cwV 1 hts gX9_outBehind_X9_isOut rfl rfl rfl (by decide +kernel) ⟨Nat.le_of_ble_eq_true rfl, Nat.le_of_ble_eq_true rfl⟩) (h_preV hZ0 hK hE hI g_y (by decide) rfl) rfl rfl hl.1 rfl (lv_room (Nat.le_of_ble_eq_true rfl)) dX9_outBehind_10 ⟨Nat.le_of_ble_eq_true rfl, Nat.le_of_ble_eq_true rfl⟩) (fun r14 M15 N16 R17 H locs q18 z_M15 hI => ?_)
        obtain ⟨rfl, rfl, rfl, i_r14, z19⟩ := q18
        refine lv_if_ne (tgt := 27) hx hb dX9_outBehind_13 (by decide) (fun c20 => ?_) (fun c20 => ?_)
        · have i21 : iv r14 1 1 := iv_neL c20 i_r14 (by decide) (by decide)
          exact J27 H locs ls hI (lv_sub hl [0, 2] rfl)
        · have i22 := z19 c20
          have i23 : iv r14 0 0 := iv_eq1 c20 i_r14 kc_0
          refine lv_aload_n hx hb dX9_outBehind_16 rfl (lv_at hl 0 rfl) ?_
          refine h_goi hI (by decide) (va_runV (As := []) (rest := []) ⟨hx, hb, hml, hown, hts⟩ (h_goQuarter_X9 l D g σ Z hZ0 M_2 N R y g_y m_CW_2) (cwV 0 hts gX9_outBehind_X9_goQuarter rfl rfl rfl (by decide +kernel) ⟨Nat.le_of_ble_eq_true rfl, Nat.le_of_ble_eq_true rfl⟩) (h_preV hZ0 hK hE hI g_y (by decide) rfl) rfl rfl hl.1 rfl (lv_room (Nat.le_of_ble_eq_true rfl)) dX9_outBehind_17 ⟨Nat.le_of_ble_eq_true rfl, Nat.le_of_ble_eq_true rfl⟩) (fun r24 M25 N26 R27 H locs q28 z_M25 hI => ?_)
          obtain ⟨rfl, rfl, i_r24, m29⟩ := q28
          refine lv_istore_n (lv' := [(3, .int r24), (0, .ref y), (1, .int p1), (2, .int v2_2)]) hx hb dX9_outBehind_20 rfl hl (by decide) rfl (fun ls hl => ?_)
          obtain ⟨v30, e_v30⟩ : ∃ z : Int32, z = v2_2 + Int32.ofInt 1 := ⟨_, rfl⟩
          have i_v30 : iv v30 1 100 := by rw [e_v30]; exact iv_add i13 (ki_1) (by decide) (by decide) (by decide) (by decide)
          refine lv_iinc (v := v30) (lv' := [(2, .int v30), (3, .int r24), (0, .ref y), (1, .int p1)]) hx hb dX9_outBehind_21 hl (k := 3) rfl e_v30.symm (by decide) rfl (fun ls hl => ?_)
          refine lv_goto (tgt := 2) hx hb dX9_outBehind_24 (by decide) ?_
          have m31 : KK M25 R y := (KK_ag hI.2.1 g_y m_KK_2 (hAd.ag z_M25 (by decide)))
          have m32 : CW M25 R y := (CW_ag hI.2.1 g_y m_CW_2 (hAd.ag z_M25 (by decide)))
          exact ih2 M25 v30 H locs ls hI (lv_sub hl [2, 3, 0] rfl) m31 m32 (iv_w (lo' := 0) (hi' := 100) i_v30 (by decide) (by decide)) (by have h9 := (h_inc e_v30 i13 ki_1 (by decide) (by decide)); omega)
  refine lv_istore_n (lv' := [(2, .int (0 : Int32)), (0, .ref y), (1, .int p1)]) hx hb dX9_outBehind_1 rfl hl (by decide) rfl (fun ls hl => ?_)
  exact J2 101 M (0 : Int32) H locs ls hI (lv_sub hl [1, 2, 0] rfl) m0_KK m0_CW (iv_w (lo' := 0) (hi' := 100) kc_0 (by decide) (by decide)) (by have h9 := kc_0; simp only [iv] at h9; omega)
abbrev e_h_outAfter_X9 : List (Nat × Nat) := [(9, 41), (9, 42), (9, 43), (9, 44), (134, 999), (145, 999)]
set_option maxHeartbeats 4000000 in
set_option maxRecDepth 100000 in
theorem h_outAfter_X9 (l : Launch) (D : va_G) (g : Nat → ClassId) (σ : Nat → Option Nat) (Z : State → Heap → Prop) (hZ0 : hZ σ Z) (M : hM) (N : hN) (R : hR) (y : Nat) (g_y : σ y = some 9) (p1 : Int32) (h_p1 : iv p1 0 60) (m0_KK : KK M R y) (m0_CW : CW M R y) : Met l yX9_outAfter wsX9_outAfter ({ frames := 7, cells := 0, slots := 0, locals := 156 }) (va_Pc [.ref y, .int p1] (hPre D g σ Z M N R)) (hQi D g σ e_h_outAfter_X9 M (fun (r : Int32) (M1 : hM) (N1 : hN) (R1 : hR) => N = N1 ∧ R = R1 ∧ (KV M1 R y))) 0 0 (hA σ) := by
  refine h_head (cc := cX9_outAfter) (maxL := 4) (ret := (some .int)) (by decide) rfl (Nat.le_of_ble_eq_true rfl) e_h_outAfter_X9 ?_
  intro p e s m below meth c ls Q ar hQ hx hb hr hlocks hml hown hts hK hE H locs hI hl
  have hown : s.vm.findClass RX9 = some m.cls := hown
  have hl : lv_has ls 4 [(0, .ref y), (1, .int p1)] := hl
  refine lv_iconst (v := 0) hx hb dX9_outAfter_0 (by decide) ?_
  have J2 : ∀ (n : Nat) (M_2 : hM) (v2_2 : Int32) (H : Heap) (locs : List Loc) (ls : Array Slot), kI D g σ e_h_outAfter_X9 M s.heap M_2 N R H locs → lv_has ls 4 [(0, .ref y), (1, .int p1), (2, .int v2_2)] → KK M_2 R y → CW M_2 R y → iv v2_2 0 60 → 61 ≤ v2_2.toInt + (n : Int) → W p l e (headSpec wsX9_outAfter ({ frames := 7, cells := 0, slots := 0, locals := 156 })).room s m ar below meth c H locs 0 0 Q (F0 m 2 ls []) := by
    intro n
    induction n with
    | zero => intro M_2 v2_2 H locs ls hI hl m_KK_2 m_CW_2 i_v2_2 hn; exfalso; have hz := i_v2_2; simp only [iv] at hz; omega
    | succ n ih2 =>
      intro M_2 v2_2 H locs ls hI hl m_KK_2 m_CW_2 i_v2_2 hn2
      refine lv_iload_n hx hb dX9_outAfter_2 rfl (lv_at hl 2 rfl) ?_
      refine lv_iload_n hx hb dX9_outAfter_3 rfl (lv_at hl 1 rfl) ?_
      refine lv_icmp_ge (tgt := 18) hx hb dX9_outAfter_4 (by decide) (fun c1 => ?_) (fun c1 => ?_)
      · refine lv_iconst (v := 0) hx hb dX9_outAfter_18 (by decide) ?_
        refine lv_istore_n (lv' := [(2, .int (0 : Int32)), (0, .ref y), (1, .int p1)]) hx hb dX9_outAfter_19 rfl hl (by decide) rfl (fun ls hl => ?_)
        refine lv_iconst (v := 0) hx hb dX9_outAfter_20 (by decide) ?_
        have J22 : ∀ (n : Nat) (v2_22 : Int32) (v3_22 : Int32) (H : Heap) (locs : List Loc) (ls : Array Slot), kI D g σ e_h_outAfter_X9 M s.heap M_2 N R H locs → lv_has ls 4 [(0, .ref y), (2, .int v2_22), (3, .int v3_22)] → iv v3_22 0 7 → 8 ≤ v3_22.toInt + (n : Int) → W p l e (headSpec wsX9_outAfter ({ frames := 7, cells := 0, slots := 0, locals := 156 })).room s m ar below meth c H locs 0 0 Q (F0 m 22 ls []) := by
          intro n
          induction n with
          | zero => intro v2_22 v3_22 H locs ls hI hl i_v3_22 hn; exfalso; have hz := i_v3_22; simp only [iv] at hz; omega
          | succ n ih22 =>
            intro v2_22 v3_22 H locs ls hI hl i_v3_22 hn22
            refine lv_iload_n hx hb dX9_outAfter_22 rfl (lv_at hl 2 rfl) ?_
            refine lv_aload_n hx hb dX9_outAfter_23 rfl (lv_at hl 0 rfl) ?_
            refine h_goi hI (by decide) (va_runV (As := []) (rest := [.int v3_22]) ⟨hx, hb, hml, hown, hts⟩ (h_many_X9 l D g σ Z hZ0 M_2 N R y g_y) (cwV 0 hts gX9_outAfter_X9_many rfl rfl rfl (by decide +kernel) ⟨Nat.le_of_ble_eq_true rfl, Nat.le_of_ble_eq_true rfl⟩) (h_preV hZ0 hK hE hI g_y (by decide) rfl) rfl rfl hl.1 rfl (lv_room (Nat.le_of_ble_eq_true rfl)) dX9_outAfter_24 ⟨Nat.le_of_ble_eq_true rfl, Nat.le_of_ble_eq_true rfl⟩) (fun r2 M3 N4 R5 H locs q6 z_M3 hI => ?_)
            obtain ⟨rfl, rfl, rfl, i_r2, z7⟩ := q6
            refine lv_icmp_ge (tgt := 52) hx hb dX9_outAfter_27 (by decide) (fun c8 => ?_) (fun c8 => ?_)
            · refine lv_aload_n hx hb dX9_outAfter_52 rfl (lv_at hl 0 rfl) ?_
              refine h_gov hI (by decide) (va_runV (As := []) (rest := []) ⟨hx, hb, hml, hown, hts⟩ (h_bringBack_X9 l D g σ Z hZ0 M_2 N R y g_y) (cwV 0 hts gX9_outAfter_X9_bringBack rfl rfl rfl (by decide +kernel) ⟨Nat.le_of_ble_eq_true rfl, Nat.le_of_ble_eq_true rfl⟩) (h_preV hZ0 hK hE hI g_y (by decide) rfl) rfl rfl hl.1 rfl (lv_room (Nat.le_of_ble_eq_true rfl)) dX9_outAfter_53 ⟨Nat.le_of_ble_eq_true rfl, Nat.le_of_ble_eq_true rfl⟩) (fun M10 N11 R12 H locs q13 z_M10 hI => ?_)
              obtain ⟨rfl, rfl, z14⟩ := q13
              have m15 : KV M10 R y := KV_of z14 hI.2.1 g_y m_KK_2
              refine lv_iload_n hx hb dX9_outAfter_56 rfl (lv_at hl 1 rfl) ?_
              exact h_iret hQ hx hb hr hlocks rfl hK hI ⟨rfl, rfl, m15⟩ dX9_outAfter_57
            · have i16 : iv r2 1 7 := iv_nle1 c8 i_r2 i_v3_22 (by decide)
              have i17 : iv v3_22 0 6 := iv_nle2 c8 i_r2 i_v3_22 (by decide)
              refine lv_iload_n hx hb dX9_outAfter_30 rfl (lv_at hl 1 rfl) ?_
              refine lv_aload_n hx hb dX9_outAfter_31 rfl (lv_at hl 0 rfl) ?_
              refine lv_iload_n hx hb dX9_outAfter_32 rfl (lv_at hl 2 rfl) ?_
              refine h_goi hI (by decide) (va_runV (As := [.int v3_22]) (rest := [.int v2_22]) ⟨hx, hb, hml, hown, hts⟩ (h_isOut_X9 l D g σ Z hZ0 M_2 N R y g_y v3_22 i17) (cwV 1 hts gX9_outAfter_X9_isOut rfl rfl rfl (by decide +kernel) ⟨Nat.le_of_ble_eq_true rfl, Nat.le_of_ble_eq_true rfl⟩) (h_preV hZ0 hK hE hI g_y (by decide) rfl) rfl rfl hl.1 rfl (lv_room (Nat.le_of_ble_eq_true rfl)) dX9_outAfter_33 ⟨Nat.le_of_ble_eq_true rfl, Nat.le_of_ble_eq_true rfl⟩) (fun r18 M19 N20 R21 H locs q22 z_M19 hI => ?_)
              obtain ⟨rfl, rfl, rfl, i_r18, z23⟩ := q22
              have J44 : ∀ (t1_44 : Int32) (H : Heap) (locs : List Loc) (ls : Array Slot), kI D g σ e_h_outAfter_X9 M s.heap M_2 N R H locs → lv_has ls 4 [(0, .ref y), (3, .int v3_22)] → iv t1_44 0 1 → W p l e (headSpec wsX9_outAfter ({ frames := 7, cells := 0, slots := 0, locals := 156 })).room s m ar below meth c H locs 0 0 Q (F0 m 44 ls [.int t1_44, .int v2_22]) := by
                intro t1_44 H locs ls hI hl i_t1_44
                refine lv_iadd hx hb dX9_outAfter_44 ?_
                refine h_nm (lo := (-2147483648)) (hi := 2147483647) (iv_any _) (fun v24 e_v24 i_v24 => ?_)
                refine lv_istore_n (lv' := [(2, .int v24), (0, .ref y), (3, .int v3_22)]) hx hb dX9_outAfter_45 rfl hl (by decide) rfl (fun ls hl => ?_)
                obtain ⟨v25, e_v25⟩ : ∃ z : Int32, z = v3_22 + Int32.ofInt 1 := ⟨_, rfl⟩
                have i_v25 : iv v25 1 7 := by rw [e_v25]; exact iv_add i17 (ki_1) (by decide) (by decide) (by decide) (by decide)
                refine lv_iinc (v := v25) (lv' := [(3, .int v25), (2, .int v24), (0, .ref y)]) hx hb dX9_outAfter_46 hl (k := 2) rfl e_v25.symm (by decide) rfl (fun ls hl => ?_)
                refine lv_goto (tgt := 22) hx hb dX9_outAfter_49 (by decide) ?_
                exact ih22 v24 v25 H locs ls hI (lv_sub hl [2, 1, 0] rfl) (iv_w (lo' := 0) (hi' := 7) i_v25 (by decide) (by decide)) (by have h9 := (h_inc e_v25 i17 ki_1 (by decide) (by decide)); omega)
              refine lv_if_eq (tgt := 43) hx hb dX9_outAfter_36 (by decide) (fun c26 => ?_) (fun c26 => ?_)
              · have i27 := z23 c26
                have i28 : iv r18 0 0 := iv_eq1 c26 i_r18 kc_0
                refine lv_iconst (v := 0) hx hb dX9_outAfter_43 (by decide) ?_
                exact J44 (0 : Int32) H locs ls hI (lv_sub hl [0, 2] rfl) (iv_w (lo' := 0) (hi' := 1) kc_0 (by decide) (by decide))
              · have i29 : iv r18 1 1 := iv_neL c26 i_r18 (by decide) (by decide)
                refine lv_iconst (v := 1) hx hb dX9_outAfter_39 (by decide) ?_
                refine lv_goto (tgt := 44) hx hb dX9_outAfter_40 (by decide) ?_
                exact J44 (1 : Int32) H locs ls hI (lv_sub hl [0, 2] rfl) (iv_w (lo' := 0) (hi' := 1) kc_1 (by decide) (by decide))
        refine lv_istore_n (lv' := [(3, .int (0 : Int32)), (2, .int (0 : Int32)), (0, .ref y), (1, .int p1)]) hx hb dX9_outAfter_21 rfl hl (by decide) rfl (fun ls hl => ?_)
        exact J22 8 (0 : Int32) (0 : Int32) H locs ls hI (lv_sub hl [2, 1, 0] rfl) (iv_w (lo' := 0) (hi' := 7) kc_0 (by decide) (by decide)) (by have h9 := kc_0; simp only [iv] at h9; omega)
      · have i30 : iv p1 1 60 := iv_nle1 c1 h_p1 i_v2_2 (by decide)
        have i31 : iv v2_2 0 59 := iv_nle2 c1 h_p1 i_v2_2 (by decide)
        refine lv_aload_n hx hb dX9_outAfter_7 rfl (lv_at hl 0 rfl) ?_
        refine h_goi hI (by decide) (va_runV (As := []) (rest := []) ⟨hx, hb, hml, hown, hts⟩ (h_goQuarter_X9 l D g σ Z hZ0 M_2 N R y g_y m_CW_2) (cwV 0 hts gX9_outAfter_X9_goQuarter rfl rfl rfl (by decide +kernel) ⟨Nat.le_of_ble_eq_true rfl, Nat.le_of_ble_eq_true rfl⟩) (h_preV hZ0 hK hE hI g_y (by decide) rfl) rfl rfl hl.1 rfl (lv_room (Nat.le_of_ble_eq_true rfl)) dX9_outAfter_8 ⟨Nat.le_of_ble_eq_true rfl, Nat.le_of_ble_eq_true rfl⟩) (fun r32 M33 N34 R35 H locs q36 z_M33 hI => ?_)
        obtain ⟨rfl, rfl, i_r32, m37⟩ := q36
        refine lv_istore_n (lv' := [(3, .int r32), (0, .ref y), (1, .int p1), (2, .int v2_2)]) hx hb dX9_outAfter_11 rfl hl (by decide) rfl (fun ls hl => ?_)
        obtain ⟨v38, e_v38⟩ : ∃ z : Int32, z = v2_2 + Int32.ofInt 1 := ⟨_, rfl⟩
        have i_v38 : iv v38 1 60 := by rw [e_v38]; exact iv_add i31 (ki_1) (by decide) (by decide) (by decide) (by decide)
        refine lv_iinc (v := v38) (lv' := [(2, .int v38), (3, .int r32), (0, .ref y), (1, .int p1)]) hx hb dX9_outAfter_12 hl (k := 3) rfl e_v38.symm (by decide) rfl (fun ls hl => ?_)
        refine lv_goto (tgt := 2) hx hb dX9_outAfter_15 (by decide) ?_
        have m39 : KK M33 R y := (KK_ag hI.2.1 g_y m_KK_2 (hAd.ag z_M33 (by decide)))
        have m40 : CW M33 R y := (CW_ag hI.2.1 g_y m_CW_2 (hAd.ag z_M33 (by decide)))
        exact ih2 M33 v38 H locs ls hI (lv_sub hl [2, 3, 0] rfl) m39 m40 (iv_w (lo' := 0) (hi' := 60) i_v38 (by decide) (by decide)) (by have h9 := (h_inc e_v38 i31 ki_1 (by decide) (by decide)); omega)
  refine lv_istore_n (lv' := [(2, .int (0 : Int32)), (0, .ref y), (1, .int p1)]) hx hb dX9_outAfter_1 rfl hl (by decide) rfl (fun ls hl => ?_)
  exact J2 61 M (0 : Int32) H locs ls hI (lv_sub hl [1, 2, 0] rfl) m0_KK m0_CW (iv_w (lo' := 0) (hi' := 60) kc_0 (by decide) (by decide)) (by have h9 := kc_0; simp only [iv] at h9; omega)
abbrev e_h_lasts_X9 : List (Nat × Nat) := [(9, 41), (9, 42), (9, 43), (9, 44), (134, 999), (145, 999), (152, 999)]
set_option maxHeartbeats 4000000 in
set_option maxRecDepth 100000 in
theorem h_lasts_X9 (l : Launch) (D : va_G) (g : Nat → ClassId) (σ : Nat → Option Nat) (Z : State → Heap → Prop) (hZ0 : hZ σ Z) (M : hM) (N : hN) (R : hR) (y : Nat) (g_y : σ y = some 9) (p1 : Int32) (m0_KV : KV M R y) (m0_CW : CW M R y) : Met l yX9_lasts wsX9_lasts ({ frames := 8, cells := 0, slots := 0, locals := 179 }) (va_Pc [.ref y, .int p1] (hPre D g σ Z M N R)) (hQi D g σ e_h_lasts_X9 M (fun (r : Int32) (M1 : hM) (N1 : hN) (R1 : hR) => N = N1 ∧ R = R1 ∧ iv r (-1) 99 ∧ (KV M1 R y))) 0 0 (hA σ) := by
  refine h_head (cc := cX9_lasts) (maxL := 2) (ret := (some .int)) (by decide) rfl (Nat.le_of_ble_eq_true rfl) e_h_lasts_X9 ?_
  intro p e s m below meth c ls Q ar hQ hx hb hr hlocks hml hown hts hK hE H locs hI hl
  have hown : s.vm.findClass RX9 = some m.cls := hown
  have hl : lv_has ls 2 [(0, .ref y), (1, .int p1)] := hl
  refine lv_aload_n hx hb dX9_lasts_0 rfl (lv_at hl 0 rfl) ?_
  refine lv_iload_n hx hb dX9_lasts_1 rfl (lv_at hl 1 rfl) ?_
  refine h_goi hI (by decide) (va_runV (As := [.int p1]) (rest := []) ⟨hx, hb, hml, hown, hts⟩ (h_isTenant_X9 l D g σ Z hZ0 M N R y g_y p1) (cwV 1 hts gX9_lasts_X9_isTenant rfl rfl rfl (by decide +kernel) ⟨Nat.le_of_ble_eq_true rfl, Nat.le_of_ble_eq_true rfl⟩) (h_preV hZ0 hK hE hI g_y (by decide) rfl) rfl rfl hl.1 rfl (lv_room (Nat.le_of_ble_eq_true rfl)) dX9_lasts_2 ⟨Nat.le_of_ble_eq_true rfl, Nat.le_of_ble_eq_true rfl⟩) (fun r1 M2 N3 R4 H locs q5 z_M2 hI => ?_)
  obtain ⟨rfl, rfl, rfl, i_r1, z6⟩ := q5
  refine lv_if_ne (tgt := 10) hx hb dX9_lasts_5 (by decide) (fun c7 => ?_) (fun c7 => ?_)
  · have i8 : iv p1 0 6 := z6 c7
    have i9 : iv r1 1 1 := iv_neL c7 i_r1 (by decide) (by decide)
    refine lv_aload_n hx hb dX9_lasts_10 rfl (lv_at hl 0 rfl) ?_
    refine h_gov hI (by decide) (va_runV (As := []) (rest := []) ⟨hx, hb, hml, hown, hts⟩ (h_keepNow_X9 l D g σ Z hZ0 M N R y g_y) (cwV 0 hts gX9_lasts_X9_keepNow rfl rfl rfl (by decide +kernel) ⟨Nat.le_of_ble_eq_true rfl, Nat.le_of_ble_eq_true rfl⟩) (h_preV hZ0 hK hE hI g_y (by decide) rfl) rfl rfl hl.1 rfl (lv_room (Nat.le_of_ble_eq_true rfl)) dX9_lasts_11 ⟨Nat.le_of_ble_eq_true rfl, Nat.le_of_ble_eq_true rfl⟩) (fun M11 N12 R13 H locs q14 z_M11 hI => ?_)
    obtain ⟨rfl, rfl, z15⟩ := q14
    have m16 : KK M11 R y := KK_of z15 hI.2.1 g_y m0_KV
    refine lv_aload_n hx hb dX9_lasts_14 rfl (lv_at hl 0 rfl) ?_
    refine lv_iload_n hx hb dX9_lasts_15 rfl (lv_at hl 1 rfl) ?_
    have m17 : CW M11 R y := (CW_ag hI.2.1 g_y m0_CW (hAd.ag z_M11 (by decide)))
    refine h_goi hI (by decide) (va_runV (As := [.int p1]) (rest := []) ⟨hx, hb, hml, hown, hts⟩ (h_outBehind_X9 l D g σ Z hZ0 M11 N R y g_y p1 i8 m16 m17) (cwV 1 hts gX9_lasts_X9_outBehind rfl rfl rfl (by decide +kernel) ⟨Nat.le_of_ble_eq_true rfl, Nat.le_of_ble_eq_true rfl⟩) (h_preV hZ0 hK hE hI g_y (by decide) rfl) rfl rfl hl.1 rfl (lv_room (Nat.le_of_ble_eq_true rfl)) dX9_lasts_16 ⟨Nat.le_of_ble_eq_true rfl, Nat.le_of_ble_eq_true rfl⟩) (fun r18 M19 N20 R21 H locs q22 z_M19 hI => ?_)
    obtain ⟨rfl, rfl, i_r18, z23⟩ := q22
    exact h_iret hQ hx hb hr hlocks rfl hK hI ⟨rfl, rfl, i_r18, z23⟩ dX9_lasts_19
  · have i24 : iv r1 0 0 := iv_eq1 c7 i_r1 kc_0
    refine lv_iconst (v := (-1)) hx hb dX9_lasts_8 (by decide) ?_
    exact h_iret hQ hx hb hr hlocks rfl hK hI ⟨rfl, rfl, (iv_w (lo' := (-1)) (hi' := 99) kc_m1 (by decide) (by decide)), m0_KV⟩ dX9_lasts_9
abbrev e_h_housed_X9 : List (Nat × Nat) := [(9, 41), (9, 42), (9, 43), (9, 44), (134, 999), (145, 999), (152, 999)]
set_option maxHeartbeats 4000000 in
set_option maxRecDepth 100000 in
theorem h_housed_X9 (l : Launch) (D : va_G) (g : Nat → ClassId) (σ : Nat → Option Nat) (Z : State → Heap → Prop) (hZ0 : hZ σ Z) (M : hM) (N : hN) (R : hR) (y : Nat) (g_y : σ y = some 9) (p1 : Int32) (m0_KV : KV M R y) (m0_CW : CW M R y) : Met l yX9_housed wsX9_housed ({ frames := 8, cells := 0, slots := 0, locals := 179 }) (va_Pc [.ref y, .int p1] (hPre D g σ Z M N R)) (hQi D g σ e_h_housed_X9 M (fun (r : Int32) (M1 : hM) (N1 : hN) (R1 : hR) => N = N1 ∧ R = R1 ∧ (KV M1 R y))) 0 0 (hA σ) := by
  refine h_head (cc := cX9_housed) (maxL := 2) (ret := (some .int)) (by decide) rfl (Nat.le_of_ble_eq_true rfl) e_h_housed_X9 ?_
  intro p e s m below meth c ls Q ar hQ hx hb hr hlocks hml hown hts hK hE H locs hI hl
  have hown : s.vm.findClass RX9 = some m.cls := hown
  have hl : lv_has ls 2 [(0, .ref y), (1, .int p1)] := hl
  refine lv_iload_n hx hb dX9_housed_0 rfl (lv_at hl 1 rfl) ?_
  refine h_goi hI (by decide) (va_runS (As := [.int p1]) (rest := []) ⟨hx, hb, hml, hown, hts⟩ (h_isAhead_X9 l D g σ Z hZ0 M N R p1) (va_cwS 1 hts gX9_housed_X9_isAhead rfl rfl rfl (by decide +kernel) ⟨Nat.le_of_ble_eq_true rfl, Nat.le_of_ble_eq_true rfl⟩) (h_preS hZ0 hK hE hI) rfl rfl hl.1 rfl (lv_room (Nat.le_of_ble_eq_true rfl)) dX9_housed_1 ⟨Nat.le_of_ble_eq_true rfl, Nat.le_of_ble_eq_true rfl⟩) (fun r1 M2 N3 R4 H locs q5 z_M2 hI => ?_)
  obtain ⟨rfl, rfl, rfl, i_r1, z6⟩ := q5
  refine lv_if_ne (tgt := 9) hx hb dX9_housed_4 (by decide) (fun c7 => ?_) (fun c7 => ?_)
  · have i8 : iv p1 0 60 := z6 c7
    have i9 : iv r1 1 1 := iv_neL c7 i_r1 (by decide) (by decide)
    refine lv_aload_n hx hb dX9_housed_9 rfl (lv_at hl 0 rfl) ?_
    refine h_gov hI (by decide) (va_runV (As := []) (rest := []) ⟨hx, hb, hml, hown, hts⟩ (h_keepNow_X9 l D g σ Z hZ0 M N R y g_y) (cwV 0 hts gX9_housed_X9_keepNow rfl rfl rfl (by decide +kernel) ⟨Nat.le_of_ble_eq_true rfl, Nat.le_of_ble_eq_true rfl⟩) (h_preV hZ0 hK hE hI g_y (by decide) rfl) rfl rfl hl.1 rfl (lv_room (Nat.le_of_ble_eq_true rfl)) dX9_housed_10 ⟨Nat.le_of_ble_eq_true rfl, Nat.le_of_ble_eq_true rfl⟩) (fun M11 N12 R13 H locs q14 z_M11 hI => ?_)
    obtain ⟨rfl, rfl, z15⟩ := q14
    have m16 : KK M11 R y := KK_of z15 hI.2.1 g_y m0_KV
    refine lv_aload_n hx hb dX9_housed_13 rfl (lv_at hl 0 rfl) ?_
    refine h_goi hI (by decide) (va_runV (As := []) (rest := []) ⟨hx, hb, hml, hown, hts⟩ (h_many_X9 l D g σ Z hZ0 M11 N R y g_y) (cwV 0 hts gX9_housed_X9_many rfl rfl rfl (by decide +kernel) ⟨Nat.le_of_ble_eq_true rfl, Nat.le_of_ble_eq_true rfl⟩) (h_preV hZ0 hK hE hI g_y (by decide) rfl) rfl rfl hl.1 rfl (lv_room (Nat.le_of_ble_eq_true rfl)) dX9_housed_14 ⟨Nat.le_of_ble_eq_true rfl, Nat.le_of_ble_eq_true rfl⟩) (fun r17 M18 N19 R20 H locs q21 z_M18 hI => ?_)
    obtain ⟨rfl, rfl, rfl, i_r17, z22⟩ := q21
    refine lv_aload_n hx hb dX9_housed_17 rfl (lv_at hl 0 rfl) ?_
    refine lv_iload_n hx hb dX9_housed_18 rfl (lv_at hl 1 rfl) ?_
    have m23 : CW M11 R y := (CW_ag hI.2.1 g_y m0_CW (hAd.ag z_M11 (by decide)))
    refine h_goi hI (by decide) (va_runV (As := [.int p1]) (rest := [.int r17]) ⟨hx, hb, hml, hown, hts⟩ (h_outAfter_X9 l D g σ Z hZ0 M11 N R y g_y p1 i8 m16 m23) (cwV 1 hts gX9_housed_X9_outAfter rfl rfl rfl (by decide +kernel) ⟨Nat.le_of_ble_eq_true rfl, Nat.le_of_ble_eq_true rfl⟩) (h_preV hZ0 hK hE hI g_y (by decide) rfl) rfl rfl hl.1 rfl (lv_room (Nat.le_of_ble_eq_true rfl)) dX9_housed_19 ⟨Nat.le_of_ble_eq_true rfl, Nat.le_of_ble_eq_true rfl⟩) (fun r24 M25 N26 R27 H locs q28 z_M25 hI => ?_)
    obtain ⟨rfl, rfl, z29⟩ := q28
    refine lv_isub hx hb dX9_housed_22 ?_
    refine h_nm (lo := (-2147483648)) (hi := 2147483647) (iv_any _) (fun v30 e_v30 i_v30 => ?_)
    exact h_iret hQ hx hb hr hlocks rfl hK hI ⟨rfl, rfl, z29⟩ dX9_housed_23
  · have i31 : iv r1 0 0 := iv_eq1 c7 i_r1 kc_0
    refine lv_iconst (v := (-1)) hx hb dX9_housed_7 (by decide) ?_
    exact h_iret hQ hx hb hr hlocks rfl hK hI ⟨rfl, rfl, m0_KV⟩ dX9_housed_8
abbrev e_h_grief_X9 : List (Nat × Nat) := [(9, 41), (9, 42), (9, 43), (9, 44), (134, 999), (145, 999), (152, 999)]
set_option maxHeartbeats 4000000 in
set_option maxRecDepth 100000 in
theorem h_grief_X9 (l : Launch) (D : va_G) (g : Nat → ClassId) (σ : Nat → Option Nat) (Z : State → Heap → Prop) (hZ0 : hZ σ Z) (M : hM) (N : hN) (R : hR) (y : Nat) (g_y : σ y = some 9) (p1 : Int32) (p2 : Int32) (m0_KV : KV M R y) (m0_CW : CW M R y) (m0_HV : HV M R y) : Met l yX9_grief wsX9_grief ({ frames := 8, cells := 0, slots := 0, locals := 179 }) (va_Pc [.ref y, .int p1, .int p2] (hPre D g σ Z M N R)) (hQi D g σ e_h_grief_X9 M (fun (r : Int32) (M1 : hM) (N1 : hN) (R1 : hR) => N = N1 ∧ R = R1 ∧ (KV M1 R y))) 0 0 (hA σ) := by
  refine h_head (cc := cX9_grief) (maxL := 4) (ret := (some .int)) (by decide) rfl (Nat.le_of_ble_eq_true rfl) e_h_grief_X9 ?_
  intro p e s m below meth c ls Q ar hQ hx hb hr hlocks hml hown hts hK hE H locs hI hl
  have hown : s.vm.findClass RX9 = some m.cls := hown
  have hl : lv_has ls 4 [(0, .ref y), (1, .int p1), (2, .int p2)] := hl
  refine lv_aload_n hx hb dX9_grief_0 rfl (lv_at hl 0 rfl) ?_
  refine lv_iload_n hx hb dX9_grief_1 rfl (lv_at hl 1 rfl) ?_
  refine h_goi hI (by decide) (va_runV (As := [.int p1]) (rest := []) ⟨hx, hb, hml, hown, hts⟩ (h_isCat_X9 l D g σ Z hZ0 M N R y g_y p1) (cwV 1 hts gX9_grief_X9_isCat rfl rfl rfl (by decide +kernel) ⟨Nat.le_of_ble_eq_true rfl, Nat.le_of_ble_eq_true rfl⟩) (h_preV hZ0 hK hE hI g_y (by decide) rfl) rfl rfl hl.1 rfl (lv_room (Nat.le_of_ble_eq_true rfl)) dX9_grief_2 ⟨Nat.le_of_ble_eq_true rfl, Nat.le_of_ble_eq_true rfl⟩) (fun r1 M2 N3 R4 H locs q5 z_M2 hI => ?_)
  obtain ⟨rfl, rfl, rfl, i_r1, z6, z7⟩ := q5
  refine lv_if_eq (tgt := 26) hx hb dX9_grief_5 (by decide) (fun c8 => ?_) (fun c8 => ?_)
  · have i9 : iv r1 0 0 := iv_eq1 c8 i_r1 kc_0
    refine lv_sipush (v := (-1000)) hx hb dX9_grief_26 (by decide) ?_
    exact h_iret hQ hx hb hr hlocks rfl hK hI ⟨rfl, rfl, m0_KV⟩ dX9_grief_29
  · have i10 : iv p1 0 5 := z6 c8
    have i11 : iv r1 1 1 := iv_neL c8 i_r1 (by decide) (by decide)
    refine lv_aload_n hx hb dX9_grief_8 rfl (lv_at hl 0 rfl) ?_
    refine lv_iload_n hx hb dX9_grief_9 rfl (lv_at hl 1 rfl) ?_
    refine h_goi hI (by decide) (va_runV (As := [.int p1]) (rest := []) ⟨hx, hb, hml, hown, hts⟩ (h_lives_X9 l D g σ Z hZ0 M N R y g_y p1) (cwV 1 hts gX9_grief_X9_lives rfl rfl rfl (by decide +kernel) ⟨Nat.le_of_ble_eq_true rfl, Nat.le_of_ble_eq_true rfl⟩) (h_preV hZ0 hK hE hI g_y (by decide) rfl) rfl rfl hl.1 rfl (lv_room (Nat.le_of_ble_eq_true rfl)) dX9_grief_10 ⟨Nat.le_of_ble_eq_true rfl, Nat.le_of_ble_eq_true rfl⟩) (fun r12 M13 N14 R15 H locs q16 z_M13 hI => ?_)
    obtain ⟨rfl, rfl, rfl, i_r12⟩ := q16
    refine lv_if_eq (tgt := 26) hx hb dX9_grief_13 (by decide) (fun c17 => ?_) (fun c17 => ?_)
    · have i18 : iv r12 0 0 := iv_eq1 c17 i_r12 kc_0
      refine lv_sipush (v := (-1000)) hx hb dX9_grief_26 (by decide) ?_
      exact h_iret hQ hx hb hr hlocks rfl hK hI ⟨rfl, rfl, m0_KV⟩ dX9_grief_29
    · have i19 : iv r12 1 1 := iv_neL c17 i_r12 (by decide) (by decide)
      refine lv_iload_n hx hb dX9_grief_16 rfl (lv_at hl 2 rfl) ?_
      refine lv_iconst (v := 0) hx hb dX9_grief_17 (by decide) ?_
      refine lv_bipush (v := 20) hx hb dX9_grief_18 (by decide) ?_
      refine h_goi hI (by decide) (va_runS (As := [.int p2, .int (0 : Int32), .int (20 : Int32)]) (rest := []) ⟨hx, hb, hml, hown, hts⟩ (h_isIn_X9 l D g σ Z hZ0 M N R p2 (0 : Int32) (20 : Int32)) (va_cwS 3 hts gX9_grief_X9_isIn rfl rfl rfl (by decide +kernel) ⟨Nat.le_of_ble_eq_true rfl, Nat.le_of_ble_eq_true rfl⟩) (h_preS hZ0 hK hE hI) rfl rfl hl.1 rfl (lv_room (Nat.le_of_ble_eq_true rfl)) dX9_grief_20 ⟨Nat.le_of_ble_eq_true rfl, Nat.le_of_ble_eq_true rfl⟩) (fun r20 M21 N22 R23 H locs q24 z_M21 hI => ?_)
      obtain ⟨rfl, rfl, rfl, i_r20, z25⟩ := q24
      refine lv_if_ne (tgt := 30) hx hb dX9_grief_23 (by decide) (fun c26 => ?_) (fun c26 => ?_)
      · have i27 : iv p2 0 20 := (fun h9 => iv_isin (z25 h9) kc_0 kc_20) c26
        have i28 : iv r20 1 1 := iv_neL c26 i_r20 (by decide) (by decide)
        refine lv_aload_n hx hb dX9_grief_30 rfl (lv_at hl 0 rfl) ?_
        refine h_gov hI (by decide) (va_runV (As := []) (rest := []) ⟨hx, hb, hml, hown, hts⟩ (h_keepNow_X9 l D g σ Z hZ0 M N R y g_y) (cwV 0 hts gX9_grief_X9_keepNow rfl rfl rfl (by decide +kernel) ⟨Nat.le_of_ble_eq_true rfl, Nat.le_of_ble_eq_true rfl⟩) (h_preV hZ0 hK hE hI g_y (by decide) rfl) rfl rfl hl.1 rfl (lv_room (Nat.le_of_ble_eq_true rfl)) dX9_grief_31 ⟨Nat.le_of_ble_eq_true rfl, Nat.le_of_ble_eq_true rfl⟩) (fun M30 N31 R32 H locs q33 z_M30 hI => ?_)
        obtain ⟨rfl, rfl, z34⟩ := q33
        have m35 : KK M30 R y := KK_of z34 hI.2.1 g_y m0_KV
        refine lv_aload_n hx hb dX9_grief_34 rfl (lv_at hl 0 rfl) ?_
        refine lv_iload_n hx hb dX9_grief_35 rfl (lv_at hl 2 rfl) ?_
        have m36 : CW M30 R y := (CW_ag hI.2.1 g_y m0_CW (hAd.ag z_M30 (by decide)))
        refine h_goi hI (by decide) (va_runV (As := [.int p2]) (rest := []) ⟨hx, hb, hml, hown, hts⟩ (h_outAfter_X9 l D g σ Z hZ0 M30 N R y g_y p2 (iv_w (lo' := 0) (hi' := 60) i27 (by decide) (by decide)) m35 m36) (cwV 1 hts gX9_grief_X9_outAfter rfl rfl rfl (by decide +kernel) ⟨Nat.le_of_ble_eq_true rfl, Nat.le_of_ble_eq_true rfl⟩) (h_preV hZ0 hK hE hI g_y (by decide) rfl) rfl rfl hl.1 rfl (lv_room (Nat.le_of_ble_eq_true rfl)) dX9_grief_36 ⟨Nat.le_of_ble_eq_true rfl, Nat.le_of_ble_eq_true rfl⟩) (fun r37 M38 N39 R40 H locs q41 z_M38 hI => ?_)
        obtain ⟨rfl, rfl, z42⟩ := q41
        refine lv_istore_n (lv' := [(3, .int r37), (0, .ref y), (1, .int p1), (2, .int p2)]) hx hb dX9_grief_39 rfl hl (by decide) rfl (fun ls hl => ?_)
        refine lv_aload_n hx hb dX9_grief_40 rfl (lv_at hl 1 rfl) ?_
        refine lv_iconst (v := 1) hx hb dX9_grief_41 (by decide) ?_
        refine lv_iload_n hx hb dX9_grief_42 rfl (lv_at hl 2 rfl) ?_
        refine lv_ishl hx hb dX9_grief_43 ?_
        refine h_nm (lo := 1) (hi := 32) (iv_shl1 5 i10 (by decide) (by decide) (by decide) (by decide) (by decide)) (fun v43 e_v43 i_v43 => ?_)
        have m44 : HV M38 R y := (HV_ag hI.2.1 g_y (HV_ag hI.2.1 g_y m0_HV (hAd.ag z_M30 (by decide))) (hAd.ag z_M38 (by decide)))
        refine h_gov hI (by decide) (va_runV (As := [.int v43]) (rest := []) ⟨hx, hb, hml, hown, hts⟩ (h_goDie_X9 l D g σ Z hZ0 M38 N R y g_y v43 z42 m44) (cwV 1 hts gX9_grief_X9_goDie rfl rfl rfl (by decide +kernel) ⟨Nat.le_of_ble_eq_true rfl, Nat.le_of_ble_eq_true rfl⟩) (h_preV hZ0 hK hE hI g_y (by decide) rfl) rfl rfl hl.1 rfl (lv_room (Nat.le_of_ble_eq_true rfl)) dX9_grief_44 ⟨Nat.le_of_ble_eq_true rfl, Nat.le_of_ble_eq_true rfl⟩) (fun M46 N47 R48 H locs q49 z_M46 hI => ?_)
        obtain ⟨rfl, rfl, m50⟩ := q49
        refine lv_aload_n hx hb dX9_grief_47 rfl (lv_at hl 1 rfl) ?_
        refine lv_iload_n hx hb dX9_grief_48 rfl (lv_at hl 3 rfl) ?_
        have m51 : KK M46 R y := (KK_ag hI.2.1 g_y (KK_ag hI.2.1 g_y m35 (hAd.ag z_M38 (by decide))) (hAd.ag z_M46 (by decide)))
        have m52 : CW M46 R y := (CW_ag hI.2.1 g_y (CW_ag hI.2.1 g_y m36 (hAd.ag z_M38 (by decide))) (hAd.ag z_M46 (by decide)))
        refine h_goi hI (by decide) (va_runV (As := [.int p2]) (rest := []) ⟨hx, hb, hml, hown, hts⟩ (h_outAfter_X9 l D g σ Z hZ0 M46 N R y g_y p2 (iv_w (lo' := 0) (hi' := 60) i27 (by decide) (by decide)) m51 m52) (cwV 1 hts gX9_grief_X9_outAfter rfl rfl rfl (by decide +kernel) ⟨Nat.le_of_ble_eq_true rfl, Nat.le_of_ble_eq_true rfl⟩) (h_preV hZ0 hK hE hI g_y (by decide) rfl) rfl rfl hl.1 rfl (lv_room (Nat.le_of_ble_eq_true rfl)) dX9_grief_49 ⟨Nat.le_of_ble_eq_true rfl, Nat.le_of_ble_eq_true rfl⟩) (fun r53 M54 N55 R56 H locs q57 z_M54 hI => ?_)
        obtain ⟨rfl, rfl, z58⟩ := q57
        refine lv_iload_n hx hb dX9_grief_52 rfl (lv_at hl 0 rfl) ?_
        refine lv_isub hx hb dX9_grief_53 ?_
        refine h_nm (lo := (-2147483648)) (hi := 2147483647) (iv_any _) (fun v59 e_v59 i_v59 => ?_)
        exact h_iret hQ hx hb hr hlocks rfl hK hI ⟨rfl, rfl, z58⟩ dX9_grief_54
      · have i60 : iv r20 0 0 := iv_eq1 c26 i_r20 kc_0
        refine lv_sipush (v := (-1000)) hx hb dX9_grief_26 (by decide) ?_
        exact h_iret hQ hx hb hr hlocks rfl hK hI ⟨rfl, rfl, m0_KV⟩ dX9_grief_29
abbrev e_h_haven_X9 : List (Nat × Nat) := [(9, 41), (9, 42), (9, 43), (9, 44), (134, 999), (145, 999), (152, 999)]
set_option maxHeartbeats 4000000 in
set_option maxRecDepth 100000 in
theorem h_haven_X9 (l : Launch) (D : va_G) (g : Nat → ClassId) (σ : Nat → Option Nat) (Z : State → Heap → Prop) (hZ0 : hZ σ Z) (M : hM) (N : hN) (R : hR) (y : Nat) (g_y : σ y = some 9) (p1 : Int32) (p2 : Int32) (m0_KV : KV M R y) (m0_CW : CW M R y) : Met l yX9_haven wsX9_haven ({ frames := 8, cells := 0, slots := 0, locals := 179 }) (va_Pc [.ref y, .int p1, .int p2] (hPre D g σ Z M N R)) (hQi D g σ e_h_haven_X9 M (fun (r : Int32) (M1 : hM) (N1 : hN) (R1 : hR) => N = N1 ∧ R = R1 ∧ iv r (-1) 99 ∧ (KV M1 R y))) 0 0 (hA σ) := by
  refine h_head (cc := cX9_haven) (maxL := 7) (ret := (some .int)) (by decide) rfl (Nat.le_of_ble_eq_true rfl) e_h_haven_X9 ?_
  intro p e s m below meth c ls Q ar hQ hx hb hr hlocks hml hown hts hK hE H locs hI hl
  have hown : s.vm.findClass RX9 = some m.cls := hown
  have hl : lv_has ls 7 [(0, .ref y), (1, .int p1), (2, .int p2)] := hl
  refine lv_aload_n hx hb dX9_haven_0 rfl (lv_at hl 0 rfl) ?_
  refine lv_iload_n hx hb dX9_haven_1 rfl (lv_at hl 1 rfl) ?_
  refine h_goi hI (by decide) (va_runV (As := [.int p1]) (rest := []) ⟨hx, hb, hml, hown, hts⟩ (h_isTenant_X9 l D g σ Z hZ0 M N R y g_y p1) (cwV 1 hts gX9_haven_X9_isTenant rfl rfl rfl (by decide +kernel) ⟨Nat.le_of_ble_eq_true rfl, Nat.le_of_ble_eq_true rfl⟩) (h_preV hZ0 hK hE hI g_y (by decide) rfl) rfl rfl hl.1 rfl (lv_room (Nat.le_of_ble_eq_true rfl)) dX9_haven_2 ⟨Nat.le_of_ble_eq_true rfl, Nat.le_of_ble_eq_true rfl⟩) (fun r1 M2 N3 R4 H locs q5 z_M2 hI => ?_)
  obtain ⟨rfl, rfl, rfl, i_r1, z6⟩ := q5
  refine lv_if_eq (tgt := 17) hx hb dX9_haven_5 (by decide) (fun c7 => ?_) (fun c7 => ?_)
  · have i8 : iv r1 0 0 := iv_eq1 c7 i_r1 kc_0
    refine lv_iconst (v := (-1)) hx hb dX9_haven_17 (by decide) ?_
    exact h_iret hQ hx hb hr hlocks rfl hK hI ⟨rfl, rfl, (iv_w (lo' := (-1)) (hi' := 99) kc_m1 (by decide) (by decide)), m0_KV⟩ dX9_haven_18
  · have i9 : iv p1 0 6 := z6 c7
    have i10 : iv r1 1 1 := iv_neL c7 i_r1 (by decide) (by decide)
    refine lv_iload_n hx hb dX9_haven_8 rfl (lv_at hl 2 rfl) ?_
    refine lv_iconst (v := 0) hx hb dX9_haven_9 (by decide) ?_
    refine lv_iconst (v := 1) hx hb dX9_haven_10 (by decide) ?_
    refine h_goi hI (by decide) (va_runS (As := [.int p2, .int (0 : Int32), .int (1 : Int32)]) (rest := []) ⟨hx, hb, hml, hown, hts⟩ (h_isIn_X9 l D g σ Z hZ0 M N R p2 (0 : Int32) (1 : Int32)) (va_cwS 3 hts gX9_haven_X9_isIn rfl rfl rfl (by decide +kernel) ⟨Nat.le_of_ble_eq_true rfl, Nat.le_of_ble_eq_true rfl⟩) (h_preS hZ0 hK hE hI) rfl rfl hl.1 rfl (lv_room (Nat.le_of_ble_eq_true rfl)) dX9_haven_11 ⟨Nat.le_of_ble_eq_true rfl, Nat.le_of_ble_eq_true rfl⟩) (fun r11 M12 N13 R14 H locs q15 z_M12 hI => ?_)
    obtain ⟨rfl, rfl, rfl, i_r11, z16⟩ := q15
    refine lv_if_ne (tgt := 19) hx hb dX9_haven_14 (by decide) (fun c17 => ?_) (fun c17 => ?_)
    · have i18 : iv p2 0 1 := (fun h9 => iv_isin (z16 h9) kc_0 kc_1) c17
      have i19 : iv r11 1 1 := iv_neL c17 i_r11 (by decide) (by decide)
      refine lv_iconst (v := (-1)) hx hb dX9_haven_19 (by decide) ?_
      refine lv_istore_n (lv' := [(3, .int (-1 : Int32)), (0, .ref y), (1, .int p1), (2, .int p2)]) hx hb dX9_haven_20 rfl hl (by decide) rfl (fun ls hl => ?_)
      refine lv_iconst (v := 0) hx hb dX9_haven_21 (by decide) ?_
      refine lv_istore (lv' := [(4, .int (0 : Int32)), (3, .int (-1 : Int32)), (0, .ref y), (1, .int p1), (2, .int p2)]) hx hb dX9_haven_22 hl (by decide) rfl (fun ls hl => ?_)
      refine lv_iconst (v := 0) hx hb dX9_haven_24 (by decide) ?_
      have J27 : ∀ (n : Nat) (M_27 : hM) (v3_27 : Int32) (v4_27 : Int32) (v5_27 : Int32) (H : Heap) (locs : List Loc) (ls : Array Slot), kI D g σ e_h_haven_X9 M s.heap M_27 N R H locs → lv_has ls 7 [(0, .ref y), (1, .int p1), (2, .int p2), (3, .int v3_27), (4, .int v4_27), (5, .int v5_27)] → KV M_27 R y → CW M_27 R y → iv v3_27 (-1) 7 → iv v4_27 0 99 → iv v5_27 0 8 → 9 ≤ v5_27.toInt + (n : Int) → W p l e (headSpec wsX9_haven ({ frames := 8, cells := 0, slots := 0, locals := 179 })).room s m ar below meth c H locs 0 0 Q (F0 m 27 ls []) := by
        intro n
        induction n with
        | zero => intro M_27 v3_27 v4_27 v5_27 H locs ls hI hl m_KV_27 m_CW_27 i_v3_27 i_v4_27 i_v5_27 hn; exfalso; have hz := i_v5_27; simp only [iv] at hz; omega
        | succ n ih27 =>
          intro M_27 v3_27 v4_27 v5_27 H locs ls hI hl m_KV_27 m_CW_27 i_v3_27 i_v4_27 i_v5_27 hn27
          refine lv_iload hx hb dX9_haven_27 (lv_at hl 5 rfl) ?_
          refine lv_aload_n hx hb dX9_haven_29 rfl (lv_at hl 0 rfl) ?_
          refine h_goi hI (by decide) (va_runV (As := []) (rest := [.int v5_27]) ⟨hx, hb, hml, hown, hts⟩ (h_chambers_X9 l D g σ Z hZ0 M_27 N R y g_y) (cwV 0 hts gX9_haven_X9_chambers rfl rfl rfl (by decide +kernel) ⟨Nat.le_of_ble_eq_true rfl, Nat.le_of_ble_eq_true rfl⟩) (h_preV hZ0 hK hE hI g_y (by decide) rfl) rfl rfl hl.1 rfl (lv_room (Nat.le_of_ble_eq_true rfl)) dX9_haven_30 ⟨Nat.le_of_ble_eq_true rfl, Nat.le_of_ble_eq_true rfl⟩) (fun r20 M21 N22 R23 H locs q24 z_M21 hI => ?_)
          obtain ⟨rfl, rfl, rfl, i_r20, z25⟩ := q24
          refine lv_icmp_ge (tgt := 130) hx hb dX9_haven_33 (by decide) (fun c26 => ?_) (fun c26 => ?_)
          · refine lv_iload_n hx hb dX9_haven_130 rfl (lv_at hl 3 rfl) ?_
            refine lv_if_ge (tgt := 138) hx hb dX9_haven_131 (by decide) (fun c27 => ?_) (fun c27 => ?_)
            · have i28 : iv v3_27 0 7 := iv_le2 c27 kc_0 i_v3_27 (by decide)
              refine lv_iload_n hx hb dX9_haven_138 rfl (lv_at hl 2 rfl) ?_
              refine lv_if_ne (tgt := 146) hx hb dX9_haven_139 (by decide) (fun c29 => ?_) (fun c29 => ?_)
              · have i30 : iv p2 1 1 := iv_neL c29 i18 (by decide) (by decide)
                refine lv_iload hx hb dX9_haven_146 (lv_at hl 4 rfl) ?_
                exact h_iret hQ hx hb hr hlocks rfl hK hI ⟨rfl, rfl, (iv_w (lo' := (-1)) (hi' := 99) i_v4_27 (by decide) (by decide)), m_KV_27⟩ dX9_haven_148
              · have i31 : iv p2 0 0 := iv_eq1 c29 i18 kc_0
                refine lv_iload_n hx hb dX9_haven_142 rfl (lv_at hl 3 rfl) ?_
                refine lv_goto (tgt := 148) hx hb dX9_haven_143 (by decide) ?_
                exact h_iret hQ hx hb hr hlocks rfl hK hI ⟨rfl, rfl, (iv_w (lo' := (-1)) (hi' := 99) i28 (by decide) (by decide)), m_KV_27⟩ dX9_haven_148
            · have i32 : iv v3_27 (-1) (-1) := iv_nle2 c27 kc_0 i_v3_27 (by decide)
              refine lv_iconst (v := (-1)) hx hb dX9_haven_134 (by decide) ?_
              refine lv_goto (tgt := 148) hx hb dX9_haven_135 (by decide) ?_
              exact h_iret hQ hx hb hr hlocks rfl hK hI ⟨rfl, rfl, (iv_w (lo' := (-1)) (hi' := 99) kc_m1 (by decide) (by decide)), m_KV_27⟩ dX9_haven_148
          · have i33 : iv r20 1 8 := iv_nle1 c26 i_r20 i_v5_27 (by decide)
            have i34 : iv v5_27 0 7 := iv_nle2 c26 i_r20 i_v5_27 (by decide)
            refine lv_aload_n hx hb dX9_haven_36 rfl (lv_at hl 0 rfl) ?_
            refine lv_iload hx hb dX9_haven_37 (lv_at hl 5 rfl) ?_
            refine h_goi hI (by decide) (va_runV (As := [.int v5_27]) (rest := []) ⟨hx, hb, hml, hown, hts⟩ (h_whoIn_X9 l D g σ Z hZ0 M_27 N R y g_y v5_27) (cwV 1 hts gX9_haven_X9_whoIn rfl rfl rfl (by decide +kernel) ⟨Nat.le_of_ble_eq_true rfl, Nat.le_of_ble_eq_true rfl⟩) (h_preV hZ0 hK hE hI g_y (by decide) rfl) rfl rfl hl.1 rfl (lv_room (Nat.le_of_ble_eq_true rfl)) dX9_haven_39 ⟨Nat.le_of_ble_eq_true rfl, Nat.le_of_ble_eq_true rfl⟩) (fun r35 M36 N37 R38 H locs q39 z_M36 hI => ?_)
            obtain ⟨rfl, rfl, rfl, i_r35⟩ := q39
            have J124 : ∀ (M_124 : hM) (v3_124 : Int32) (v4_124 : Int32) (H : Heap) (locs : List Loc) (ls : Array Slot), kI D g σ e_h_haven_X9 M s.heap M_124 N R H locs → lv_has ls 7 [(0, .ref y), (1, .int p1), (2, .int p2), (3, .int v3_124), (4, .int v4_124), (5, .int v5_27)] → KV M_124 R y → CW M_124 R y → iv v3_124 (-1) 7 → iv v4_124 0 99 → W p l e (headSpec wsX9_haven ({ frames := 8, cells := 0, slots := 0, locals := 179 })).room s m ar below meth c H locs 0 0 Q (F0 m 124 ls []) := by
              intro M_124 v3_124 v4_124 H locs ls hI hl m_KV_124 m_CW_124 i_v3_124 i_v4_124
              obtain ⟨v40, e_v40⟩ : ∃ z : Int32, z = v5_27 + Int32.ofInt 1 := ⟨_, rfl⟩
              have i_v40 : iv v40 1 8 := by rw [e_v40]; exact iv_add i34 (ki_1) (by decide) (by decide) (by decide) (by decide)
              refine lv_iinc (v := v40) (lv' := [(5, .int v40), (0, .ref y), (1, .int p1), (2, .int p2), (3, .int v3_124), (4, .int v4_124)]) hx hb dX9_haven_124 hl (k := 5) rfl e_v40.symm (by decide) rfl (fun ls hl => ?_)
              refine lv_goto (tgt := 27) hx hb dX9_haven_127 (by decide) ?_
              exact ih27 M_124 v3_124 v4_124 v40 H locs ls hI (lv_sub hl [1, 2, 3, 4, 5, 0] rfl) m_KV_124 m_CW_124 i_v3_124 i_v4_124 (iv_w (lo' := 0) (hi' := 8) i_v40 (by decide) (by decide)) (by have h9 := (h_inc e_v40 i34 ki_1 (by decide) (by decide)); omega)
            have J58 : ∀ (H : Heap) (locs : List Loc) (ls : Array Slot), kI D g σ e_h_haven_X9 M s.heap M_27 N R H locs → lv_has ls 7 [(0, .ref y), (1, .int p1), (2, .int p2), (3, .int v3_27), (4, .int v4_27), (5, .int v5_27)] → W p l e (headSpec wsX9_haven ({ frames := 8, cells := 0, slots := 0, locals := 179 })).room s m ar below meth c H locs 0 0 Q (F0 m 58 ls []) := by
              intro H locs ls hI hl
              refine lv_aload_n hx hb dX9_haven_58 rfl (lv_at hl 0 rfl) ?_
              refine h_gov hI (by decide) (va_runV (As := []) (rest := []) ⟨hx, hb, hml, hown, hts⟩ (h_keepNow_X9 l D g σ Z hZ0 M_27 N R y g_y) (cwV 0 hts gX9_haven_X9_keepNow rfl rfl rfl (by decide +kernel) ⟨Nat.le_of_ble_eq_true rfl, Nat.le_of_ble_eq_true rfl⟩) (h_preV hZ0 hK hE hI g_y (by decide) rfl) rfl rfl hl.1 rfl (lv_room (Nat.le_of_ble_eq_true rfl)) dX9_haven_59 ⟨Nat.le_of_ble_eq_true rfl, Nat.le_of_ble_eq_true rfl⟩) (fun M42 N43 R44 H locs q45 z_M42 hI => ?_)
              obtain ⟨rfl, rfl, z46⟩ := q45
              have m47 : KK M42 R y := KK_of z46 hI.2.1 g_y m_KV_27
              refine lv_aload_n hx hb dX9_haven_62 rfl (lv_at hl 0 rfl) ?_
              refine h_getr hx hb hts iX9_haven_X9 hown hK hI g_y (by decide) rfl rfl 45 (by decide) rfl 145 rfl (hts (.fieldLink RX9 94 "CatLeasesModel" "all" "[I") (List.mem_of_getElem? (i := 1) rfl)) (fun _ h9 => h9) dX9_haven_63 (fun a48 e_a48 g_a48 => ?_)
              refine lv_iconst (v := 0) hx hb dX9_haven_66 (by decide) ?_
              refine lv_iload_n hx hb dX9_haven_67 rfl (lv_at hl 1 rfl) ?_
              refine lv_iadd hx hb dX9_haven_68 ?_
              refine k_top (v := p1) (Int32.zero_add _) ?_
              refine h_iald (j := p1.toNatClampNeg) (lo := (-1)) (hi := 7) hx hb hK hI g_a48 (by decide) rfl (iv_in (n := 39) i9 (by decide) (by decide)) rfl (hI.iv2 (n := 39) (c := 0) (d := 7) g_a48 rfl (in_lt (iv_in (n := 39) i9 (by decide) (by decide))) (iv_nat1 i9 (by decide)) (iv_nat2 i9 (by decide) (by decide)) (by decide)) dX9_haven_69 (fun v49 e_v49 i_v49 => ?_)
              refine lv_iload hx hb dX9_haven_70 (lv_at hl 5 rfl) ?_
              have J82 : ∀ (M_82 : hM) (H : Heap) (locs : List Loc) (ls : Array Slot), kI D g σ e_h_haven_X9 M s.heap M_82 N R H locs → lv_has ls 7 [(0, .ref y), (1, .int p1), (2, .int p2), (3, .int v3_27), (4, .int v4_27), (5, .int v5_27)] → KV M_82 R y → CW M_82 R y → KK M_82 R y → W p l e (headSpec wsX9_haven ({ frames := 8, cells := 0, slots := 0, locals := 179 })).room s m ar below meth c H locs 0 0 Q (F0 m 82 ls []) := by
                intro M_82 H locs ls hI hl m_KV_82 m_CW_82 m_KK_82
                refine lv_aload_n hx hb dX9_haven_82 rfl (lv_at hl 0 rfl) ?_
                refine lv_iload_n hx hb dX9_haven_83 rfl (lv_at hl 1 rfl) ?_
                refine h_goi hI (by decide) (va_runV (As := [.int p1]) (rest := []) ⟨hx, hb, hml, hown, hts⟩ (h_outBehind_X9 l D g σ Z hZ0 M_82 N R y g_y p1 i9 m_KK_82 m_CW_82) (cwV 1 hts gX9_haven_X9_outBehind rfl rfl rfl (by decide +kernel) ⟨Nat.le_of_ble_eq_true rfl, Nat.le_of_ble_eq_true rfl⟩) (h_preV hZ0 hK hE hI g_y (by decide) rfl) rfl rfl hl.1 rfl (lv_room (Nat.le_of_ble_eq_true rfl)) dX9_haven_84 ⟨Nat.le_of_ble_eq_true rfl, Nat.le_of_ble_eq_true rfl⟩) (fun r50 M51 N52 R53 H locs q54 z_M51 hI => ?_)
                obtain ⟨rfl, rfl, i_r50, z55⟩ := q54
                refine lv_istore (lv' := [(6, .int r50), (0, .ref y), (1, .int p1), (2, .int p2), (3, .int v3_27), (4, .int v4_27), (5, .int v5_27)]) hx hb dX9_haven_87 hl (by decide) rfl (fun ls hl => ?_)
                refine lv_iload hx hb dX9_haven_89 (lv_at hl 0 rfl) ?_
                have J101 : ∀ (t0_101 : Int32) (H : Heap) (locs : List Loc) (ls : Array Slot), kI D g σ e_h_haven_X9 M s.heap M51 N R H locs → lv_has ls 7 [(0, .ref y), (1, .int p1), (2, .int p2), (3, .int v3_27), (4, .int v4_27), (5, .int v5_27)] → iv t0_101 0 99 → W p l e (headSpec wsX9_haven ({ frames := 8, cells := 0, slots := 0, locals := 179 })).room s m ar below meth c H locs 0 0 Q (F0 m 101 ls [.int t0_101]) := by
                  intro t0_101 H locs ls hI hl i_t0_101
                  refine lv_istore (lv' := [(6, .int t0_101), (0, .ref y), (1, .int p1), (2, .int p2), (3, .int v3_27), (4, .int v4_27), (5, .int v5_27)]) hx hb dX9_haven_101 hl (by decide) rfl (fun ls hl => ?_)
                  refine lv_iload_n hx hb dX9_haven_103 rfl (lv_at hl 4 rfl) ?_
                  have J117 : ∀ (H : Heap) (locs : List Loc) (ls : Array Slot), kI D g σ e_h_haven_X9 M s.heap M51 N R H locs → lv_has ls 7 [(0, .ref y), (1, .int p1), (2, .int p2), (5, .int v5_27), (6, .int t0_101)] → W p l e (headSpec wsX9_haven ({ frames := 8, cells := 0, slots := 0, locals := 179 })).room s m ar below meth c H locs 0 0 Q (F0 m 117 ls []) := by
                    intro H locs ls hI hl
                    refine lv_iload hx hb dX9_haven_117 (lv_at hl 3 rfl) ?_
                    refine lv_istore_n (lv' := [(3, .int v5_27), (0, .ref y), (1, .int p1), (2, .int p2), (5, .int v5_27), (6, .int t0_101)]) hx hb dX9_haven_119 rfl hl (by decide) rfl (fun ls hl => ?_)
                    refine lv_iload hx hb dX9_haven_120 (lv_at hl 5 rfl) ?_
                    refine lv_istore (lv' := [(4, .int t0_101), (3, .int v5_27), (0, .ref y), (1, .int p1), (2, .int p2), (5, .int v5_27), (6, .int t0_101)]) hx hb dX9_haven_122 hl (by decide) rfl (fun ls hl => ?_)
                    have m56 : CW M51 R y := (CW_ag hI.2.1 g_y m_CW_82 (hAd.ag z_M51 (by decide)))
                    exact J124 M51 v5_27 t0_101 H locs ls hI (lv_sub hl [2, 3, 4, 1, 0, 5] rfl) z55 m56 (iv_w (lo' := (-1)) (hi' := 7) i34 (by decide) (by decide)) i_t0_101
                  refine lv_if_lt (tgt := 117) hx hb dX9_haven_104 (by decide) (fun c57 => ?_) (fun c57 => ?_)
                  · have i58 : iv v3_27 (-1) (-1) := iv_lt1 c57 i_v3_27 kc_0 (by decide)
                    exact J117 H locs ls hI (lv_sub hl [1, 2, 3, 6, 0] rfl)
                  · have i59 : iv v3_27 0 7 := iv_nlt1 c57 i_v3_27 kc_0 (by decide)
                    refine lv_iload hx hb dX9_haven_107 (lv_at hl 0 rfl) ?_
                    refine lv_iload hx hb dX9_haven_109 (lv_at hl 5 rfl) ?_
                    refine lv_icmp_gt (tgt := 117) hx hb dX9_haven_111 (by decide) (fun c60 => ?_) (fun c60 => ?_)
                    · have i61 : iv v4_27 0 98 := iv_lt1 c60 i_v4_27 i_t0_101 (by decide)
                      have i62 : iv t0_101 1 99 := iv_lt2 c60 i_v4_27 i_t0_101 (by decide)
                      exact J117 H locs ls hI (lv_sub hl [1, 2, 3, 6, 0] rfl)
                    · refine lv_goto (tgt := 124) hx hb dX9_haven_114 (by decide) ?_
                      have m63 : CW M51 R y := (CW_ag hI.2.1 g_y m_CW_82 (hAd.ag z_M51 (by decide)))
                      exact J124 M51 v3_27 v4_27 H locs ls hI (lv_sub hl [1, 2, 3, 4, 5, 6] rfl) z55 m63 (iv_w (lo' := (-1)) (hi' := 7) i59 (by decide) (by decide)) i_v4_27
                refine lv_if_ge (tgt := 99) hx hb dX9_haven_91 (by decide) (fun c64 => ?_) (fun c64 => ?_)
                · have i65 : iv r50 0 99 := iv_le2 c64 kc_0 i_r50 (by decide)
                  refine lv_iload hx hb dX9_haven_99 (lv_at hl 0 rfl) ?_
                  exact J101 r50 H locs ls hI (lv_sub hl [1, 2, 3, 4, 5, 6] rfl) i65
                · have i66 : iv r50 (-1) (-1) := iv_nle2 c64 kc_0 i_r50 (by decide)
                  refine lv_bipush (v := 99) hx hb dX9_haven_94 (by decide) ?_
                  refine lv_goto (tgt := 101) hx hb dX9_haven_96 (by decide) ?_
                  exact J101 (99 : Int32) H locs ls hI (lv_sub hl [1, 2, 3, 4, 5, 6] rfl) (iv_w (lo' := 0) (hi' := 99) kc_99 (by decide) (by decide))
              refine lv_icmp_eq (tgt := 82) hx hb dX9_haven_72 (by decide) (fun c67 => ?_) (fun c67 => ?_)
              · have i68 : iv v49 0 7 := iv_eq1 c67 i_v49 i34
                have m69 : KV M42 R y := (KV_ag hI.2.1 g_y m_KV_27 (hAd.ag z_M42 (by decide)))
                have m70 : CW M42 R y := (CW_ag hI.2.1 g_y m_CW_27 (hAd.ag z_M42 (by decide)))
                exact J82 M42 H locs ls hI hl m69 m70 m47
              · refine lv_aload_n hx hb dX9_haven_75 rfl (lv_at hl 0 rfl) ?_
                refine lv_iload_n hx hb dX9_haven_76 rfl (lv_at hl 1 rfl) ?_
                refine lv_iload hx hb dX9_haven_77 (lv_at hl 5 rfl) ?_
                refine h_gov hI (by decide) (va_runV (As := [.int p1, .int v5_27]) (rest := []) ⟨hx, hb, hml, hown, hts⟩ (h_goIn_X9 l D g σ Z hZ0 M42 N R y g_y p1 i9 v5_27 (iv_w (lo' := (-1)) (hi' := 7) i34 (by decide) (by decide))) (cwV 2 hts gX9_haven_X9_goIn rfl rfl rfl (by decide +kernel) ⟨Nat.le_of_ble_eq_true rfl, Nat.le_of_ble_eq_true rfl⟩) (h_preV hZ0 hK hE hI g_y (by decide) rfl) rfl rfl hl.1 rfl (lv_room (Nat.le_of_ble_eq_true rfl)) dX9_haven_79 ⟨Nat.le_of_ble_eq_true rfl, Nat.le_of_ble_eq_true rfl⟩) (fun M72 N73 R74 H locs q75 z_M72 hI => ?_)
                obtain ⟨rfl, rfl, m76⟩ := q75
                have m77 : KV M72 R y := (m76 (KV_ag hI.2.1 g_y m_KV_27 (hAd.ag z_M42 (by decide))))
                have m78 : CW M72 R y := (CW_ag hI.2.1 g_y (CW_ag hI.2.1 g_y m_CW_27 (hAd.ag z_M42 (by decide))) (hAd.ag z_M72 (by decide)))
                have m79 : KK M72 R y := (KK_ag hI.2.1 g_y m47 (hAd.ag z_M72 (by decide)))
                exact J82 M72 H locs ls hI hl m77 m78 m79
            refine lv_if_lt (tgt := 58) hx hb dX9_haven_42 (by decide) (fun c80 => ?_) (fun c80 => ?_)
            · have i81 : iv r35 (-1) (-1) := iv_lt1 c80 i_r35 kc_0 (by decide)
              exact J58 H locs ls hI hl
            · have i82 : iv r35 0 6 := iv_nlt1 c80 i_r35 kc_0 (by decide)
              refine lv_aload_n hx hb dX9_haven_45 rfl (lv_at hl 0 rfl) ?_
              refine lv_iload hx hb dX9_haven_46 (lv_at hl 5 rfl) ?_
              refine h_goi hI (by decide) (va_runV (As := [.int v5_27]) (rest := []) ⟨hx, hb, hml, hown, hts⟩ (h_whoIn_X9 l D g σ Z hZ0 M_27 N R y g_y v5_27) (cwV 1 hts gX9_haven_X9_whoIn rfl rfl rfl (by decide +kernel) ⟨Nat.le_of_ble_eq_true rfl, Nat.le_of_ble_eq_true rfl⟩) (h_preV hZ0 hK hE hI g_y (by decide) rfl) rfl rfl hl.1 rfl (lv_room (Nat.le_of_ble_eq_true rfl)) dX9_haven_48 ⟨Nat.le_of_ble_eq_true rfl, Nat.le_of_ble_eq_true rfl⟩) (fun r83 M84 N85 R86 H locs q87 z_M84 hI => ?_)
              obtain ⟨rfl, rfl, rfl, i_r83⟩ := q87
              refine lv_iload_n hx hb dX9_haven_51 rfl (lv_at hl 1 rfl) ?_
              refine lv_icmp_eq (tgt := 58) hx hb dX9_haven_52 (by decide) (fun c88 => ?_) (fun c88 => ?_)
              · have i89 : iv r83 0 6 := iv_eq1 c88 i_r83 i9
                exact J58 H locs ls hI hl
              · refine lv_goto (tgt := 124) hx hb dX9_haven_55 (by decide) ?_
                exact J124 M_27 v3_27 v4_27 H locs ls hI hl m_KV_27 m_CW_27 i_v3_27 i_v4_27
      refine lv_istore (lv' := [(5, .int (0 : Int32)), (4, .int (0 : Int32)), (3, .int (-1 : Int32)), (0, .ref y), (1, .int p1), (2, .int p2)]) hx hb dX9_haven_25 hl (by decide) rfl (fun ls hl => ?_)
      exact J27 9 M (-1 : Int32) (0 : Int32) (0 : Int32) H locs ls hI (lv_sub hl [3, 4, 5, 2, 1, 0] rfl) m0_KV m0_CW (iv_w (lo' := (-1)) (hi' := 7) kc_m1 (by decide) (by decide)) (iv_w (lo' := 0) (hi' := 99) kc_0 (by decide) (by decide)) (iv_w (lo' := 0) (hi' := 8) kc_0 (by decide) (by decide)) (by have h9 := kc_0; simp only [iv] at h9; omega)
    · have i90 : iv r11 0 0 := iv_eq1 c17 i_r11 kc_0
      refine lv_iconst (v := (-1)) hx hb dX9_haven_17 (by decide) ?_
      exact h_iret hQ hx hb hr hlocks rfl hK hI ⟨rfl, rfl, (iv_w (lo' := (-1)) (hi' := 99) kc_m1 (by decide) (by decide)), m0_KV⟩ dX9_haven_18
abbrev e_h_will_X9 : List (Nat × Nat) := [(9, 41), (9, 42), (9, 43), (9, 44), (134, 999), (145, 999), (152, 999)]
set_option maxHeartbeats 4000000 in
set_option maxRecDepth 100000 in
theorem h_will_X9 (l : Launch) (D : va_G) (g : Nat → ClassId) (σ : Nat → Option Nat) (Z : State → Heap → Prop) (hZ0 : hZ σ Z) (M : hM) (N : hN) (R : hR) (y : Nat) (g_y : σ y = some 9) (p1 : Int32) (p2 : Int32) (p3 : Int32) (m0_KV : KV M R y) (m0_CW : CW M R y) (m0_HV : HV M R y) : Met l yX9_will wsX9_will ({ frames := 8, cells := 0, slots := 0, locals := 179 }) (va_Pc [.ref y, .int p1, .int p2, .int p3] (hPre D g σ Z M N R)) (hQi D g σ e_h_will_X9 M (fun (r : Int32) (M1 : hM) (N1 : hN) (R1 : hR) => N = N1 ∧ R = R1 ∧ iv r (-2) 7 ∧ (KV M1 R y))) 0 0 (hA σ) := by
  refine h_head (cc := cX9_will) (maxL := 6) (ret := (some .int)) (by decide) rfl (Nat.le_of_ble_eq_true rfl) e_h_will_X9 ?_
  intro p e s m below meth c ls Q ar hQ hx hb hr hlocks hml hown hts hK hE H locs hI hl
  have hown : s.vm.findClass RX9 = some m.cls := hown
  have hl : lv_has ls 6 [(0, .ref y), (1, .int p1), (2, .int p2), (3, .int p3)] := hl
  refine lv_aload_n hx hb dX9_will_0 rfl (lv_at hl 0 rfl) ?_
  refine lv_iload_n hx hb dX9_will_1 rfl (lv_at hl 1 rfl) ?_
  refine h_goi hI (by decide) (va_runV (As := [.int p1]) (rest := []) ⟨hx, hb, hml, hown, hts⟩ (h_isTenant_X9 l D g σ Z hZ0 M N R y g_y p1) (cwV 1 hts gX9_will_X9_isTenant rfl rfl rfl (by decide +kernel) ⟨Nat.le_of_ble_eq_true rfl, Nat.le_of_ble_eq_true rfl⟩) (h_preV hZ0 hK hE hI g_y (by decide) rfl) rfl rfl hl.1 rfl (lv_room (Nat.le_of_ble_eq_true rfl)) dX9_will_2 ⟨Nat.le_of_ble_eq_true rfl, Nat.le_of_ble_eq_true rfl⟩) (fun r1 M2 N3 R4 H locs q5 z_M2 hI => ?_)
  obtain ⟨rfl, rfl, rfl, i_r1, z6⟩ := q5
  refine lv_if_eq (tgt := 24) hx hb dX9_will_5 (by decide) (fun c7 => ?_) (fun c7 => ?_)
  · have i8 : iv r1 0 0 := iv_eq1 c7 i_r1 kc_0
    refine lv_bipush (v := (-2)) hx hb dX9_will_24 (by decide) ?_
    exact h_iret hQ hx hb hr hlocks rfl hK hI ⟨rfl, rfl, (iv_w (lo' := (-2)) (hi' := 7) kc_m2 (by decide) (by decide)), m0_KV⟩ dX9_will_26
  · have i9 : iv p1 0 6 := z6 c7
    have i10 : iv r1 1 1 := iv_neL c7 i_r1 (by decide) (by decide)
    refine lv_iload_n hx hb dX9_will_8 rfl (lv_at hl 2 rfl) ?_
    refine h_goi hI (by decide) (va_runS (As := [.int p2]) (rest := []) ⟨hx, hb, hml, hown, hts⟩ (h_isAhead_X9 l D g σ Z hZ0 M N R p2) (va_cwS 1 hts gX9_will_X9_isAhead rfl rfl rfl (by decide +kernel) ⟨Nat.le_of_ble_eq_true rfl, Nat.le_of_ble_eq_true rfl⟩) (h_preS hZ0 hK hE hI) rfl rfl hl.1 rfl (lv_room (Nat.le_of_ble_eq_true rfl)) dX9_will_9 ⟨Nat.le_of_ble_eq_true rfl, Nat.le_of_ble_eq_true rfl⟩) (fun r11 M12 N13 R14 H locs q15 z_M12 hI => ?_)
    obtain ⟨rfl, rfl, rfl, i_r11, z16⟩ := q15
    refine lv_if_eq (tgt := 24) hx hb dX9_will_12 (by decide) (fun c17 => ?_) (fun c17 => ?_)
    · have i18 : iv r11 0 0 := iv_eq1 c17 i_r11 kc_0
      refine lv_bipush (v := (-2)) hx hb dX9_will_24 (by decide) ?_
      exact h_iret hQ hx hb hr hlocks rfl hK hI ⟨rfl, rfl, (iv_w (lo' := (-2)) (hi' := 7) kc_m2 (by decide) (by decide)), m0_KV⟩ dX9_will_26
    · have i19 : iv p2 0 60 := z16 c17
      have i20 : iv r11 1 1 := iv_neL c17 i_r11 (by decide) (by decide)
      refine lv_iload_n hx hb dX9_will_15 rfl (lv_at hl 3 rfl) ?_
      refine lv_iconst (v := 0) hx hb dX9_will_16 (by decide) ?_
      refine lv_iconst (v := 1) hx hb dX9_will_17 (by decide) ?_
      refine h_goi hI (by decide) (va_runS (As := [.int p3, .int (0 : Int32), .int (1 : Int32)]) (rest := []) ⟨hx, hb, hml, hown, hts⟩ (h_isIn_X9 l D g σ Z hZ0 M N R p3 (0 : Int32) (1 : Int32)) (va_cwS 3 hts gX9_will_X9_isIn rfl rfl rfl (by decide +kernel) ⟨Nat.le_of_ble_eq_true rfl, Nat.le_of_ble_eq_true rfl⟩) (h_preS hZ0 hK hE hI) rfl rfl hl.1 rfl (lv_room (Nat.le_of_ble_eq_true rfl)) dX9_will_18 ⟨Nat.le_of_ble_eq_true rfl, Nat.le_of_ble_eq_true rfl⟩) (fun r21 M22 N23 R24 H locs q25 z_M22 hI => ?_)
      obtain ⟨rfl, rfl, rfl, i_r21, z26⟩ := q25
      refine lv_if_ne (tgt := 27) hx hb dX9_will_21 (by decide) (fun c27 => ?_) (fun c27 => ?_)
      · have i28 : iv p3 0 1 := (fun h9 => iv_isin (z26 h9) kc_0 kc_1) c27
        have i29 : iv r21 1 1 := iv_neL c27 i_r21 (by decide) (by decide)
        refine lv_aload_n hx hb dX9_will_27 rfl (lv_at hl 0 rfl) ?_
        refine h_gov hI (by decide) (va_runV (As := []) (rest := []) ⟨hx, hb, hml, hown, hts⟩ (h_keepNow_X9 l D g σ Z hZ0 M N R y g_y) (cwV 0 hts gX9_will_X9_keepNow rfl rfl rfl (by decide +kernel) ⟨Nat.le_of_ble_eq_true rfl, Nat.le_of_ble_eq_true rfl⟩) (h_preV hZ0 hK hE hI g_y (by decide) rfl) rfl rfl hl.1 rfl (lv_room (Nat.le_of_ble_eq_true rfl)) dX9_will_28 ⟨Nat.le_of_ble_eq_true rfl, Nat.le_of_ble_eq_true rfl⟩) (fun M31 N32 R33 H locs q34 z_M31 hI => ?_)
        obtain ⟨rfl, rfl, z35⟩ := q34
        have m36 : KK M31 R y := KK_of z35 hI.2.1 g_y m0_KV
        refine lv_iconst (v := 0) hx hb dX9_will_31 (by decide) ?_
        refine lv_istore (lv' := [(4, .int (0 : Int32)), (0, .ref y), (1, .int p1), (2, .int p2), (3, .int p3)]) hx hb dX9_will_32 hl (by decide) rfl (fun ls hl => ?_)
        refine lv_iconst (v := 0) hx hb dX9_will_34 (by decide) ?_
        have J37 : ∀ (n : Nat) (M_37 : hM) (v5_37 : Int32) (H : Heap) (locs : List Loc) (ls : Array Slot), kI D g σ e_h_will_X9 M s.heap M_37 N R H locs → lv_has ls 6 [(0, .ref y), (1, .int p1), (2, .int p2), (3, .int p3), (5, .int v5_37)] → KV M_37 R y → CW M_37 R y → HV M_37 R y → KK M_37 R y → iv v5_37 0 60 → 61 ≤ v5_37.toInt + (n : Int) → W p l e (headSpec wsX9_will ({ frames := 8, cells := 0, slots := 0, locals := 179 })).room s m ar below meth c H locs 0 0 Q (F0 m 37 ls []) := by
          intro n
          induction n with
          | zero => intro M_37 v5_37 H locs ls hI hl m_KV_37 m_CW_37 m_HV_37 m_KK_37 i_v5_37 hn; exfalso; have hz := i_v5_37; simp only [iv] at hz; omega
          | succ n ih37 =>
            intro M_37 v5_37 H locs ls hI hl m_KV_37 m_CW_37 m_HV_37 m_KK_37 i_v5_37 hn37
            refine lv_iload hx hb dX9_will_37 (lv_at hl 4 rfl) ?_
            refine lv_iload_n hx hb dX9_will_39 rfl (lv_at hl 2 rfl) ?_
            refine lv_icmp_ge (tgt := 67) hx hb dX9_will_40 (by decide) (fun c37 => ?_) (fun c37 => ?_)
            · refine lv_aload_n hx hb dX9_will_67 rfl (lv_at hl 0 rfl) ?_
              refine h_getr hx hb hts iX9_will_X9 hown hK hI g_y (by decide) rfl rfl 45 (by decide) rfl 145 rfl (hts (.fieldLink RX9 94 "CatLeasesModel" "all" "[I") (List.mem_of_getElem? (i := 1) rfl)) (fun _ h9 => h9) dX9_will_68 (fun a38 e_a38 g_a38 => ?_)
              refine lv_iconst (v := 0) hx hb dX9_will_71 (by decide) ?_
              refine lv_iload_n hx hb dX9_will_72 rfl (lv_at hl 1 rfl) ?_
              refine lv_iadd hx hb dX9_will_73 ?_
              refine k_top (v := p1) (Int32.zero_add _) ?_
              refine h_iald (j := p1.toNatClampNeg) (lo := (-1)) (hi := 7) hx hb hK hI g_a38 (by decide) rfl (iv_in (n := 39) i9 (by decide) (by decide)) rfl (hI.iv2 (n := 39) (c := 0) (d := 7) g_a38 rfl (in_lt (iv_in (n := 39) i9 (by decide) (by decide))) (iv_nat1 i9 (by decide)) (iv_nat2 i9 (by decide) (by decide)) (by decide)) dX9_will_74 (fun v39 e_v39 i_v39 => ?_)
              refine lv_istore (lv' := [(5, .int v39), (0, .ref y), (1, .int p1), (2, .int p2), (3, .int p3)]) hx hb dX9_will_75 hl (by decide) rfl (fun ls hl => ?_)
              refine lv_aload_n hx hb dX9_will_77 rfl (lv_at hl 1 rfl) ?_
              refine h_gov hI (by decide) (va_runV (As := []) (rest := []) ⟨hx, hb, hml, hown, hts⟩ (h_bringBack_X9 l D g σ Z hZ0 M_37 N R y g_y) (cwV 0 hts gX9_will_X9_bringBack rfl rfl rfl (by decide +kernel) ⟨Nat.le_of_ble_eq_true rfl, Nat.le_of_ble_eq_true rfl⟩) (h_preV hZ0 hK hE hI g_y (by decide) rfl) rfl rfl hl.1 rfl (lv_room (Nat.le_of_ble_eq_true rfl)) dX9_will_78 ⟨Nat.le_of_ble_eq_true rfl, Nat.le_of_ble_eq_true rfl⟩) (fun M41 N42 R43 H locs q44 z_M41 hI => ?_)
              obtain ⟨rfl, rfl, z45⟩ := q44
              have m46 : KV M41 R y := KV_of z45 hI.2.1 g_y m_KK_37
              refine lv_iload hx hb dX9_will_81 (lv_at hl 0 rfl) ?_
              exact h_iret hQ hx hb hr hlocks rfl hK hI ⟨rfl, rfl, (iv_w (lo' := (-2)) (hi' := 7) i_v39 (by decide) (by decide)), m46⟩ dX9_will_83
            · have i47 : iv p2 1 60 := iv_nle1 c37 i19 i_v5_37 (by decide)
              have i48 : iv v5_37 0 59 := iv_nle2 c37 i19 i_v5_37 (by decide)
              refine lv_iload_n hx hb dX9_will_43 rfl (lv_at hl 3 rfl) ?_
              refine lv_iconst (v := 1) hx hb dX9_will_44 (by decide) ?_
              have J59 : ∀ (M_59 : hM) (t0_59 : Int32) (H : Heap) (locs : List Loc) (ls : Array Slot), kI D g σ e_h_will_X9 M s.heap M_59 N R H locs → lv_has ls 6 [(0, .ref y), (1, .int p1), (2, .int p2), (3, .int p3), (5, .int v5_37)] → KV M_59 R y → CW M_59 R y → HV M_59 R y → KK M_59 R y → iv t0_59 0 127 → W p l e (headSpec wsX9_will ({ frames := 8, cells := 0, slots := 0, locals := 179 })).room s m ar below meth c H locs 0 0 Q (F0 m 59 ls [.int t0_59]) := by
                intro M_59 t0_59 H locs ls hI hl m_KV_59 m_CW_59 m_HV_59 m_KK_59 i_t0_59
                refine lv_istore (lv' := [(4, .int t0_59), (0, .ref y), (1, .int p1), (2, .int p2), (3, .int p3), (5, .int v5_37)]) hx hb dX9_will_59 hl (by decide) rfl (fun ls hl => ?_)
                obtain ⟨v49, e_v49⟩ : ∃ z : Int32, z = v5_37 + Int32.ofInt 1 := ⟨_, rfl⟩
                have i_v49 : iv v49 1 60 := by rw [e_v49]; exact iv_add i48 (ki_1) (by decide) (by decide) (by decide) (by decide)
                refine lv_iinc (v := v49) (lv' := [(5, .int v49), (4, .int t0_59), (0, .ref y), (1, .int p1), (2, .int p2), (3, .int p3)]) hx hb dX9_will_61 hl (k := 5) rfl e_v49.symm (by decide) rfl (fun ls hl => ?_)
                refine lv_goto (tgt := 37) hx hb dX9_will_64 (by decide) ?_
                exact ih37 M_59 v49 H locs ls hI (lv_sub hl [2, 3, 4, 5, 0] rfl) m_KV_59 m_CW_59 m_HV_59 m_KK_59 (iv_w (lo' := 0) (hi' := 60) i_v49 (by decide) (by decide)) (by have h9 := (h_inc e_v49 i48 ki_1 (by decide) (by decide)); omega)
              refine lv_icmp_ne (tgt := 55) hx hb dX9_will_45 (by decide) (fun c50 => ?_) (fun c50 => ?_)
              · have i51 : iv p3 0 0 := iv_neH c50 i28 (by decide) (by decide)
                refine lv_aload_n hx hb dX9_will_55 rfl (lv_at hl 0 rfl) ?_
                refine h_goi hI (by decide) (va_runV (As := []) (rest := []) ⟨hx, hb, hml, hown, hts⟩ (h_goQuarter_X9 l D g σ Z hZ0 M_37 N R y g_y m_CW_37) (cwV 0 hts gX9_will_X9_goQuarter rfl rfl rfl (by decide +kernel) ⟨Nat.le_of_ble_eq_true rfl, Nat.le_of_ble_eq_true rfl⟩) (h_preV hZ0 hK hE hI g_y (by decide) rfl) rfl rfl hl.1 rfl (lv_room (Nat.le_of_ble_eq_true rfl)) dX9_will_56 ⟨Nat.le_of_ble_eq_true rfl, Nat.le_of_ble_eq_true rfl⟩) (fun r52 M53 N54 R55 H locs q56 z_M53 hI => ?_)
                obtain ⟨rfl, rfl, i_r52, m57⟩ := q56
                have m58 : KV M53 R y := (m57 m_KV_37)
                have m59 : CW M53 R y := (CW_ag hI.2.1 g_y m_CW_37 (hAd.ag z_M53 (by decide)))
                have m60 : HV M53 R y := (HV_ag hI.2.1 g_y m_HV_37 (hAd.ag z_M53 (by decide)))
                have m61 : KK M53 R y := (KK_ag hI.2.1 g_y m_KK_37 (hAd.ag z_M53 (by decide)))
                exact J59 M53 r52 H locs ls hI hl m58 m59 m60 m61 i_r52
              · have i62 : iv p3 1 1 := iv_eq1 c50 i28 kc_1
                refine lv_aload_n hx hb dX9_will_48 rfl (lv_at hl 0 rfl) ?_
                refine h_goi hI (by decide) (va_runV (As := []) (rest := []) ⟨hx, hb, hml, hown, hts⟩ (h_goInEarnest_X9 l D g σ Z hZ0 M_37 N R y g_y m_KV_37 m_HV_37 m_CW_37) (cwV 0 hts gX9_will_X9_goInEarnest rfl rfl rfl (by decide +kernel) ⟨Nat.le_of_ble_eq_true rfl, Nat.le_of_ble_eq_true rfl⟩) (h_preV hZ0 hK hE hI g_y (by decide) rfl) rfl rfl hl.1 rfl (lv_room (Nat.le_of_ble_eq_true rfl)) dX9_will_49 ⟨Nat.le_of_ble_eq_true rfl, Nat.le_of_ble_eq_true rfl⟩) (fun r63 M64 N65 R66 H locs q67 z_M64 hI => ?_)
                obtain ⟨rfl, rfl, i_r63, m68⟩ := q67
                refine lv_goto (tgt := 59) hx hb dX9_will_52 (by decide) ?_
                have m69 : CW M64 R y := (CW_ag hI.2.1 g_y m_CW_37 (hAd.ag z_M64 (by decide)))
                have m70 : HV M64 R y := (HV_ag hI.2.1 g_y m_HV_37 (hAd.ag z_M64 (by decide)))
                have m71 : KK M64 R y := (KK_ag hI.2.1 g_y m_KK_37 (hAd.ag z_M64 (by decide)))
                exact J59 M64 r63 H locs ls hI hl m68 m69 m70 m71 i_r63
        refine lv_istore (lv' := [(5, .int (0 : Int32)), (4, .int (0 : Int32)), (0, .ref y), (1, .int p1), (2, .int p2), (3, .int p3)]) hx hb dX9_will_35 hl (by decide) rfl (fun ls hl => ?_)
        have m72 : KV M31 R y := (KV_ag hI.2.1 g_y m0_KV (hAd.ag z_M31 (by decide)))
        have m73 : CW M31 R y := (CW_ag hI.2.1 g_y m0_CW (hAd.ag z_M31 (by decide)))
        have m74 : HV M31 R y := (HV_ag hI.2.1 g_y m0_HV (hAd.ag z_M31 (by decide)))
        exact J37 61 M31 (0 : Int32) H locs ls hI (lv_sub hl [2, 3, 4, 5, 0] rfl) m72 m73 m74 m36 (iv_w (lo' := 0) (hi' := 60) kc_0 (by decide) (by decide)) (by have h9 := kc_0; simp only [iv] at h9; omega)
      · have i75 : iv r21 0 0 := iv_eq1 c27 i_r21 kc_0
        refine lv_bipush (v := (-2)) hx hb dX9_will_24 (by decide) ?_
        exact h_iret hQ hx hb hr hlocks rfl hK hI ⟨rfl, rfl, (iv_w (lo' := (-2)) (hi' := 7) kc_m2 (by decide) (by decide)), m0_KV⟩ dX9_will_26
abbrev e_h_keepAct_X9 : List (Nat × Nat) := [(9, 50), (9, 51), (149, 999)]
set_option maxHeartbeats 4000000 in
set_option maxRecDepth 100000 in
theorem h_keepAct_X9 (l : Launch) (D : va_G) (g : Nat → ClassId) (σ : Nat → Option Nat) (Z : State → Heap → Prop) (hZ0 : hZ σ Z) (M : hM) (N : hN) (R : hR) (y : Nat) (g_y : σ y = some 9) (m0_KV : KV M R y) (m0_WV : WV M R y) : Met l yX9_keepAct wsX9_keepAct ({ frames := 0, cells := 0, slots := 0, locals := 0 }) (va_Pc [.ref y] (hPre D g σ Z M N R)) (hQv D g σ e_h_keepAct_X9 M (fun (M1 : hM) (N1 : hN) (R1 : hR) => N = N1 ∧ R = R1 ∧ (WV M1 R y))) 0 0 (hA σ) := by
  refine h_head (cc := cX9_keepAct) (maxL := 2) (ret := none) (by decide) rfl (Nat.le_of_ble_eq_true rfl) e_h_keepAct_X9 ?_
  intro p e s m below meth c ls Q ar hQ hx hb hr hlocks hml hown hts hK hE H locs hI hl
  have hown : s.vm.findClass RX9 = some m.cls := hown
  have hl : lv_has ls 2 [(0, .ref y)] := hl
  refine lv_aload_n hx hb dX9_keepAct_0 rfl (lv_at hl 0 rfl) ?_
  refine h_geti (lo := 0) (hi := 40) hx hb hts iX9_keepAct_X9 hown hK hI g_y (by decide) rfl rfl 50 (by decide) rfl rfl (hts (.fieldLink RX9 398 "CatLeasesModel" "acts" "I") (List.mem_of_getElem? (i := 1) rfl)) (fun _ h9 => h9) dX9_keepAct_1 (fun v1 e_v1 i_v1 => ?_)
  refine lv_bipush (v := 40) hx hb dX9_keepAct_4 (by decide) ?_
  have J49 : ∀ (M_49 : hM) (u50_49 : Int32) (H : Heap) (locs : List Loc) (ls : Array Slot), kI D g σ e_h_keepAct_X9 M s.heap M_49 N R H locs → lv_has ls 2 [(0, .ref y)] → KV M_49 R y → u50_49 = M_49 y 50 → iv u50_49 0 39 → WVa M_49 R y u50_49.toInt → W p l e (headSpec wsX9_keepAct ({ frames := 0, cells := 0, slots := 0, locals := 0 })).room s m ar below meth c H locs 0 0 Q (F0 m 49 ls []) := by
    intro M_49 u50_49 H locs ls hI hl m_KV_49 e_u50_49 i_u50_49 hw_49
    refine lv_iconst (v := 0) hx hb dX9_keepAct_49 (by decide) ?_
    have J51 : ∀ (n : Nat) (M_51 : hM) (v1_51 : Int32) (H : Heap) (locs : List Loc) (ls : Array Slot), kI D g σ e_h_keepAct_X9 M s.heap M_51 N R H locs → lv_has ls 2 [(0, .ref y), (1, .int v1_51)] → u50_49 = M_51 y 50 → KV M_51 R y → iv v1_51 0 39 → CPI M_49 M_51 (R y 49) (39 * u50_49.toNatClampNeg) (R y 45) 0 v1_51.toNatClampNeg → 40 ≤ v1_51.toInt + (n : Int) → W p l e (headSpec wsX9_keepAct ({ frames := 0, cells := 0, slots := 0, locals := 0 })).room s m ar below meth c H locs 0 0 Q (F0 m 51 ls []) := by
      intro n
      induction n with
      | zero => intro M_51 v1_51 H locs ls hI hl k0_51 m_KV_51 i_v1_51 hcp_51 hn; exfalso; have hz := i_v1_51; simp only [iv] at hz; omega
      | succ n ih51 =>
        intro M_51 v1_51 H locs ls hI hl k0_51 m_KV_51 i_v1_51 hcp_51 hn51
        refine lv_iload_n hx hb dX9_keepAct_51 rfl (lv_at hl 1 rfl) ?_
        refine lv_bipush (v := 39) hx hb dX9_keepAct_52 (by decide) ?_
        refine lv_icmp_ge (tgt := 83) hx hb dX9_keepAct_54 (by decide) (fun c2 => ?_) (fun c2 => ?_)
        · have i3 : iv v1_51 39 39 := iv_le2 c2 kc_39 i_v1_51 (by decide)
          refine lv_aload_n hx hb dX9_keepAct_83 rfl (lv_at hl 0 rfl) ?_
          refine lv_dup hx hb dX9_keepAct_84 rfl ?_
          refine h_geti (lo := 0) (hi := 40) hx hb hts iX9_keepAct_X9 hown hK hI g_y (by decide) rfl rfl 50 (by decide) rfl rfl (hts (.fieldLink RX9 398 "CatLeasesModel" "acts" "I") (List.mem_of_getElem? (i := 1) rfl)) (fun _ h9 => h9) dX9_keepAct_85 (fun v4 e_v4 i_v4 => ?_)
          have q5 : u50_49 = v4 := (k0_51).trans e_v4.symm
          subst q5
          refine lv_iconst (v := 1) hx hb dX9_keepAct_88 (by decide) ?_
          refine lv_iadd hx hb dX9_keepAct_89 ?_
          refine h_nm (lo := 1) (hi := 40) (iv_add i_u50_49 kc_1 (by decide) (by decide) (by decide) (by decide)) (fun v6 e_v6 i_v6 => ?_)
          refine h_puti hx hb hts iX9_keepAct_X9 tyX9 tyX9_ok nmX9 hown hK hI g_y (by decide) rfl rfl 50 (by decide) rfl (hts (.fieldLink RX9 398 "CatLeasesModel" "acts" "I") (List.mem_of_getElem? (i := 1) rfl)) (fun _ h9 => h9) rfl .int (by decide +kernel) rfl rfl (iv_w (lo' := 0) (hi' := 40) i_v6 (by decide) (by decide)) rfl dX9_keepAct_90 (fun M7 H locs e_M7 hI => ?_)
          refine lv_aload_n hx hb dX9_keepAct_93 rfl (lv_at hl 0 rfl) ?_
          refine lv_iconst (v := 0) hx hb dX9_keepAct_94 (by decide) ?_
          refine h_puti hx hb hts iX9_keepAct_X9 tyX9 tyX9_ok nmX9 hown hK hI g_y (by decide) rfl rfl 51 (by decide) rfl (hts (.fieldLink RX9 401 "CatLeasesModel" "undone" "I") (List.mem_of_getElem? (i := 4) rfl)) (fun _ h9 => h9) rfl .int (by decide +kernel) rfl rfl (iv_w (lo' := 0) (hi' := 40) kc_0 (by decide) (by decide)) rfl dX9_keepAct_95 (fun M8 H locs e_M8 hI => ?_)
          exact h_vret hQ hx hb hr hlocks hK hI ⟨rfl, rfl, (WV_end (WVa_ag hI.2.1 g_y (WVa_ag hI.2.1 g_y (WV_push (cp_end hcp_51 i3) hI.2.1 g_y hw_49 (iv_nN i_u50_49 (by decide)).symm m_KV_49) (hAd.put e_M7 g_y rfl)) (hAd.put e_M8 g_y rfl)) e_M7 e_M8 rfl (h_inc e_v6 i_u50_49 kc_1 (by decide) (by decide)) i_u50_49)⟩ dX9_keepAct_98
        · have i9 : iv v1_51 0 38 := iv_nle2 c2 kc_39 i_v1_51 (by decide)
          refine lv_aload_n hx hb dX9_keepAct_57 rfl (lv_at hl 0 rfl) ?_
          refine h_getr hx hb hts iX9_keepAct_X9 hown hK hI g_y (by decide) rfl rfl 49 (by decide) rfl 149 rfl (hts (.fieldLink RX9 106 "CatLeasesModel" "was" "[I") (List.mem_of_getElem? (i := 2) rfl)) (fun _ h9 => h9) dX9_keepAct_58 (fun a10 e_a10 g_a10 => ?_)
          refine lv_bipush (v := 39) hx hb dX9_keepAct_61 (by decide) ?_
          refine lv_aload_n hx hb dX9_keepAct_63 rfl (lv_at hl 0 rfl) ?_
          refine h_geti (lo := 0) (hi := 40) hx hb hts iX9_keepAct_X9 hown hK hI g_y (by decide) rfl rfl 50 (by decide) rfl rfl (hts (.fieldLink RX9 398 "CatLeasesModel" "acts" "I") (List.mem_of_getElem? (i := 1) rfl)) (fun _ h9 => h9) dX9_keepAct_64 (fun v11 e_v11 i_v11 => ?_)
          have q12 : u50_49 = v11 := (k0_51).trans e_v11.symm
          subst q12
          refine lv_imul hx hb dX9_keepAct_67 ?_
          refine h_nm (lo := 0) (hi := 1521) (iv_mul kc_39 i_u50_49 (by decide) (by decide) (by decide) (by decide) (by decide)) (fun v13 e_v13 i_v13 => ?_)
          refine lv_iload_n hx hb dX9_keepAct_68 rfl (lv_at hl 1 rfl) ?_
          refine lv_iadd hx hb dX9_keepAct_69 ?_
          refine h_nm (lo := 0) (hi := 1559) (iv_add i_v13 i9 (by decide) (by decide) (by decide) (by decide)) (fun v14 e_v14 i_v14 => ?_)
          refine lv_aload_n hx hb dX9_keepAct_70 rfl (lv_at hl 0 rfl) ?_
          refine h_getr hx hb hts iX9_keepAct_X9 hown hK hI g_y (by decide) rfl rfl 45 (by decide) rfl 145 rfl (hts (.fieldLink RX9 94 "CatLeasesModel" "all" "[I") (List.mem_of_getElem? (i := 3) rfl)) (fun _ h9 => h9) dX9_keepAct_71 (fun a15 e_a15 g_a15 => ?_)
          refine lv_iload_n hx hb dX9_keepAct_74 rfl (lv_at hl 1 rfl) ?_
          refine h_iald (j := v1_51.toNatClampNeg) (lo := (-2147483648)) (hi := 2147483647) hx hb hK hI g_a15 (by decide) rfl (iv_in (n := 39) i9 (by decide) (by decide)) rfl (iv_any _) dX9_keepAct_75 (fun v16 e_v16 i_v16 => ?_)
          refine h_iast (j := v14.toNatClampNeg) hx hb hK hI g_a10 (by decide) rfl (iv_in (n := 1599) i_v14 (by decide) (by decide)) rfl (iv_cp (s := 145) (s1 := 149) hI.2.1 g_a15 (in_lt (iv_in (n := 39) i9 (by decide) (by decide))) e_v16 (by decide) (by decide) (by have h9 := mul_at (n := 39) (m := 39) (hi := 38) (by decide) i_u50_49 e_v13 e_v14 i9 (by decide) (by decide) (by decide) (by decide); omega)) rfl dX9_keepAct_76 (fun M17 H locs e_M17 hI => ?_)
          obtain ⟨v18, e_v18⟩ : ∃ z : Int32, z = v1_51 + Int32.ofInt 1 := ⟨_, rfl⟩
          have i_v18 : iv v18 1 39 := by rw [e_v18]; exact iv_add i9 (ki_1) (by decide) (by decide) (by decide) (by decide)
          refine lv_iinc (v := v18) (lv' := [(1, .int v18), (0, .ref y)]) hx hb dX9_keepAct_77 hl (k := 1) rfl e_v18.symm (by decide) rfl (fun ls hl => ?_)
          refine lv_goto (tgt := 51) hx hb dX9_keepAct_80 (by decide) ?_
          have m19 : KV M17 R y := (KV_ag hI.2.1 g_y m_KV_51 (hAd.put e_M17 g_a10 rfl))
          exact ih51 M17 v18 H locs ls hI (lv_sub hl [1, 0] rfl) ((k0_51).trans (u2_st (a := y) (k := 50) e_M17 (u2_a (so_ne g_y g_a10 (by decide)))).symm) m19 (iv_w (lo' := 0) (hi' := 39) i_v18 (by decide) (by decide)) (CPI_step (v := v16) (ix := v14.toNatClampNeg) (iy := v1_51.toNatClampNeg) hcp_51 (by rw [e_M17, e_a10]) (by rw [e_v16, e_a15]) (by have h9 := mul_at (n := 39) (m := 39) (hi := 38) (by decide) i_u50_49 e_v13 e_v14 i9 (by decide) (by decide) (by decide) (by decide); omega) (Nat.zero_add _).symm (k_inc1 e_v18 i9 (by decide)) (fun q => so_ne (hI.2.1.r1 g_y 45 145 (by decide) rfl) (hI.2.1.r1 g_y 49 149 (by decide) rfl) (by decide) q.1)) (by have h9 := (h_inc e_v18 i9 ki_1 (by decide) (by decide)); omega)
    refine lv_istore_n (lv' := [(1, .int (0 : Int32)), (0, .ref y)]) hx hb dX9_keepAct_50 rfl hl (by decide) rfl (fun ls hl => ?_)
    exact J51 40 M_49 (0 : Int32) H locs ls hI (lv_sub hl [1, 0] rfl) (e_u50_49) m_KV_49 (iv_w (lo' := 0) (hi' := 39) kc_0 (by decide) (by decide)) CPI_0 (by have h9 := kc_0; simp only [iv] at h9; omega)
  refine lv_icmp_ne (tgt := 49) hx hb dX9_keepAct_6 (by decide) (fun c20 => ?_) (fun c20 => ?_)
  · have i21 : iv v1 0 39 := iv_neH c20 i_v1 (by decide) (by decide)
    have un9 := hI.iv1 (a := y) (j := 51) (lo := 0) (hi := 40) (n := 67) g_y rfl (by decide) rfl
    exact J49 M v1 H locs ls hI hl m0_KV (e_v1) i21 (WVa_le m0_WV.1 (by rw [(e_v1)]; have h9 := un9.1; omega))
  · have i22 : iv v1 40 40 := iv_eq1 c20 i_v1 kc_40
    have un40 : (40 : Int) ≤ (M y 50).toInt + (M y 51).toInt := by have h8 := i22; have h7 := (hI.iv1 (a := y) (j := 51) (lo := 0) (hi := 40) (n := 67) g_y rfl (by decide) rfl).1; have h6 := (e_v1); rw [h6] at h8; simp only [iv] at h8; omega
    refine lv_iconst (v := 0) hx hb dX9_keepAct_9 (by decide) ?_
    have J11 : ∀ (n : Nat) (M_11 : hM) (v1_11 : Int32) (H : Heap) (locs : List Loc) (ls : Array Slot), kI D g σ e_h_keepAct_X9 M s.heap M_11 N R H locs → lv_has ls 2 [(0, .ref y), (1, .int v1_11)] → v1 = M_11 y 50 → KV M_11 R y → iv v1_11 0 1560 → CPI M M_11 (R y 49) 0 (R y 49) 39 v1_11.toNatClampNeg → 1561 ≤ v1_11.toInt + (n : Int) → W p l e (headSpec wsX9_keepAct ({ frames := 0, cells := 0, slots := 0, locals := 0 })).room s m ar below meth c H locs 0 0 Q (F0 m 11 ls []) := by
      intro n
      induction n with
      | zero => intro M_11 v1_11 H locs ls hI hl k0_11 m_KV_11 i_v1_11 hcp_11 hn; exfalso; have hz := i_v1_11; simp only [iv] at hz; omega
      | succ n ih11 =>
        intro M_11 v1_11 H locs ls hI hl k0_11 m_KV_11 i_v1_11 hcp_11 hn11
        refine lv_iload_n hx hb dX9_keepAct_11 rfl (lv_at hl 1 rfl) ?_
        refine lv_sipush (v := 1560) hx hb dX9_keepAct_12 (by decide) ?_
        refine lv_icmp_ge (tgt := 39) hx hb dX9_keepAct_15 (by decide) (fun c23 => ?_) (fun c23 => ?_)
        · have i24 : iv v1_11 1560 1560 := iv_le2 c23 kc_1560 i_v1_11 (by decide)
          refine lv_aload_n hx hb dX9_keepAct_39 rfl (lv_at hl 0 rfl) ?_
          refine lv_dup hx hb dX9_keepAct_40 rfl ?_
          refine h_geti (lo := 0) (hi := 40) hx hb hts iX9_keepAct_X9 hown hK hI g_y (by decide) rfl rfl 50 (by decide) rfl rfl (hts (.fieldLink RX9 398 "CatLeasesModel" "acts" "I") (List.mem_of_getElem? (i := 1) rfl)) (fun _ h9 => h9) dX9_keepAct_41 (fun v25 e_v25 i_v25 => ?_)
          have q26 : v1 = v25 := (k0_11).trans e_v25.symm
          subst q26
          refine lv_iconst (v := 1) hx hb dX9_keepAct_44 (by decide) ?_
          refine lv_isub hx hb dX9_keepAct_45 ?_
          refine h_nm (lo := 39) (hi := 39) (iv_sub i22 kc_1 (by decide) (by decide) (by decide) (by decide)) (fun v27 e_v27 i_v27 => ?_)
          refine h_puti hx hb hts iX9_keepAct_X9 tyX9 tyX9_ok nmX9 hown hK hI g_y (by decide) rfl rfl 50 (by decide) rfl (hts (.fieldLink RX9 398 "CatLeasesModel" "acts" "I") (List.mem_of_getElem? (i := 1) rfl)) (fun _ h9 => h9) rfl .int (by decide +kernel) rfl rfl (iv_w (lo' := 0) (hi' := 40) i_v27 (by decide) (by decide)) rfl dX9_keepAct_46 (fun M28 H locs e_M28 hI => ?_)
          have m29 : KV M28 R y := (KV_ag hI.2.1 g_y m_KV_11 (hAd.put e_M28 g_y rfl))
          exact J49 M28 v27 H locs ls hI (lv_sub hl [0] rfl) m29 ((u2_wr e_M28)) (iv_w (lo' := 0) (hi' := 39) i_v27 (by decide) (by decide)) (by have h9 := WVa_ag hI.2.1 g_y (WV_shift (cp_endn (n := 1560) hcp_11 i24) hI.2.1 g_y (show WVa M R y 40 from WVa_le m0_WV.1 (by have h9 := un40; omega))) (hAd.put e_M28 g_y rfl); exact WVa_le h9 (by have h8 := i_v27; simp only [iv] at h8; omega))
        · have i30 : iv v1_11 0 1559 := iv_nle2 c23 kc_1560 i_v1_11 (by decide)
          refine lv_aload_n hx hb dX9_keepAct_18 rfl (lv_at hl 0 rfl) ?_
          refine h_getr hx hb hts iX9_keepAct_X9 hown hK hI g_y (by decide) rfl rfl 49 (by decide) rfl 149 rfl (hts (.fieldLink RX9 106 "CatLeasesModel" "was" "[I") (List.mem_of_getElem? (i := 2) rfl)) (fun _ h9 => h9) dX9_keepAct_19 (fun a31 e_a31 g_a31 => ?_)
          refine lv_iload_n hx hb dX9_keepAct_22 rfl (lv_at hl 1 rfl) ?_
          refine lv_aload_n hx hb dX9_keepAct_23 rfl (lv_at hl 0 rfl) ?_
          refine h_getr hx hb hts iX9_keepAct_X9 hown hK hI g_y (by decide) rfl rfl 49 (by decide) rfl 149 rfl (hts (.fieldLink RX9 106 "CatLeasesModel" "was" "[I") (List.mem_of_getElem? (i := 2) rfl)) (fun _ h9 => h9) dX9_keepAct_24 (fun a32 e_a32 g_a32 => ?_)
          have q33 : a31 = a32 := (e_a31).trans e_a32.symm
          subst q33
          refine lv_iload_n hx hb dX9_keepAct_27 rfl (lv_at hl 1 rfl) ?_
          refine lv_bipush (v := 39) hx hb dX9_keepAct_28 (by decide) ?_
          refine lv_iadd hx hb dX9_keepAct_30 ?_
          refine h_nm (lo := 39) (hi := 1598) (iv_add i30 kc_39 (by decide) (by decide) (by decide) (by decide)) (fun v34 e_v34 i_v34 => ?_)
          refine h_iald (j := v34.toNatClampNeg) (lo := (-2147483648)) (hi := 2147483647) hx hb hK hI g_a31 (by decide) rfl (iv_in (n := 1599) i_v34 (by decide) (by decide)) rfl (iv_any _) dX9_keepAct_31 (fun v35 e_v35 i_v35 => ?_)
          refine h_iast (j := v1_11.toNatClampNeg) hx hb hK hI g_a31 (by decide) rfl (iv_in (n := 1599) i30 (by decide) (by decide)) rfl (iv_cp (s := 149) (s1 := 149) hI.2.1 g_a31 (in_lt (iv_in (n := 1599) i_v34 (by decide) (by decide))) e_v35 (by decide) (by decide) (by have h9 := add_at (n := 39) e_v34 i30 kc_39 (by decide); omega)) rfl dX9_keepAct_32 (fun M36 H locs e_M36 hI => ?_)
          obtain ⟨v37, e_v37⟩ : ∃ z : Int32, z = v1_11 + Int32.ofInt 1 := ⟨_, rfl⟩
          have i_v37 : iv v37 1 1560 := by rw [e_v37]; exact iv_add i30 (ki_1) (by decide) (by decide) (by decide) (by decide)
          refine lv_iinc (v := v37) (lv' := [(1, .int v37), (0, .ref y)]) hx hb dX9_keepAct_33 hl (k := 1) rfl e_v37.symm (by decide) rfl (fun ls hl => ?_)
          refine lv_goto (tgt := 11) hx hb dX9_keepAct_36 (by decide) ?_
          have m38 : KV M36 R y := (KV_ag hI.2.1 g_y m_KV_11 (hAd.put e_M36 g_a31 rfl))
          exact ih11 M36 v37 H locs ls hI (lv_sub hl [1, 0] rfl) ((k0_11).trans (u2_st (a := y) (k := 50) e_M36 (u2_a (so_ne g_y g_a31 (by decide)))).symm) m38 (iv_w (lo' := 0) (hi' := 1560) i_v37 (by decide) (by decide)) (CPI_step (v := v35) (ix := v1_11.toNatClampNeg) (iy := v34.toNatClampNeg) hcp_11 (by rw [e_M36, e_a31]) (by rw [e_v35, e_a31]) (Nat.zero_add _).symm (add_at (n := 39) e_v34 i30 kc_39 (by decide)) (k_inc1 e_v37 i30 (by decide)) (fun q => by omega)) (by have h9 := (h_inc e_v37 i30 ki_1 (by decide) (by decide)); omega)
    refine lv_istore_n (lv' := [(1, .int (0 : Int32)), (0, .ref y)]) hx hb dX9_keepAct_10 rfl hl (by decide) rfl (fun ls hl => ?_)
    exact J11 1561 M (0 : Int32) H locs ls hI (lv_sub hl [1, 0] rfl) (e_v1) m0_KV (iv_w (lo' := 0) (hi' := 1560) kc_0 (by decide) (by decide)) CPI_0 (by have h9 := kc_0; simp only [iv] at h9; omega)
abbrev e_h_swapAll_X9 : List (Nat × Nat) := [(145, 999), (149, 999)]
set_option maxHeartbeats 4000000 in
set_option maxRecDepth 100000 in
theorem h_swapAll_X9 (l : Launch) (D : va_G) (g : Nat → ClassId) (σ : Nat → Option Nat) (Z : State → Heap → Prop) (hZ0 : hZ σ Z) (M : hM) (N : hN) (R : hR) (y : Nat) (g_y : σ y = some 9) : Met l yX9_swapAll wsX9_swapAll ({ frames := 0, cells := 0, slots := 0, locals := 0 }) (va_Pc [.ref y] (hPre D g σ Z M N R)) (hQv D g σ e_h_swapAll_X9 M (fun (M1 : hM) (N1 : hN) (R1 : hR) => N = N1 ∧ R = R1 ∧ (SWI M M1 R y (M y 50).toNatClampNeg 39))) 0 0 (hA σ) := by
  refine h_head (cc := cX9_swapAll) (maxL := 3) (ret := none) (by decide) rfl (Nat.le_of_ble_eq_true rfl) e_h_swapAll_X9 ?_
  intro p e s m below meth c ls Q ar hQ hx hb hr hlocks hml hown hts hK hE H locs hI hl
  have hown : s.vm.findClass RX9 = some m.cls := hown
  have hl : lv_has ls 3 [(0, .ref y)] := hl
  refine lv_iconst (v := 0) hx hb dX9_swapAll_0 (by decide) ?_
  have J2 : ∀ (n : Nat) (M_2 : hM) (u50_2 : Int32) (v1_2 : Int32) (H : Heap) (locs : List Loc) (ls : Array Slot), kI D g σ e_h_swapAll_X9 M s.heap M_2 N R H locs → lv_has ls 3 [(0, .ref y), (1, .int v1_2)] → u50_2 = M_2 y 50 → iv u50_2 0 40 → iv v1_2 0 39 → u50_2 = M y 50 → SWI M M_2 R y (M y 50).toNatClampNeg v1_2.toNatClampNeg → 40 ≤ v1_2.toInt + (n : Int) → W p l e (headSpec wsX9_swapAll ({ frames := 0, cells := 0, slots := 0, locals := 0 })).room s m ar below meth c H locs 0 0 Q (F0 m 2 ls []) := by
    intro n
    induction n with
    | zero => intro M_2 u50_2 v1_2 H locs ls hI hl e_u50_2 i_u50_2 i_v1_2 sa_2 hsw_2 hn; exfalso; have hz := i_v1_2; simp only [iv] at hz; omega
    | succ n ih2 =>
      intro M_2 u50_2 v1_2 H locs ls hI hl e_u50_2 i_u50_2 i_v1_2 sa_2 hsw_2 hn2
      refine lv_iload_n hx hb dX9_swapAll_2 rfl (lv_at hl 1 rfl) ?_
      refine lv_bipush (v := 39) hx hb dX9_swapAll_3 (by decide) ?_
      refine lv_icmp_ge (tgt := 56) hx hb dX9_swapAll_5 (by decide) (fun c1 => ?_) (fun c1 => ?_)
      · have i2 : iv v1_2 39 39 := iv_le2 c1 kc_39 i_v1_2 (by decide)
        exact h_vret hQ hx hb hr hlocks hK hI ⟨rfl, rfl, (SW_end hsw_2 i2)⟩ dX9_swapAll_56
      · have i3 : iv v1_2 0 38 := iv_nle2 c1 kc_39 i_v1_2 (by decide)
        refine lv_aload_n hx hb dX9_swapAll_8 rfl (lv_at hl 0 rfl) ?_
        refine h_getr hx hb hts iX9_swapAll_X9 hown hK hI g_y (by decide) rfl rfl 49 (by decide) rfl 149 rfl (hts (.fieldLink RX9 106 "CatLeasesModel" "was" "[I") (List.mem_of_getElem? (i := 1) rfl)) (fun _ h9 => h9) dX9_swapAll_9 (fun a4 e_a4 g_a4 => ?_)
        refine lv_bipush (v := 39) hx hb dX9_swapAll_12 (by decide) ?_
        refine lv_aload_n hx hb dX9_swapAll_14 rfl (lv_at hl 0 rfl) ?_
        refine h_geti (lo := 0) (hi := 40) hx hb hts iX9_swapAll_X9 hown hK hI g_y (by decide) rfl rfl 50 (by decide) rfl rfl (hts (.fieldLink RX9 398 "CatLeasesModel" "acts" "I") (List.mem_of_getElem? (i := 2) rfl)) (fun _ h9 => h9) dX9_swapAll_15 (fun v5 e_v5 i_v5 => ?_)
        have q6 : u50_2 = v5 := (e_u50_2).trans e_v5.symm
        subst q6
        refine lv_imul hx hb dX9_swapAll_18 ?_
        refine h_nm (lo := 0) (hi := 1560) (iv_mul kc_39 i_u50_2 (by decide) (by decide) (by decide) (by decide) (by decide)) (fun v7 e_v7 i_v7 => ?_)
        refine lv_iload_n hx hb dX9_swapAll_19 rfl (lv_at hl 1 rfl) ?_
        refine lv_iadd hx hb dX9_swapAll_20 ?_
        refine h_nm (lo := 0) (hi := 1598) (iv_add i_v7 i3 (by decide) (by decide) (by decide) (by decide)) (fun v8 e_v8 i_v8 => ?_)
        refine h_iald (j := v8.toNatClampNeg) (lo := (-2147483648)) (hi := 2147483647) hx hb hK hI g_a4 (by decide) rfl (iv_in (n := 1599) i_v8 (by decide) (by decide)) rfl (iv_any _) dX9_swapAll_21 (fun v9 e_v9 i_v9 => ?_)
        have tv9 : iv v9 (ti 145 v1_2.toNatClampNeg).1 (ti 145 v1_2.toNatClampNeg).2 := iv_cp (s := 149) hI.2.1 g_a4 (in_lt (iv_in (n := 1599) i_v8 (by decide) (by decide))) e_v9 (by decide) (by decide) (by have h9 := mul_at (n := 39) (m := 40) (hi := 38) (by decide) i_u50_2 e_v7 e_v8 i3 (by decide) (by decide) (by decide) (by decide); omega)
        refine lv_istore_n (lv' := [(2, .int v9), (0, .ref y), (1, .int v1_2)]) hx hb dX9_swapAll_22 rfl hl (by decide) rfl (fun ls hl => ?_)
        refine lv_aload_n hx hb dX9_swapAll_23 rfl (lv_at hl 1 rfl) ?_
        refine h_getr hx hb hts iX9_swapAll_X9 hown hK hI g_y (by decide) rfl rfl 49 (by decide) rfl 149 rfl (hts (.fieldLink RX9 106 "CatLeasesModel" "was" "[I") (List.mem_of_getElem? (i := 1) rfl)) (fun _ h9 => h9) dX9_swapAll_24 (fun a10 e_a10 g_a10 => ?_)
        have q11 : a4 = a10 := (e_a4).trans e_a10.symm
        subst q11
        refine lv_bipush (v := 39) hx hb dX9_swapAll_27 (by decide) ?_
        refine lv_aload_n hx hb dX9_swapAll_29 rfl (lv_at hl 1 rfl) ?_
        refine h_geti (lo := 0) (hi := 40) hx hb hts iX9_swapAll_X9 hown hK hI g_y (by decide) rfl rfl 50 (by decide) rfl rfl (hts (.fieldLink RX9 398 "CatLeasesModel" "acts" "I") (List.mem_of_getElem? (i := 2) rfl)) (fun _ h9 => h9) dX9_swapAll_30 (fun v12 e_v12 i_v12 => ?_)
        have q13 : u50_2 = v12 := (e_u50_2).trans e_v12.symm
        subst q13
        refine lv_imul hx hb dX9_swapAll_33 ?_
        refine h_nm (lo := 0) (hi := 1560) (iv_mul kc_39 i_u50_2 (by decide) (by decide) (by decide) (by decide) (by decide)) (fun v14 e_v14 i_v14 => ?_)
        have q15 : v7 = v14 := e_v7.trans e_v14.symm
        subst q15
        refine lv_iload_n hx hb dX9_swapAll_34 rfl (lv_at hl 2 rfl) ?_
        refine lv_iadd hx hb dX9_swapAll_35 ?_
        refine h_nm (lo := 0) (hi := 1598) (iv_add i_v7 i3 (by decide) (by decide) (by decide) (by decide)) (fun v16 e_v16 i_v16 => ?_)
        have q17 : v8 = v16 := e_v8.trans e_v16.symm
        subst q17
        refine lv_aload_n hx hb dX9_swapAll_36 rfl (lv_at hl 1 rfl) ?_
        refine h_getr hx hb hts iX9_swapAll_X9 hown hK hI g_y (by decide) rfl rfl 45 (by decide) rfl 145 rfl (hts (.fieldLink RX9 94 "CatLeasesModel" "all" "[I") (List.mem_of_getElem? (i := 3) rfl)) (fun _ h9 => h9) dX9_swapAll_37 (fun a18 e_a18 g_a18 => ?_)
        refine lv_iload_n hx hb dX9_swapAll_40 rfl (lv_at hl 2 rfl) ?_
        refine h_iald (j := v1_2.toNatClampNeg) (lo := (-2147483648)) (hi := 2147483647) hx hb hK hI g_a18 (by decide) rfl (iv_in (n := 39) i3 (by decide) (by decide)) rfl (iv_any _) dX9_swapAll_41 (fun v19 e_v19 i_v19 => ?_)
        refine h_iast (j := v8.toNatClampNeg) hx hb hK hI g_a4 (by decide) rfl (iv_in (n := 1599) i_v8 (by decide) (by decide)) rfl (iv_cp (s := 145) (s1 := 149) hI.2.1 g_a18 (in_lt (iv_in (n := 39) i3 (by decide) (by decide))) e_v19 (by decide) (by decide) (by have h9 := mul_at (n := 39) (m := 40) (hi := 38) (by decide) i_u50_2 e_v7 e_v8 i3 (by decide) (by decide) (by decide) (by decide); omega)) rfl dX9_swapAll_42 (fun M20 H locs e_M20 hI => ?_)
        refine lv_aload_n hx hb dX9_swapAll_43 rfl (lv_at hl 1 rfl) ?_
        refine h_getr hx hb hts iX9_swapAll_X9 hown hK hI g_y (by decide) rfl rfl 45 (by decide) rfl 145 rfl (hts (.fieldLink RX9 94 "CatLeasesModel" "all" "[I") (List.mem_of_getElem? (i := 3) rfl)) (fun _ h9 => h9) dX9_swapAll_44 (fun a21 e_a21 g_a21 => ?_)
        have q22 : a18 = a21 := (e_a18).trans e_a21.symm
        subst q22
        refine lv_iload_n hx hb dX9_swapAll_47 rfl (lv_at hl 2 rfl) ?_
        refine lv_iload_n hx hb dX9_swapAll_48 rfl (lv_at hl 0 rfl) ?_
        refine h_iast (j := v1_2.toNatClampNeg) hx hb hK hI g_a18 (by decide) rfl (iv_in (n := 39) i3 (by decide) (by decide)) rfl tv9 rfl dX9_swapAll_49 (fun M23 H locs e_M23 hI => ?_)
        obtain ⟨v24, e_v24⟩ : ∃ z : Int32, z = v1_2 + Int32.ofInt 1 := ⟨_, rfl⟩
        have i_v24 : iv v24 1 39 := by rw [e_v24]; exact iv_add i3 (ki_1) (by decide) (by decide) (by decide) (by decide)
        refine lv_iinc (v := v24) (lv' := [(1, .int v24), (2, .int v9), (0, .ref y)]) hx hb dX9_swapAll_50 hl (k := 2) rfl e_v24.symm (by decide) rfl (fun ls hl => ?_)
        refine lv_goto (tgt := 2) hx hb dX9_swapAll_53 (by decide) ?_
        exact ih2 M23 u50_2 v24 H locs ls hI (lv_sub hl [2, 0] rfl) (((e_u50_2).trans (u2_st (a := y) (k := 50) e_M20 (u2_a (so_ne g_y g_a4 (by decide)))).symm).trans (u2_st (a := y) (k := 50) e_M23 (u2_a (so_ne g_y g_a18 (by decide)))).symm) i_u50_2 (iv_w (lo' := 0) (hi' := 39) i_v24 (by decide) (by decide)) sa_2 (SWI_step (M2 := M20) (v := v9) (w := v19) (ix := v8.toNatClampNeg) hsw_2 (so_ne (hI.2.1.r1 g_y 45 145 (by decide) rfl) (hI.2.1.r1 g_y 49 149 (by decide) rfl) (by decide)) (by rw [e_M20, e_a4]) (by rw [e_v19, e_a18]) (by rw [e_M23, e_a18]) (by rw [e_v9, e_a4]) (by have h9 := mul_at (n := 39) (m := 40) (hi := 38) (by decide) i_u50_2 e_v7 e_v8 i3 (by decide) (by decide) (by decide) (by decide); rw [sa_2] at h9; omega) (k_inc1 e_v24 i3 (by decide))) (by have h9 := (h_inc e_v24 i3 ki_1 (by decide) (by decide)); omega)
  refine lv_istore_n (lv' := [(1, .int (0 : Int32)), (0, .ref y)]) hx hb dX9_swapAll_1 rfl hl (by decide) rfl (fun ls hl => ?_)
  obtain ⟨v25, e_v25⟩ : ∃ z : Int32, z = M y 50 := ⟨_, rfl⟩
  have i_v25 : iv v25 0 40 := by rw [e_v25]; exact hI.iv1 (n := 67) g_y rfl (by decide) rfl
  exact J2 40 M v25 (0 : Int32) H locs ls hI (lv_sub hl [1, 0] rfl) (e_v25) i_v25 (iv_w (lo' := 0) (hi' := 39) kc_0 (by decide) (by decide)) (e_v25) SWI_0 (by have h9 := kc_0; simp only [iv] at h9; omega)
abbrev e_h_undo_X9 : List (Nat × Nat) := [(9, 50), (9, 51), (145, 999), (149, 999)]
set_option maxHeartbeats 4000000 in
set_option maxRecDepth 100000 in
theorem h_undo_X9 (l : Launch) (D : va_G) (g : Nat → ClassId) (σ : Nat → Option Nat) (Z : State → Heap → Prop) (hZ0 : hZ σ Z) (M : hM) (N : hN) (R : hR) (y : Nat) (g_y : σ y = some 9) (m0_KV : KV M R y) (m0_WV : WV M R y) : Met l yX9_undo wsX9_undo ({ frames := 1, cells := 0, slots := 0, locals := 22 }) (va_Pc [.ref y] (hPre D g σ Z M N R)) (hQi D g σ e_h_undo_X9 M (fun (r : Int32) (M1 : hM) (N1 : hN) (R1 : hR) => N = N1 ∧ R = R1 ∧ iv r 0 1 ∧ (KV M1 R y) ∧ (WV M1 R y))) 0 0 (hA σ) := by
  refine h_head (cc := cX9_undo) (maxL := 1) (ret := (some .boolean)) (by decide) rfl (Nat.le_of_ble_eq_true rfl) e_h_undo_X9 ?_
  intro p e s m below meth c ls Q ar hQ hx hb hr hlocks hml hown hts hK hE H locs hI hl
  have hown : s.vm.findClass RX9 = some m.cls := hown
  have hl : lv_has ls 1 [(0, .ref y)] := hl
  refine lv_aload_n hx hb dX9_undo_0 rfl (lv_at hl 0 rfl) ?_
  refine h_geti (lo := 0) (hi := 40) hx hb hts iX9_undo_X9 hown hK hI g_y (by decide) rfl rfl 50 (by decide) rfl rfl (hts (.fieldLink RX9 398 "CatLeasesModel" "acts" "I") (List.mem_of_getElem? (i := 1) rfl)) (fun _ h9 => h9) dX9_undo_1 (fun v1 e_v1 i_v1 => ?_)
  refine lv_if_ne (tgt := 9) hx hb dX9_undo_4 (by decide) (fun c2 => ?_) (fun c2 => ?_)
  · have i3 : iv v1 1 40 := iv_neL c2 i_v1 (by decide) (by decide)
    refine lv_aload_n hx hb dX9_undo_9 rfl (lv_at hl 0 rfl) ?_
    refine lv_dup hx hb dX9_undo_10 rfl ?_
    refine h_geti (lo := 0) (hi := 40) hx hb hts iX9_undo_X9 hown hK hI g_y (by decide) rfl rfl 50 (by decide) rfl rfl (hts (.fieldLink RX9 398 "CatLeasesModel" "acts" "I") (List.mem_of_getElem? (i := 1) rfl)) (fun _ h9 => h9) dX9_undo_11 (fun v4 e_v4 i_v4 => ?_)
    have q5 : v1 = v4 := (e_v1).trans e_v4.symm
    subst q5
    refine lv_iconst (v := 1) hx hb dX9_undo_14 (by decide) ?_
    refine lv_isub hx hb dX9_undo_15 ?_
    refine h_nm (lo := 0) (hi := 39) (iv_sub i3 kc_1 (by decide) (by decide) (by decide) (by decide)) (fun v6 e_v6 i_v6 => ?_)
    refine h_puti hx hb hts iX9_undo_X9 tyX9 tyX9_ok nmX9 hown hK hI g_y (by decide) rfl rfl 50 (by decide) rfl (hts (.fieldLink RX9 398 "CatLeasesModel" "acts" "I") (List.mem_of_getElem? (i := 1) rfl)) (fun _ h9 => h9) rfl .int (by decide +kernel) rfl rfl (iv_w (lo' := 0) (hi' := 40) i_v6 (by decide) (by decide)) rfl dX9_undo_16 (fun M7 H locs e_M7 hI => ?_)
    refine lv_aload_n hx hb dX9_undo_19 rfl (lv_at hl 0 rfl) ?_
    refine lv_dup hx hb dX9_undo_20 rfl ?_
    refine h_geti (lo := 0) (hi := 40) hx hb hts iX9_undo_X9 hown hK hI g_y (by decide) rfl rfl 51 (by decide) rfl rfl (hts (.fieldLink RX9 401 "CatLeasesModel" "undone" "I") (List.mem_of_getElem? (i := 2) rfl)) (fun _ h9 => h9) dX9_undo_21 (fun v8 e_v8 i_v8 => ?_)
    have eb9 : v8 = M y 51 := (e_v8).trans (u2_st (a := y) (k := 51) e_M7 (u2_k (by decide)))
    have ib9 : iv v8 0 39 := ⟨(i_v8).1, by have h9 := m0_WV.2; rw [← e_v1, ← eb9] at h9; have h8 := i3; simp only [iv] at h8; omega⟩
    refine lv_iconst (v := 1) hx hb dX9_undo_24 (by decide) ?_
    refine lv_iadd hx hb dX9_undo_25 ?_
    refine h_nm (lo := 1) (hi := 40) (iv_add ib9 kc_1 (by decide) (by decide) (by decide) (by decide)) (fun v9 e_v9 i_v9 => ?_)
    refine h_puti hx hb hts iX9_undo_X9 tyX9 tyX9_ok nmX9 hown hK hI g_y (by decide) rfl rfl 51 (by decide) rfl (hts (.fieldLink RX9 401 "CatLeasesModel" "undone" "I") (List.mem_of_getElem? (i := 2) rfl)) (fun _ h9 => h9) rfl .int (by decide +kernel) rfl rfl (iv_w (lo' := 0) (hi' := 40) i_v9 (by decide) (by decide)) rfl dX9_undo_26 (fun M10 H locs e_M10 hI => ?_)
    refine lv_aload_n hx hb dX9_undo_29 rfl (lv_at hl 0 rfl) ?_
    refine h_gov hI (by decide) (va_runV (As := []) (rest := []) ⟨hx, hb, hml, hown, hts⟩ (h_swapAll_X9 l D g σ Z hZ0 M10 N R y g_y) (cwV 0 hts gX9_undo_X9_swapAll rfl rfl rfl (by decide +kernel) ⟨Nat.le_of_ble_eq_true rfl, Nat.le_of_ble_eq_true rfl⟩) (h_preV hZ0 hK hE hI g_y (by decide) rfl) rfl rfl hl.1 rfl (lv_room (Nat.le_of_ble_eq_true rfl)) dX9_undo_30 ⟨Nat.le_of_ble_eq_true rfl, Nat.le_of_ble_eq_true rfl⟩) (fun M12 N13 R14 H locs q15 z_M12 hI => ?_)
    obtain ⟨rfl, rfl, z16⟩ := q15
    refine lv_iconst (v := 1) hx hb dX9_undo_33 (by decide) ?_
    exact h_iret hQ hx hb hr hlocks rfl hK hI ⟨rfl, rfl, (iv_w (lo' := 0) (hi' := 1) kc_1 (by decide) (by decide)), (WV_undo hI.2.1 g_y m0_WV m0_KV e_v1 eb9 e_M7 e_M10 (h_dec e_v6 i3 kc_1 (by decide) (by decide)) (h_inc e_v9 ib9 kc_1 (by decide) (by decide)) i3 ib9 z16 z_M12 rfl rfl).1, (WV_undo hI.2.1 g_y m0_WV m0_KV e_v1 eb9 e_M7 e_M10 (h_dec e_v6 i3 kc_1 (by decide) (by decide)) (h_inc e_v9 ib9 kc_1 (by decide) (by decide)) i3 ib9 z16 z_M12 rfl rfl).2⟩ dX9_undo_34
  · have i17 : iv v1 0 0 := iv_eq1 c2 i_v1 kc_0
    refine lv_iconst (v := 0) hx hb dX9_undo_7 (by decide) ?_
    exact h_iret hQ hx hb hr hlocks rfl hK hI ⟨rfl, rfl, (iv_w (lo' := 0) (hi' := 1) kc_0 (by decide) (by decide)), m0_KV, m0_WV⟩ dX9_undo_8
abbrev e_h_redo_X9 : List (Nat × Nat) := [(9, 50), (9, 51), (145, 999), (149, 999)]
set_option maxHeartbeats 4000000 in
set_option maxRecDepth 100000 in
theorem h_redo_X9 (l : Launch) (D : va_G) (g : Nat → ClassId) (σ : Nat → Option Nat) (Z : State → Heap → Prop) (hZ0 : hZ σ Z) (M : hM) (N : hN) (R : hR) (y : Nat) (g_y : σ y = some 9) (m0_KV : KV M R y) (m0_WV : WV M R y) : Met l yX9_redo wsX9_redo ({ frames := 1, cells := 0, slots := 0, locals := 22 }) (va_Pc [.ref y] (hPre D g σ Z M N R)) (hQi D g σ e_h_redo_X9 M (fun (r : Int32) (M1 : hM) (N1 : hN) (R1 : hR) => N = N1 ∧ R = R1 ∧ iv r 0 1 ∧ (KV M1 R y) ∧ (WV M1 R y))) 0 0 (hA σ) := by
  refine h_head (cc := cX9_redo) (maxL := 1) (ret := (some .boolean)) (by decide) rfl (Nat.le_of_ble_eq_true rfl) e_h_redo_X9 ?_
  intro p e s m below meth c ls Q ar hQ hx hb hr hlocks hml hown hts hK hE H locs hI hl
  have hown : s.vm.findClass RX9 = some m.cls := hown
  have hl : lv_has ls 1 [(0, .ref y)] := hl
  refine lv_aload_n hx hb dX9_redo_0 rfl (lv_at hl 0 rfl) ?_
  refine h_geti (lo := 0) (hi := 40) hx hb hts iX9_redo_X9 hown hK hI g_y (by decide) rfl rfl 51 (by decide) rfl rfl (hts (.fieldLink RX9 401 "CatLeasesModel" "undone" "I") (List.mem_of_getElem? (i := 1) rfl)) (fun _ h9 => h9) dX9_redo_1 (fun v1 e_v1 i_v1 => ?_)
  refine lv_if_ne (tgt := 9) hx hb dX9_redo_4 (by decide) (fun c2 => ?_) (fun c2 => ?_)
  · have i3 : iv v1 1 40 := iv_neL c2 i_v1 (by decide) (by decide)
    refine lv_aload_n hx hb dX9_redo_9 rfl (lv_at hl 0 rfl) ?_
    refine h_gov hI (by decide) (va_runV (As := []) (rest := []) ⟨hx, hb, hml, hown, hts⟩ (h_swapAll_X9 l D g σ Z hZ0 M N R y g_y) (cwV 0 hts gX9_redo_X9_swapAll rfl rfl rfl (by decide +kernel) ⟨Nat.le_of_ble_eq_true rfl, Nat.le_of_ble_eq_true rfl⟩) (h_preV hZ0 hK hE hI g_y (by decide) rfl) rfl rfl hl.1 rfl (lv_room (Nat.le_of_ble_eq_true rfl)) dX9_redo_10 ⟨Nat.le_of_ble_eq_true rfl, Nat.le_of_ble_eq_true rfl⟩) (fun M5 N6 R7 H locs q8 z_M5 hI => ?_)
    obtain ⟨rfl, rfl, z9⟩ := q8
    refine lv_aload_n hx hb dX9_redo_13 rfl (lv_at hl 0 rfl) ?_
    refine lv_dup hx hb dX9_redo_14 rfl ?_
    refine h_geti (lo := 0) (hi := 40) hx hb hts iX9_redo_X9 hown hK hI g_y (by decide) rfl rfl 50 (by decide) rfl rfl (hts (.fieldLink RX9 398 "CatLeasesModel" "acts" "I") (List.mem_of_getElem? (i := 2) rfl)) (fun _ h9 => h9) dX9_redo_15 (fun v10 e_v10 i_v10 => ?_)
    have ea9 : v10 = M y 50 := e_v10.trans (z_M5 y 9 50 g_y rfl)
    have ia9 : iv v10 0 39 := ⟨(i_v10).1, by have h9 := m0_WV.2; rw [← ea9, ← e_v1] at h9; have h8 := i3; simp only [iv] at h8; omega⟩
    refine lv_iconst (v := 1) hx hb dX9_redo_18 (by decide) ?_
    refine lv_iadd hx hb dX9_redo_19 ?_
    refine h_nm (lo := 1) (hi := 40) (iv_add ia9 kc_1 (by decide) (by decide) (by decide) (by decide)) (fun v11 e_v11 i_v11 => ?_)
    refine h_puti hx hb hts iX9_redo_X9 tyX9 tyX9_ok nmX9 hown hK hI g_y (by decide) rfl rfl 50 (by decide) rfl (hts (.fieldLink RX9 398 "CatLeasesModel" "acts" "I") (List.mem_of_getElem? (i := 2) rfl)) (fun _ h9 => h9) rfl .int (by decide +kernel) rfl rfl (iv_w (lo' := 0) (hi' := 40) i_v11 (by decide) (by decide)) rfl dX9_redo_20 (fun M12 H locs e_M12 hI => ?_)
    refine lv_aload_n hx hb dX9_redo_23 rfl (lv_at hl 0 rfl) ?_
    refine lv_dup hx hb dX9_redo_24 rfl ?_
    refine h_geti (lo := 0) (hi := 40) hx hb hts iX9_redo_X9 hown hK hI g_y (by decide) rfl rfl 51 (by decide) rfl rfl (hts (.fieldLink RX9 401 "CatLeasesModel" "undone" "I") (List.mem_of_getElem? (i := 1) rfl)) (fun _ h9 => h9) dX9_redo_25 (fun v13 e_v13 i_v13 => ?_)
    have q14 : v1 = v13 := (((e_v1).trans (z_M5 y 9 51 g_y rfl).symm).trans (u2_st (a := y) (k := 51) e_M12 (u2_k (by decide))).symm).trans e_v13.symm
    subst q14
    refine lv_iconst (v := 1) hx hb dX9_redo_28 (by decide) ?_
    refine lv_isub hx hb dX9_redo_29 ?_
    refine h_nm (lo := 0) (hi := 39) (iv_sub i3 kc_1 (by decide) (by decide) (by decide) (by decide)) (fun v15 e_v15 i_v15 => ?_)
    refine h_puti hx hb hts iX9_redo_X9 tyX9 tyX9_ok nmX9 hown hK hI g_y (by decide) rfl rfl 51 (by decide) rfl (hts (.fieldLink RX9 401 "CatLeasesModel" "undone" "I") (List.mem_of_getElem? (i := 1) rfl)) (fun _ h9 => h9) rfl .int (by decide +kernel) rfl rfl (iv_w (lo' := 0) (hi' := 40) i_v15 (by decide) (by decide)) rfl dX9_redo_30 (fun M16 H locs e_M16 hI => ?_)
    refine lv_iconst (v := 1) hx hb dX9_redo_33 (by decide) ?_
    exact h_iret hQ hx hb hr hlocks rfl hK hI ⟨rfl, rfl, (iv_w (lo' := 0) (hi' := 1) kc_1 (by decide) (by decide)), (WV_redo hI.2.1 g_y m0_WV m0_KV ea9 e_v1 (iv_w (lo' := 0) (hi' := 40) ia9 (by decide) (by decide)) i3 z9 z_M5 rfl rfl e_M12 e_M16 (h_inc e_v11 ia9 kc_1 (by decide) (by decide)) (h_dec e_v15 i3 kc_1 (by decide) (by decide))).1, (WV_redo hI.2.1 g_y m0_WV m0_KV ea9 e_v1 (iv_w (lo' := 0) (hi' := 40) ia9 (by decide) (by decide)) i3 z9 z_M5 rfl rfl e_M12 e_M16 (h_inc e_v11 ia9 kc_1 (by decide) (by decide)) (h_dec e_v15 i3 kc_1 (by decide) (by decide))).2⟩ dX9_redo_34
  · have i17 : iv v1 0 0 := iv_eq1 c2 i_v1 kc_0
    refine lv_iconst (v := 0) hx hb dX9_redo_7 (by decide) ?_
    exact h_iret hQ hx hb hr hlocks rfl hK hI ⟨rfl, rfl, (iv_w (lo' := 0) (hi' := 1) kc_0 (by decide) (by decide)), m0_KV, m0_WV⟩ dX9_redo_8
abbrev e_h_quarter_X9 : List (Nat × Nat) := [(9, 41), (9, 42), (9, 43), (9, 44), (9, 50), (9, 51), (134, 999), (145, 999), (149, 999)]
set_option maxHeartbeats 4000000 in
set_option maxRecDepth 100000 in
theorem h_quarter_X9 (l : Launch) (D : va_G) (g : Nat → ClassId) (σ : Nat → Option Nat) (Z : State → Heap → Prop) (hZ0 : hZ σ Z) (M : hM) (N : hN) (R : hR) (y : Nat) (g_y : σ y = some 9) (m0_KV : KV M R y) (m0_HV : HV M R y) (m0_CW : CW M R y) (m0_WV : WV M R y) : Met l yX9_quarter wsX9_quarter ({ frames := 8, cells := 0, slots := 0, locals := 179 }) (va_Pc [.ref y] (hPre D g σ Z M N R)) (hQi D g σ e_h_quarter_X9 M (fun (r : Int32) (M1 : hM) (N1 : hN) (R1 : hR) => N = N1 ∧ R = R1 ∧ iv r (-1) 127 ∧ (KV M1 R y) ∧ (WV M1 R y))) 0 0 (hA σ) := by
  refine h_head (cc := cX9_quarter) (maxL := 1) (ret := (some .int)) (by decide) rfl (Nat.le_of_ble_eq_true rfl) e_h_quarter_X9 ?_
  intro p e s m below meth c ls Q ar hQ hx hb hr hlocks hml hown hts hK hE H locs hI hl
  have hown : s.vm.findClass RX9 = some m.cls := hown
  have hl : lv_has ls 1 [(0, .ref y)] := hl
  refine lv_aload_n hx hb dX9_quarter_0 rfl (lv_at hl 0 rfl) ?_
  refine h_getr hx hb hts iX9_quarter_X9 hown hK hI g_y (by decide) rfl rfl 45 (by decide) rfl 145 rfl (hts (.fieldLink RX9 94 "CatLeasesModel" "all" "[I") (List.mem_of_getElem? (i := 1) rfl)) (fun _ h9 => h9) dX9_quarter_1 (fun a1 e_a1 g_a1 => ?_)
  refine lv_bipush (v := 37) hx hb dX9_quarter_4 (by decide) ?_
  refine h_iald (j := 37) (lo := (-2147483648)) (hi := 2147483647) hx hb hK hI g_a1 (by decide) rfl (iv_in (n := 39) kc_37 (by decide) (by decide)) (by decide) (iv_any _) dX9_quarter_6 (fun v2 e_v2 i_v2 => ?_)
  refine lv_sipush (v := 999) hx hb dX9_quarter_7 (by decide) ?_
  refine lv_icmp_ne (tgt := 15) hx hb dX9_quarter_10 (by decide) (fun c3 => ?_) (fun c3 => ?_)
  · refine lv_aload_n hx hb dX9_quarter_15 rfl (lv_at hl 0 rfl) ?_
    refine h_gov hI (by decide) (va_runV (As := []) (rest := []) ⟨hx, hb, hml, hown, hts⟩ (h_keepAct_X9 l D g σ Z hZ0 M N R y g_y m0_KV m0_WV) (cwV 0 hts gX9_quarter_X9_keepAct rfl rfl rfl (by decide +kernel) ⟨Nat.le_of_ble_eq_true rfl, Nat.le_of_ble_eq_true rfl⟩) (h_preV hZ0 hK hE hI g_y (by decide) rfl) rfl rfl hl.1 rfl (lv_room (Nat.le_of_ble_eq_true rfl)) dX9_quarter_16 ⟨Nat.le_of_ble_eq_true rfl, Nat.le_of_ble_eq_true rfl⟩) (fun M5 N6 R7 H locs q8 z_M5 hI => ?_)
    obtain ⟨rfl, rfl, z9⟩ := q8
    refine lv_aload_n hx hb dX9_quarter_19 rfl (lv_at hl 0 rfl) ?_
    have m10 : KV M5 R y := (KV_ag hI.2.1 g_y m0_KV (hAd.ag z_M5 (by decide)))
    have m11 : HV M5 R y := (HV_ag hI.2.1 g_y m0_HV (hAd.ag z_M5 (by decide)))
    have m12 : CW M5 R y := (CW_ag hI.2.1 g_y m0_CW (hAd.ag z_M5 (by decide)))
    refine h_goi hI (by decide) (va_runV (As := []) (rest := []) ⟨hx, hb, hml, hown, hts⟩ (h_goInEarnest_X9 l D g σ Z hZ0 M5 N R y g_y m10 m11 m12) (cwV 0 hts gX9_quarter_X9_goInEarnest rfl rfl rfl (by decide +kernel) ⟨Nat.le_of_ble_eq_true rfl, Nat.le_of_ble_eq_true rfl⟩) (h_preV hZ0 hK hE hI g_y (by decide) rfl) rfl rfl hl.1 rfl (lv_room (Nat.le_of_ble_eq_true rfl)) dX9_quarter_20 ⟨Nat.le_of_ble_eq_true rfl, Nat.le_of_ble_eq_true rfl⟩) (fun r13 M14 N15 R16 H locs q17 z_M14 hI => ?_)
    obtain ⟨rfl, rfl, i_r13, m18⟩ := q17
    have m19 : WV M14 R y := (WV_ag hI.2.1 g_y z9 (hAd.ag z_M14 (by decide)))
    exact h_iret hQ hx hb hr hlocks rfl hK hI ⟨rfl, rfl, (iv_w (lo' := (-1)) (hi' := 127) i_r13 (by decide) (by decide)), m18, m19⟩ dX9_quarter_23
  · have i20 : iv v2 999 999 := iv_eq1 c3 i_v2 kc_999
    refine lv_iconst (v := (-1)) hx hb dX9_quarter_13 (by decide) ?_
    exact h_iret hQ hx hb hr hlocks rfl hK hI ⟨rfl, rfl, (iv_w (lo' := (-1)) (hi' := 127) kc_m1 (by decide) (by decide)), m0_KV, m0_WV⟩ dX9_quarter_14
abbrev e_h_move_X9 : List (Nat × Nat) := [(9, 50), (9, 51), (145, 999), (149, 999)]
set_option maxHeartbeats 4000000 in
set_option maxRecDepth 100000 in
theorem h_move_X9 (l : Launch) (D : va_G) (g : Nat → ClassId) (σ : Nat → Option Nat) (Z : State → Heap → Prop) (hZ0 : hZ σ Z) (M : hM) (N : hN) (R : hR) (y : Nat) (g_y : σ y = some 9) (p1 : Int32) (p2 : Int32) (m0_KV : KV M R y) (m0_WV : WV M R y) : Met l yX9_move wsX9_move ({ frames := 2, cells := 0, slots := 0, locals := 43 }) (va_Pc [.ref y, .int p1, .int p2] (hPre D g σ Z M N R)) (hQi D g σ e_h_move_X9 M (fun (r : Int32) (M1 : hM) (N1 : hN) (R1 : hR) => N = N1 ∧ R = R1 ∧ iv r (-2) 7 ∧ (KV M1 R y) ∧ (WV M1 R y))) 0 0 (hA σ) := by
  refine h_head (cc := cX9_move) (maxL := 4) (ret := (some .int)) (by decide) rfl (Nat.le_of_ble_eq_true rfl) e_h_move_X9 ?_
  intro p e s m below meth c ls Q ar hQ hx hb hr hlocks hml hown hts hK hE H locs hI hl
  have hown : s.vm.findClass RX9 = some m.cls := hown
  have hl : lv_has ls 4 [(0, .ref y), (1, .int p1), (2, .int p2)] := hl
  refine lv_aload_n hx hb dX9_move_0 rfl (lv_at hl 0 rfl) ?_
  refine lv_iload_n hx hb dX9_move_1 rfl (lv_at hl 1 rfl) ?_
  refine h_goi hI (by decide) (va_runV (As := [.int p1]) (rest := []) ⟨hx, hb, hml, hown, hts⟩ (h_isTenant_X9 l D g σ Z hZ0 M N R y g_y p1) (cwV 1 hts gX9_move_X9_isTenant rfl rfl rfl (by decide +kernel) ⟨Nat.le_of_ble_eq_true rfl, Nat.le_of_ble_eq_true rfl⟩) (h_preV hZ0 hK hE hI g_y (by decide) rfl) rfl rfl hl.1 rfl (lv_room (Nat.le_of_ble_eq_true rfl)) dX9_move_2 ⟨Nat.le_of_ble_eq_true rfl, Nat.le_of_ble_eq_true rfl⟩) (fun r1 M2 N3 R4 H locs q5 z_M2 hI => ?_)
  obtain ⟨rfl, rfl, rfl, i_r1, z6⟩ := q5
  refine lv_if_eq (tgt := 24) hx hb dX9_move_5 (by decide) (fun c7 => ?_) (fun c7 => ?_)
  · have i8 : iv r1 0 0 := iv_eq1 c7 i_r1 kc_0
    refine lv_bipush (v := (-2)) hx hb dX9_move_24 (by decide) ?_
    exact h_iret hQ hx hb hr hlocks rfl hK hI ⟨rfl, rfl, (iv_w (lo' := (-2)) (hi' := 7) kc_m2 (by decide) (by decide)), m0_KV, m0_WV⟩ dX9_move_26
  · have i9 : iv p1 0 6 := z6 c7
    have i10 : iv r1 1 1 := iv_neL c7 i_r1 (by decide) (by decide)
    refine lv_aload_n hx hb dX9_move_8 rfl (lv_at hl 0 rfl) ?_
    refine lv_iload_n hx hb dX9_move_9 rfl (lv_at hl 2 rfl) ?_
    refine h_goi hI (by decide) (va_runV (As := [.int p2]) (rest := []) ⟨hx, hb, hml, hown, hts⟩ (h_isRoom_X9 l D g σ Z hZ0 M N R y g_y p2) (cwV 1 hts gX9_move_X9_isRoom rfl rfl rfl (by decide +kernel) ⟨Nat.le_of_ble_eq_true rfl, Nat.le_of_ble_eq_true rfl⟩) (h_preV hZ0 hK hE hI g_y (by decide) rfl) rfl rfl hl.1 rfl (lv_room (Nat.le_of_ble_eq_true rfl)) dX9_move_10 ⟨Nat.le_of_ble_eq_true rfl, Nat.le_of_ble_eq_true rfl⟩) (fun r11 M12 N13 R14 H locs q15 z_M12 hI => ?_)
    obtain ⟨rfl, rfl, rfl, i_r11, z16⟩ := q15
    refine lv_if_eq (tgt := 24) hx hb dX9_move_13 (by decide) (fun c17 => ?_) (fun c17 => ?_)
    · have i18 : iv r11 0 0 := iv_eq1 c17 i_r11 kc_0
      refine lv_bipush (v := (-2)) hx hb dX9_move_24 (by decide) ?_
      exact h_iret hQ hx hb hr hlocks rfl hK hI ⟨rfl, rfl, (iv_w (lo' := (-2)) (hi' := 7) kc_m2 (by decide) (by decide)), m0_KV, m0_WV⟩ dX9_move_26
    · have i19 : iv p2 0 7 := z16 c17
      have i20 : iv r11 1 1 := iv_neL c17 i_r11 (by decide) (by decide)
      refine lv_aload_n hx hb dX9_move_16 rfl (lv_at hl 0 rfl) ?_
      refine lv_iload_n hx hb dX9_move_17 rfl (lv_at hl 2 rfl) ?_
      refine h_goi hI (by decide) (va_runV (As := [.int p2]) (rest := []) ⟨hx, hb, hml, hown, hts⟩ (h_whoIn_X9 l D g σ Z hZ0 M N R y g_y p2) (cwV 1 hts gX9_move_X9_whoIn rfl rfl rfl (by decide +kernel) ⟨Nat.le_of_ble_eq_true rfl, Nat.le_of_ble_eq_true rfl⟩) (h_preV hZ0 hK hE hI g_y (by decide) rfl) rfl rfl hl.1 rfl (lv_room (Nat.le_of_ble_eq_true rfl)) dX9_move_18 ⟨Nat.le_of_ble_eq_true rfl, Nat.le_of_ble_eq_true rfl⟩) (fun r21 M22 N23 R24 H locs q25 z_M22 hI => ?_)
      obtain ⟨rfl, rfl, rfl, i_r21⟩ := q25
      refine lv_if_lt (tgt := 27) hx hb dX9_move_21 (by decide) (fun c26 => ?_) (fun c26 => ?_)
      · have i27 : iv r21 (-1) (-1) := iv_lt1 c26 i_r21 kc_0 (by decide)
        refine lv_aload_n hx hb dX9_move_27 rfl (lv_at hl 0 rfl) ?_
        refine h_gov hI (by decide) (va_runV (As := []) (rest := []) ⟨hx, hb, hml, hown, hts⟩ (h_keepAct_X9 l D g σ Z hZ0 M N R y g_y m0_KV m0_WV) (cwV 0 hts gX9_move_X9_keepAct rfl rfl rfl (by decide +kernel) ⟨Nat.le_of_ble_eq_true rfl, Nat.le_of_ble_eq_true rfl⟩) (h_preV hZ0 hK hE hI g_y (by decide) rfl) rfl rfl hl.1 rfl (lv_room (Nat.le_of_ble_eq_true rfl)) dX9_move_28 ⟨Nat.le_of_ble_eq_true rfl, Nat.le_of_ble_eq_true rfl⟩) (fun M29 N30 R31 H locs q32 z_M29 hI => ?_)
        obtain ⟨rfl, rfl, z33⟩ := q32
        refine lv_aload_n hx hb dX9_move_31 rfl (lv_at hl 0 rfl) ?_
        refine h_getr hx hb hts iX9_move_X9 hown hK hI g_y (by decide) rfl rfl 45 (by decide) rfl 145 rfl (hts (.fieldLink RX9 94 "CatLeasesModel" "all" "[I") (List.mem_of_getElem? (i := 1) rfl)) (fun _ h9 => h9) dX9_move_32 (fun a34 e_a34 g_a34 => ?_)
        refine lv_iconst (v := 0) hx hb dX9_move_35 (by decide) ?_
        refine lv_iload_n hx hb dX9_move_36 rfl (lv_at hl 1 rfl) ?_
        refine lv_iadd hx hb dX9_move_37 ?_
        refine k_top (v := p1) (Int32.zero_add _) ?_
        refine h_iald (j := p1.toNatClampNeg) (lo := (-1)) (hi := 7) hx hb hK hI g_a34 (by decide) rfl (iv_in (n := 39) i9 (by decide) (by decide)) rfl (hI.iv2 (n := 39) (c := 0) (d := 7) g_a34 rfl (in_lt (iv_in (n := 39) i9 (by decide) (by decide))) (iv_nat1 i9 (by decide)) (iv_nat2 i9 (by decide) (by decide)) (by decide)) dX9_move_38 (fun v35 e_v35 i_v35 => ?_)
        refine lv_istore_n (lv' := [(3, .int v35), (0, .ref y), (1, .int p1), (2, .int p2)]) hx hb dX9_move_39 rfl hl (by decide) rfl (fun ls hl => ?_)
        refine lv_aload_n hx hb dX9_move_40 rfl (lv_at hl 1 rfl) ?_
        refine lv_iload_n hx hb dX9_move_41 rfl (lv_at hl 2 rfl) ?_
        refine lv_iload_n hx hb dX9_move_42 rfl (lv_at hl 3 rfl) ?_
        refine h_gov hI (by decide) (va_runV (As := [.int p1, .int p2]) (rest := []) ⟨hx, hb, hml, hown, hts⟩ (h_goIn_X9 l D g σ Z hZ0 M29 N R y g_y p1 i9 p2 (iv_w (lo' := (-1)) (hi' := 7) i19 (by decide) (by decide))) (cwV 2 hts gX9_move_X9_goIn rfl rfl rfl (by decide +kernel) ⟨Nat.le_of_ble_eq_true rfl, Nat.le_of_ble_eq_true rfl⟩) (h_preV hZ0 hK hE hI g_y (by decide) rfl) rfl rfl hl.1 rfl (lv_room (Nat.le_of_ble_eq_true rfl)) dX9_move_43 ⟨Nat.le_of_ble_eq_true rfl, Nat.le_of_ble_eq_true rfl⟩) (fun M37 N38 R39 H locs q40 z_M37 hI => ?_)
        obtain ⟨rfl, rfl, m41⟩ := q40
        refine lv_iload_n hx hb dX9_move_46 rfl (lv_at hl 0 rfl) ?_
        have m42 : KV M37 R y := (m41 (KV_ag hI.2.1 g_y m0_KV (hAd.ag z_M29 (by decide))))
        have m43 : WV M37 R y := (WV_ag hI.2.1 g_y z33 (hAd.ag z_M37 (by decide)))
        exact h_iret hQ hx hb hr hlocks rfl hK hI ⟨rfl, rfl, (iv_w (lo' := (-2)) (hi' := 7) i_v35 (by decide) (by decide)), m42, m43⟩ dX9_move_47
      · have i44 : iv r21 0 6 := iv_nlt1 c26 i_r21 kc_0 (by decide)
        refine lv_bipush (v := (-2)) hx hb dX9_move_24 (by decide) ?_
        exact h_iret hQ hx hb hr hlocks rfl hK hI ⟨rfl, rfl, (iv_w (lo' := (-2)) (hi' := 7) kc_m2 (by decide) (by decide)), m0_KV, m0_WV⟩ dX9_move_26
abbrev e_h_leave_X9 : List (Nat × Nat) := [(9, 50), (9, 51), (145, 999), (149, 999)]
set_option maxHeartbeats 4000000 in
set_option maxRecDepth 100000 in
theorem h_leave_X9 (l : Launch) (D : va_G) (g : Nat → ClassId) (σ : Nat → Option Nat) (Z : State → Heap → Prop) (hZ0 : hZ σ Z) (M : hM) (N : hN) (R : hR) (y : Nat) (g_y : σ y = some 9) (p1 : Int32) (m0_KV : KV M R y) (m0_WV : WV M R y) : Met l yX9_leave wsX9_leave ({ frames := 2, cells := 0, slots := 0, locals := 43 }) (va_Pc [.ref y, .int p1] (hPre D g σ Z M N R)) (hQi D g σ e_h_leave_X9 M (fun (r : Int32) (M1 : hM) (N1 : hN) (R1 : hR) => N = N1 ∧ R = R1 ∧ iv r (-1) 7 ∧ (KV M1 R y) ∧ (WV M1 R y))) 0 0 (hA σ) := by
  refine h_head (cc := cX9_leave) (maxL := 3) (ret := (some .int)) (by decide) rfl (Nat.le_of_ble_eq_true rfl) e_h_leave_X9 ?_
  intro p e s m below meth c ls Q ar hQ hx hb hr hlocks hml hown hts hK hE H locs hI hl
  have hown : s.vm.findClass RX9 = some m.cls := hown
  have hl : lv_has ls 3 [(0, .ref y), (1, .int p1)] := hl
  refine lv_aload_n hx hb dX9_leave_0 rfl (lv_at hl 0 rfl) ?_
  refine lv_iload_n hx hb dX9_leave_1 rfl (lv_at hl 1 rfl) ?_
  refine h_goi hI (by decide) (va_runV (As := [.int p1]) (rest := []) ⟨hx, hb, hml, hown, hts⟩ (h_isTenant_X9 l D g σ Z hZ0 M N R y g_y p1) (cwV 1 hts gX9_leave_X9_isTenant rfl rfl rfl (by decide +kernel) ⟨Nat.le_of_ble_eq_true rfl, Nat.le_of_ble_eq_true rfl⟩) (h_preV hZ0 hK hE hI g_y (by decide) rfl) rfl rfl hl.1 rfl (lv_room (Nat.le_of_ble_eq_true rfl)) dX9_leave_2 ⟨Nat.le_of_ble_eq_true rfl, Nat.le_of_ble_eq_true rfl⟩) (fun r1 M2 N3 R4 H locs q5 z_M2 hI => ?_)
  obtain ⟨rfl, rfl, rfl, i_r1, z6⟩ := q5
  refine lv_if_eq (tgt := 16) hx hb dX9_leave_5 (by decide) (fun c7 => ?_) (fun c7 => ?_)
  · have i8 : iv r1 0 0 := iv_eq1 c7 i_r1 kc_0
    refine lv_iconst (v := (-1)) hx hb dX9_leave_16 (by decide) ?_
    exact h_iret hQ hx hb hr hlocks rfl hK hI ⟨rfl, rfl, (iv_w (lo' := (-1)) (hi' := 7) kc_m1 (by decide) (by decide)), m0_KV, m0_WV⟩ dX9_leave_17
  · have i9 : iv p1 0 6 := z6 c7
    have i10 : iv r1 1 1 := iv_neL c7 i_r1 (by decide) (by decide)
    refine lv_aload_n hx hb dX9_leave_8 rfl (lv_at hl 0 rfl) ?_
    refine lv_iload_n hx hb dX9_leave_9 rfl (lv_at hl 1 rfl) ?_
    refine h_goi hI (by decide) (va_runV (As := [.int p1]) (rest := []) ⟨hx, hb, hml, hown, hts⟩ (h_isOut_X9 l D g σ Z hZ0 M N R y g_y p1 i9) (cwV 1 hts gX9_leave_X9_isOut rfl rfl rfl (by decide +kernel) ⟨Nat.le_of_ble_eq_true rfl, Nat.le_of_ble_eq_true rfl⟩) (h_preV hZ0 hK hE hI g_y (by decide) rfl) rfl rfl hl.1 rfl (lv_room (Nat.le_of_ble_eq_true rfl)) dX9_leave_10 ⟨Nat.le_of_ble_eq_true rfl, Nat.le_of_ble_eq_true rfl⟩) (fun r11 M12 N13 R14 H locs q15 z_M12 hI => ?_)
    obtain ⟨rfl, rfl, rfl, i_r11, z16⟩ := q15
    refine lv_if_eq (tgt := 18) hx hb dX9_leave_13 (by decide) (fun c17 => ?_) (fun c17 => ?_)
    · have i18 := z16 c17
      have i19 : iv r11 0 0 := iv_eq1 c17 i_r11 kc_0
      refine lv_aload_n hx hb dX9_leave_18 rfl (lv_at hl 0 rfl) ?_
      refine h_gov hI (by decide) (va_runV (As := []) (rest := []) ⟨hx, hb, hml, hown, hts⟩ (h_keepAct_X9 l D g σ Z hZ0 M N R y g_y m0_KV m0_WV) (cwV 0 hts gX9_leave_X9_keepAct rfl rfl rfl (by decide +kernel) ⟨Nat.le_of_ble_eq_true rfl, Nat.le_of_ble_eq_true rfl⟩) (h_preV hZ0 hK hE hI g_y (by decide) rfl) rfl rfl hl.1 rfl (lv_room (Nat.le_of_ble_eq_true rfl)) dX9_leave_19 ⟨Nat.le_of_ble_eq_true rfl, Nat.le_of_ble_eq_true rfl⟩) (fun M21 N22 R23 H locs q24 z_M21 hI => ?_)
      obtain ⟨rfl, rfl, z25⟩ := q24
      refine lv_aload_n hx hb dX9_leave_22 rfl (lv_at hl 0 rfl) ?_
      refine h_getr hx hb hts iX9_leave_X9 hown hK hI g_y (by decide) rfl rfl 45 (by decide) rfl 145 rfl (hts (.fieldLink RX9 94 "CatLeasesModel" "all" "[I") (List.mem_of_getElem? (i := 1) rfl)) (fun _ h9 => h9) dX9_leave_23 (fun a26 e_a26 g_a26 => ?_)
      refine lv_iconst (v := 0) hx hb dX9_leave_26 (by decide) ?_
      refine lv_iload_n hx hb dX9_leave_27 rfl (lv_at hl 1 rfl) ?_
      refine lv_iadd hx hb dX9_leave_28 ?_
      refine k_top (v := p1) (Int32.zero_add _) ?_
      refine h_iald (j := p1.toNatClampNeg) (lo := (-1)) (hi := 7) hx hb hK hI g_a26 (by decide) rfl (iv_in (n := 39) i9 (by decide) (by decide)) rfl (hI.iv2 (n := 39) (c := 0) (d := 7) g_a26 rfl (in_lt (iv_in (n := 39) i9 (by decide) (by decide))) (iv_nat1 i9 (by decide)) (iv_nat2 i9 (by decide) (by decide)) (by decide)) dX9_leave_29 (fun v27 e_v27 i_v27 => ?_)
      have i28 : iv (M21 (R y 45) p1.toNatClampNeg) 0 7 := by rw [(hAg.row z_M21 (hI.2.1.r1 g_y 45 145 (by decide) rfl) (fun _ => rfl))]; exact i18
      have i29 : iv v27 0 7 := by rw [e_v27, e_a26]; exact i28
      refine lv_istore_n (lv' := [(2, .int v27), (0, .ref y), (1, .int p1)]) hx hb dX9_leave_30 rfl hl (by decide) rfl (fun ls hl => ?_)
      refine lv_aload_n hx hb dX9_leave_31 rfl (lv_at hl 1 rfl) ?_
      refine lv_iload_n hx hb dX9_leave_32 rfl (lv_at hl 2 rfl) ?_
      refine h_gov hI (by decide) (va_runV (As := [.int p1]) (rest := []) ⟨hx, hb, hml, hown, hts⟩ (h_goOut_X9 l D g σ Z hZ0 M21 N R y g_y p1 i9) (cwV 1 hts gX9_leave_X9_goOut rfl rfl rfl (by decide +kernel) ⟨Nat.le_of_ble_eq_true rfl, Nat.le_of_ble_eq_true rfl⟩) (h_preV hZ0 hK hE hI g_y (by decide) rfl) rfl rfl hl.1 rfl (lv_room (Nat.le_of_ble_eq_true rfl)) dX9_leave_33 ⟨Nat.le_of_ble_eq_true rfl, Nat.le_of_ble_eq_true rfl⟩) (fun M31 N32 R33 H locs q34 z_M31 hI => ?_)
      obtain ⟨rfl, rfl, m35⟩ := q34
      refine lv_iload_n hx hb dX9_leave_36 rfl (lv_at hl 0 rfl) ?_
      have m36 : KV M31 R y := (m35 (KV_ag hI.2.1 g_y m0_KV (hAd.ag z_M21 (by decide))))
      have m37 : WV M31 R y := (WV_ag hI.2.1 g_y z25 (hAd.ag z_M31 (by decide)))
      exact h_iret hQ hx hb hr hlocks rfl hK hI ⟨rfl, rfl, (iv_w (lo' := (-1)) (hi' := 7) i29 (by decide) (by decide)), m36, m37⟩ dX9_leave_37
    · have i38 : iv r11 1 1 := iv_neL c17 i_r11 (by decide) (by decide)
      refine lv_iconst (v := (-1)) hx hb dX9_leave_16 (by decide) ?_
      exact h_iret hQ hx hb hr hlocks rfl hK hI ⟨rfl, rfl, (iv_w (lo' := (-1)) (hi' := 7) kc_m1 (by decide) (by decide)), m0_KV, m0_WV⟩ dX9_leave_17
abbrev e_h_exchange_X9 : List (Nat × Nat) := [(9, 50), (9, 51), (145, 999), (149, 999)]
set_option maxHeartbeats 4000000 in
set_option maxRecDepth 100000 in
theorem h_exchange_X9 (l : Launch) (D : va_G) (g : Nat → ClassId) (σ : Nat → Option Nat) (Z : State → Heap → Prop) (hZ0 : hZ σ Z) (M : hM) (N : hN) (R : hR) (y : Nat) (g_y : σ y = some 9) (p1 : Int32) (p2 : Int32) (m0_KV : KV M R y) (m0_WV : WV M R y) : Met l yX9_exchange wsX9_exchange ({ frames := 2, cells := 0, slots := 0, locals := 43 }) (va_Pc [.ref y, .int p1, .int p2] (hPre D g σ Z M N R)) (hQi D g σ e_h_exchange_X9 M (fun (r : Int32) (M1 : hM) (N1 : hN) (R1 : hR) => N = N1 ∧ R = R1 ∧ iv r (-1) 7 ∧ (KV M1 R y) ∧ (WV M1 R y))) 0 0 (hA σ) := by
  refine h_head (cc := cX9_exchange) (maxL := 4) (ret := (some .int)) (by decide) rfl (Nat.le_of_ble_eq_true rfl) e_h_exchange_X9 ?_
  intro p e s m below meth c ls Q ar hQ hx hb hr hlocks hml hown hts hK hE H locs hI hl
  have hown : s.vm.findClass RX9 = some m.cls := hown
  have hl : lv_has ls 4 [(0, .ref y), (1, .int p1), (2, .int p2)] := hl
  refine lv_aload_n hx hb dX9_exchange_0 rfl (lv_at hl 0 rfl) ?_
  refine lv_iload_n hx hb dX9_exchange_1 rfl (lv_at hl 1 rfl) ?_
  refine h_goi hI (by decide) (va_runV (As := [.int p1]) (rest := []) ⟨hx, hb, hml, hown, hts⟩ (h_isTenant_X9 l D g σ Z hZ0 M N R y g_y p1) (cwV 1 hts gX9_exchange_X9_isTenant rfl rfl rfl (by decide +kernel) ⟨Nat.le_of_ble_eq_true rfl, Nat.le_of_ble_eq_true rfl⟩) (h_preV hZ0 hK hE hI g_y (by decide) rfl) rfl rfl hl.1 rfl (lv_room (Nat.le_of_ble_eq_true rfl)) dX9_exchange_2 ⟨Nat.le_of_ble_eq_true rfl, Nat.le_of_ble_eq_true rfl⟩) (fun r1 M2 N3 R4 H locs q5 z_M2 hI => ?_)
  obtain ⟨rfl, rfl, rfl, i_r1, z6⟩ := q5
  refine lv_if_eq (tgt := 37) hx hb dX9_exchange_5 (by decide) (fun c7 => ?_) (fun c7 => ?_)
  · have i8 : iv r1 0 0 := iv_eq1 c7 i_r1 kc_0
    refine lv_iconst (v := (-1)) hx hb dX9_exchange_37 (by decide) ?_
    exact h_iret hQ hx hb hr hlocks rfl hK hI ⟨rfl, rfl, (iv_w (lo' := (-1)) (hi' := 7) kc_m1 (by decide) (by decide)), m0_KV, m0_WV⟩ dX9_exchange_38
  · have i9 : iv p1 0 6 := z6 c7
    have i10 : iv r1 1 1 := iv_neL c7 i_r1 (by decide) (by decide)
    refine lv_aload_n hx hb dX9_exchange_8 rfl (lv_at hl 0 rfl) ?_
    refine lv_iload_n hx hb dX9_exchange_9 rfl (lv_at hl 2 rfl) ?_
    refine h_goi hI (by decide) (va_runV (As := [.int p2]) (rest := []) ⟨hx, hb, hml, hown, hts⟩ (h_isTenant_X9 l D g σ Z hZ0 M N R y g_y p2) (cwV 1 hts gX9_exchange_X9_isTenant rfl rfl rfl (by decide +kernel) ⟨Nat.le_of_ble_eq_true rfl, Nat.le_of_ble_eq_true rfl⟩) (h_preV hZ0 hK hE hI g_y (by decide) rfl) rfl rfl hl.1 rfl (lv_room (Nat.le_of_ble_eq_true rfl)) dX9_exchange_10 ⟨Nat.le_of_ble_eq_true rfl, Nat.le_of_ble_eq_true rfl⟩) (fun r11 M12 N13 R14 H locs q15 z_M12 hI => ?_)
    obtain ⟨rfl, rfl, rfl, i_r11, z16⟩ := q15
    refine lv_if_eq (tgt := 37) hx hb dX9_exchange_13 (by decide) (fun c17 => ?_) (fun c17 => ?_)
    · have i18 : iv r11 0 0 := iv_eq1 c17 i_r11 kc_0
      refine lv_iconst (v := (-1)) hx hb dX9_exchange_37 (by decide) ?_
      exact h_iret hQ hx hb hr hlocks rfl hK hI ⟨rfl, rfl, (iv_w (lo' := (-1)) (hi' := 7) kc_m1 (by decide) (by decide)), m0_KV, m0_WV⟩ dX9_exchange_38
    · have i19 : iv p2 0 6 := z16 c17
      have i20 : iv r11 1 1 := iv_neL c17 i_r11 (by decide) (by decide)
      refine lv_iload_n hx hb dX9_exchange_16 rfl (lv_at hl 1 rfl) ?_
      refine lv_iload_n hx hb dX9_exchange_17 rfl (lv_at hl 2 rfl) ?_
      refine lv_icmp_eq (tgt := 37) hx hb dX9_exchange_18 (by decide) (fun c21 => ?_) (fun c21 => ?_)
      · refine lv_iconst (v := (-1)) hx hb dX9_exchange_37 (by decide) ?_
        exact h_iret hQ hx hb hr hlocks rfl hK hI ⟨rfl, rfl, (iv_w (lo' := (-1)) (hi' := 7) kc_m1 (by decide) (by decide)), m0_KV, m0_WV⟩ dX9_exchange_38
      · refine lv_aload_n hx hb dX9_exchange_21 rfl (lv_at hl 0 rfl) ?_
        refine lv_iload_n hx hb dX9_exchange_22 rfl (lv_at hl 1 rfl) ?_
        refine h_goi hI (by decide) (va_runV (As := [.int p1]) (rest := []) ⟨hx, hb, hml, hown, hts⟩ (h_isOut_X9 l D g σ Z hZ0 M N R y g_y p1 i9) (cwV 1 hts gX9_exchange_X9_isOut rfl rfl rfl (by decide +kernel) ⟨Nat.le_of_ble_eq_true rfl, Nat.le_of_ble_eq_true rfl⟩) (h_preV hZ0 hK hE hI g_y (by decide) rfl) rfl rfl hl.1 rfl (lv_room (Nat.le_of_ble_eq_true rfl)) dX9_exchange_23 ⟨Nat.le_of_ble_eq_true rfl, Nat.le_of_ble_eq_true rfl⟩) (fun r22 M23 N24 R25 H locs q26 z_M23 hI => ?_)
        obtain ⟨rfl, rfl, rfl, i_r22, z27⟩ := q26
        refine lv_if_ne (tgt := 37) hx hb dX9_exchange_26 (by decide) (fun c28 => ?_) (fun c28 => ?_)
        · have i29 : iv r22 1 1 := iv_neL c28 i_r22 (by decide) (by decide)
          refine lv_iconst (v := (-1)) hx hb dX9_exchange_37 (by decide) ?_
          exact h_iret hQ hx hb hr hlocks rfl hK hI ⟨rfl, rfl, (iv_w (lo' := (-1)) (hi' := 7) kc_m1 (by decide) (by decide)), m0_KV, m0_WV⟩ dX9_exchange_38
        · have i30 := z27 c28
          have i31 : iv r22 0 0 := iv_eq1 c28 i_r22 kc_0
          refine lv_aload_n hx hb dX9_exchange_29 rfl (lv_at hl 0 rfl) ?_
          refine lv_iload_n hx hb dX9_exchange_30 rfl (lv_at hl 2 rfl) ?_
          refine h_goi hI (by decide) (va_runV (As := [.int p2]) (rest := []) ⟨hx, hb, hml, hown, hts⟩ (h_isOut_X9 l D g σ Z hZ0 M N R y g_y p2 i19) (cwV 1 hts gX9_exchange_X9_isOut rfl rfl rfl (by decide +kernel) ⟨Nat.le_of_ble_eq_true rfl, Nat.le_of_ble_eq_true rfl⟩) (h_preV hZ0 hK hE hI g_y (by decide) rfl) rfl rfl hl.1 rfl (lv_room (Nat.le_of_ble_eq_true rfl)) dX9_exchange_31 ⟨Nat.le_of_ble_eq_true rfl, Nat.le_of_ble_eq_true rfl⟩) (fun r32 M33 N34 R35 H locs q36 z_M33 hI => ?_)
          obtain ⟨rfl, rfl, rfl, i_r32, z37⟩ := q36
          refine lv_if_eq (tgt := 39) hx hb dX9_exchange_34 (by decide) (fun c38 => ?_) (fun c38 => ?_)
          · have i39 := z37 c38
            have i40 : iv r32 0 0 := iv_eq1 c38 i_r32 kc_0
            refine lv_aload_n hx hb dX9_exchange_39 rfl (lv_at hl 0 rfl) ?_
            refine h_gov hI (by decide) (va_runV (As := []) (rest := []) ⟨hx, hb, hml, hown, hts⟩ (h_keepAct_X9 l D g σ Z hZ0 M N R y g_y m0_KV m0_WV) (cwV 0 hts gX9_exchange_X9_keepAct rfl rfl rfl (by decide +kernel) ⟨Nat.le_of_ble_eq_true rfl, Nat.le_of_ble_eq_true rfl⟩) (h_preV hZ0 hK hE hI g_y (by decide) rfl) rfl rfl hl.1 rfl (lv_room (Nat.le_of_ble_eq_true rfl)) dX9_exchange_40 ⟨Nat.le_of_ble_eq_true rfl, Nat.le_of_ble_eq_true rfl⟩) (fun M42 N43 R44 H locs q45 z_M42 hI => ?_)
            obtain ⟨rfl, rfl, z46⟩ := q45
            refine lv_aload_n hx hb dX9_exchange_43 rfl (lv_at hl 0 rfl) ?_
            refine h_getr hx hb hts iX9_exchange_X9 hown hK hI g_y (by decide) rfl rfl 45 (by decide) rfl 145 rfl (hts (.fieldLink RX9 94 "CatLeasesModel" "all" "[I") (List.mem_of_getElem? (i := 1) rfl)) (fun _ h9 => h9) dX9_exchange_44 (fun a47 e_a47 g_a47 => ?_)
            refine lv_iconst (v := 0) hx hb dX9_exchange_47 (by decide) ?_
            refine lv_iload_n hx hb dX9_exchange_48 rfl (lv_at hl 2 rfl) ?_
            refine lv_iadd hx hb dX9_exchange_49 ?_
            refine k_top (v := p2) (Int32.zero_add _) ?_
            refine h_iald (j := p2.toNatClampNeg) (lo := (-1)) (hi := 7) hx hb hK hI g_a47 (by decide) rfl (iv_in (n := 39) i19 (by decide) (by decide)) rfl (hI.iv2 (n := 39) (c := 0) (d := 7) g_a47 rfl (in_lt (iv_in (n := 39) i19 (by decide) (by decide))) (iv_nat1 i19 (by decide)) (iv_nat2 i19 (by decide) (by decide)) (by decide)) dX9_exchange_50 (fun v48 e_v48 i_v48 => ?_)
            have i49 : iv (M42 (R y 45) p2.toNatClampNeg) 0 7 := by rw [(hAg.row z_M42 (hI.2.1.r1 g_y 45 145 (by decide) rfl) (fun _ => rfl))]; exact i39
            have i50 : iv v48 0 7 := by rw [e_v48, e_a47]; exact i49
            refine lv_istore_n (lv' := [(3, .int v48), (0, .ref y), (1, .int p1), (2, .int p2)]) hx hb dX9_exchange_51 rfl hl (by decide) rfl (fun ls hl => ?_)
            refine lv_aload_n hx hb dX9_exchange_52 rfl (lv_at hl 1 rfl) ?_
            refine lv_iload_n hx hb dX9_exchange_53 rfl (lv_at hl 3 rfl) ?_
            refine lv_aload_n hx hb dX9_exchange_54 rfl (lv_at hl 1 rfl) ?_
            refine h_getr hx hb hts iX9_exchange_X9 hown hK hI g_y (by decide) rfl rfl 45 (by decide) rfl 145 rfl (hts (.fieldLink RX9 94 "CatLeasesModel" "all" "[I") (List.mem_of_getElem? (i := 1) rfl)) (fun _ h9 => h9) dX9_exchange_55 (fun a51 e_a51 g_a51 => ?_)
            have q52 : a47 = a51 := (e_a47).trans e_a51.symm
            subst q52
            refine lv_iconst (v := 0) hx hb dX9_exchange_58 (by decide) ?_
            refine lv_iload_n hx hb dX9_exchange_59 rfl (lv_at hl 2 rfl) ?_
            refine lv_iadd hx hb dX9_exchange_60 ?_
            refine k_top (v := p1) (Int32.zero_add _) ?_
            refine h_iald (j := p1.toNatClampNeg) (lo := (-1)) (hi := 7) hx hb hK hI g_a47 (by decide) rfl (iv_in (n := 39) i9 (by decide) (by decide)) rfl (hI.iv2 (n := 39) (c := 0) (d := 7) g_a47 rfl (in_lt (iv_in (n := 39) i9 (by decide) (by decide))) (iv_nat1 i9 (by decide)) (iv_nat2 i9 (by decide) (by decide)) (by decide)) dX9_exchange_61 (fun v53 e_v53 i_v53 => ?_)
            have i54 : iv (M42 (R y 45) p1.toNatClampNeg) 0 7 := by rw [(hAg.row z_M42 (hI.2.1.r1 g_y 45 145 (by decide) rfl) (fun _ => rfl))]; exact i30
            have i55 : iv v53 0 7 := by rw [e_v53, e_a47]; exact i54
            refine h_gov hI (by decide) (va_runV (As := [.int p2, .int v53]) (rest := []) ⟨hx, hb, hml, hown, hts⟩ (h_goIn_X9 l D g σ Z hZ0 M42 N R y g_y p2 i19 v53 (iv_w (lo' := (-1)) (hi' := 7) i55 (by decide) (by decide))) (cwV 2 hts gX9_exchange_X9_goIn rfl rfl rfl (by decide +kernel) ⟨Nat.le_of_ble_eq_true rfl, Nat.le_of_ble_eq_true rfl⟩) (h_preV hZ0 hK hE hI g_y (by decide) rfl) rfl rfl hl.1 rfl (lv_room (Nat.le_of_ble_eq_true rfl)) dX9_exchange_62 ⟨Nat.le_of_ble_eq_true rfl, Nat.le_of_ble_eq_true rfl⟩) (fun M57 N58 R59 H locs q60 z_M57 hI => ?_)
            obtain ⟨rfl, rfl, m61⟩ := q60
            refine lv_aload_n hx hb dX9_exchange_65 rfl (lv_at hl 1 rfl) ?_
            refine lv_iload_n hx hb dX9_exchange_66 rfl (lv_at hl 2 rfl) ?_
            refine lv_iload_n hx hb dX9_exchange_67 rfl (lv_at hl 0 rfl) ?_
            refine h_gov hI (by decide) (va_runV (As := [.int p1, .int v48]) (rest := []) ⟨hx, hb, hml, hown, hts⟩ (h_goIn_X9 l D g σ Z hZ0 M57 N R y g_y p1 i9 v48 (iv_w (lo' := (-1)) (hi' := 7) i50 (by decide) (by decide))) (cwV 2 hts gX9_exchange_X9_goIn rfl rfl rfl (by decide +kernel) ⟨Nat.le_of_ble_eq_true rfl, Nat.le_of_ble_eq_true rfl⟩) (h_preV hZ0 hK hE hI g_y (by decide) rfl) rfl rfl hl.1 rfl (lv_room (Nat.le_of_ble_eq_true rfl)) dX9_exchange_68 ⟨Nat.le_of_ble_eq_true rfl, Nat.le_of_ble_eq_true rfl⟩) (fun M63 N64 R65 H locs q66 z_M63 hI => ?_)
            obtain ⟨rfl, rfl, m67⟩ := q66
            refine lv_iload_n hx hb dX9_exchange_71 rfl (lv_at hl 0 rfl) ?_
            have m68 : KV M63 R y := (m67 (m61 (KV_ag hI.2.1 g_y m0_KV (hAd.ag z_M42 (by decide)))))
            have m69 : WV M63 R y := (WV_ag hI.2.1 g_y (WV_ag hI.2.1 g_y z46 (hAd.ag z_M57 (by decide))) (hAd.ag z_M63 (by decide)))
            exact h_iret hQ hx hb hr hlocks rfl hK hI ⟨rfl, rfl, (iv_w (lo' := (-1)) (hi' := 7) i50 (by decide) (by decide)), m68, m69⟩ dX9_exchange_72
          · have i70 : iv r32 1 1 := iv_neL c38 i_r32 (by decide) (by decide)
            refine lv_iconst (v := (-1)) hx hb dX9_exchange_37 (by decide) ?_
            exact h_iret hQ hx hb hr hlocks rfl hK hI ⟨rfl, rfl, (iv_w (lo' := (-1)) (hi' := 7) kc_m1 (by decide) (by decide)), m0_KV, m0_WV⟩ dX9_exchange_38
abbrev e_h_tellAnew_X9 : List (Nat × Nat) := [(9, 50), (9, 51), (145, 999), (149, 999)]
set_option maxHeartbeats 4000000 in
set_option maxRecDepth 100000 in
theorem h_tellAnew_X9 (l : Launch) (D : va_G) (g : Nat → ClassId) (σ : Nat → Option Nat) (Z : State → Heap → Prop) (hZ0 : hZ σ Z) (M : hM) (N : hN) (R : hR) (y : Nat) (g_y : σ y = some 9) (p1 : Int32) (h_p1 : iv p1 22 35) (p2 : Int32) (m0_KV : KV M R y) (m0_WV : WV M R y) : Met l yX9_tellAnew wsX9_tellAnew ({ frames := 1, cells := 0, slots := 0, locals := 21 }) (va_Pc [.ref y, .int p1, .int p2] (hPre D g σ Z M N R)) (hQi D g σ e_h_tellAnew_X9 M (fun (r : Int32) (M1 : hM) (N1 : hN) (R1 : hR) => N = N1 ∧ R = R1 ∧ (KV M1 R y) ∧ (WV M1 R y))) 0 0 (hA σ) := by
  refine h_head (cc := cX9_tellAnew) (maxL := 4) (ret := (some .int)) (by decide) rfl (Nat.le_of_ble_eq_true rfl) e_h_tellAnew_X9 ?_
  intro p e s m below meth c ls Q ar hQ hx hb hr hlocks hml hown hts hK hE H locs hI hl
  have hown : s.vm.findClass RX9 = some m.cls := hown
  have hl : lv_has ls 4 [(0, .ref y), (1, .int p1), (2, .int p2)] := hl
  refine lv_aload_n hx hb dX9_tellAnew_0 rfl (lv_at hl 0 rfl) ?_
  refine h_getr hx hb hts iX9_tellAnew_X9 hown hK hI g_y (by decide) rfl rfl 45 (by decide) rfl 145 rfl (hts (.fieldLink RX9 94 "CatLeasesModel" "all" "[I") (List.mem_of_getElem? (i := 1) rfl)) (fun _ h9 => h9) dX9_tellAnew_1 (fun a1 e_a1 g_a1 => ?_)
  refine lv_iload_n hx hb dX9_tellAnew_4 rfl (lv_at hl 1 rfl) ?_
  refine h_iald (j := p1.toNatClampNeg) (lo := (-2147483648)) (hi := 2147483647) hx hb hK hI g_a1 (by decide) rfl (iv_in (n := 39) h_p1 (by decide) (by decide)) rfl (iv_any _) dX9_tellAnew_5 (fun v2 e_v2 i_v2 => ?_)
  refine lv_iload_n hx hb dX9_tellAnew_6 rfl (lv_at hl 2 rfl) ?_
  refine lv_icmp_ne (tgt := 12) hx hb dX9_tellAnew_7 (by decide) (fun c3 => ?_) (fun c3 => ?_)
  · refine lv_aload_n hx hb dX9_tellAnew_12 rfl (lv_at hl 0 rfl) ?_
    refine h_gov hI (by decide) (va_runV (As := []) (rest := []) ⟨hx, hb, hml, hown, hts⟩ (h_keepAct_X9 l D g σ Z hZ0 M N R y g_y m0_KV m0_WV) (cwV 0 hts gX9_tellAnew_X9_keepAct rfl rfl rfl (by decide +kernel) ⟨Nat.le_of_ble_eq_true rfl, Nat.le_of_ble_eq_true rfl⟩) (h_preV hZ0 hK hE hI g_y (by decide) rfl) rfl rfl hl.1 rfl (lv_room (Nat.le_of_ble_eq_true rfl)) dX9_tellAnew_13 ⟨Nat.le_of_ble_eq_true rfl, Nat.le_of_ble_eq_true rfl⟩) (fun M5 N6 R7 H locs q8 z_M5 hI => ?_)
    obtain ⟨rfl, rfl, z9⟩ := q8
    refine lv_aload_n hx hb dX9_tellAnew_16 rfl (lv_at hl 0 rfl) ?_
    refine h_getr hx hb hts iX9_tellAnew_X9 hown hK hI g_y (by decide) rfl rfl 45 (by decide) rfl 145 rfl (hts (.fieldLink RX9 94 "CatLeasesModel" "all" "[I") (List.mem_of_getElem? (i := 1) rfl)) (fun _ h9 => h9) dX9_tellAnew_17 (fun a10 e_a10 g_a10 => ?_)
    have q11 : a1 = a10 := (e_a1).trans e_a10.symm
    subst q11
    refine lv_iload_n hx hb dX9_tellAnew_20 rfl (lv_at hl 1 rfl) ?_
    refine h_iald (j := p1.toNatClampNeg) (lo := (-2147483648)) (hi := 2147483647) hx hb hK hI g_a1 (by decide) rfl (iv_in (n := 39) h_p1 (by decide) (by decide)) rfl (iv_any _) dX9_tellAnew_21 (fun v12 e_v12 i_v12 => ?_)
    have q13 : v2 = v12 := ((e_v2).trans (z_M5 a1 145 p1.toNatClampNeg g_a1 rfl).symm).trans e_v12.symm
    subst q13
    refine lv_istore_n (lv' := [(3, .int v2), (0, .ref y), (1, .int p1), (2, .int p2)]) hx hb dX9_tellAnew_22 rfl hl (by decide) rfl (fun ls hl => ?_)
    refine lv_aload_n hx hb dX9_tellAnew_23 rfl (lv_at hl 1 rfl) ?_
    refine h_getr hx hb hts iX9_tellAnew_X9 hown hK hI g_y (by decide) rfl rfl 45 (by decide) rfl 145 rfl (hts (.fieldLink RX9 94 "CatLeasesModel" "all" "[I") (List.mem_of_getElem? (i := 1) rfl)) (fun _ h9 => h9) dX9_tellAnew_24 (fun a14 e_a14 g_a14 => ?_)
    have q15 : a1 = a14 := (e_a1).trans e_a14.symm
    subst q15
    refine lv_iload_n hx hb dX9_tellAnew_27 rfl (lv_at hl 2 rfl) ?_
    refine lv_iload_n hx hb dX9_tellAnew_28 rfl (lv_at hl 3 rfl) ?_
    refine h_iast (j := p1.toNatClampNeg) hx hb hK hI g_a1 (by decide) rfl (iv_in (n := 39) h_p1 (by decide) (by decide)) rfl (iv_posA (so := 145) (c := 22) (d := 36) (iv_nat1 h_p1 (by decide)) (iv_nat2 h_p1 (by decide) (by decide)) (by decide)) rfl dX9_tellAnew_29 (fun M16 H locs e_M16 hI => ?_)
    refine lv_iload_n hx hb dX9_tellAnew_30 rfl (lv_at hl 0 rfl) ?_
    have m17 : KV M16 R y := (KV_off hI.2.1 g_y (KV_ag hI.2.1 g_y m0_KV (hAd.ag z_M5 (by decide))) e_M16 g_a1 (Or.inr (iv_nat1 h_p1 (by decide))))
    have m18 : WV M16 R y := (WV_ag hI.2.1 g_y z9 (hAd.put e_M16 g_a1 rfl))
    exact h_iret hQ hx hb hr hlocks rfl hK hI ⟨rfl, rfl, m17, m18⟩ dX9_tellAnew_31
  · refine lv_iconst (v := (-1)) hx hb dX9_tellAnew_10 (by decide) ?_
    exact h_iret hQ hx hb hr hlocks rfl hK hI ⟨rfl, rfl, m0_KV, m0_WV⟩ dX9_tellAnew_11
abbrev e_h_spend_X9 : List (Nat × Nat) := [(9, 50), (9, 51), (145, 999), (149, 999)]
set_option maxHeartbeats 4000000 in
set_option maxRecDepth 100000 in
theorem h_spend_X9 (l : Launch) (D : va_G) (g : Nat → ClassId) (σ : Nat → Option Nat) (Z : State → Heap → Prop) (hZ0 : hZ σ Z) (M : hM) (N : hN) (R : hR) (y : Nat) (g_y : σ y = some 9) (p1 : Int32) (p2 : Int32) (m0_KV : KV M R y) (m0_WV : WV M R y) : Met l yX9_spend wsX9_spend ({ frames := 2, cells := 0, slots := 0, locals := 44 }) (va_Pc [.ref y, .int p1, .int p2] (hPre D g σ Z M N R)) (hQi D g σ e_h_spend_X9 M (fun (r : Int32) (M1 : hM) (N1 : hN) (R1 : hR) => N = N1 ∧ R = R1 ∧ (KV M1 R y) ∧ (WV M1 R y))) 0 0 (hA σ) := by
  refine h_head (cc := cX9_spend) (maxL := 3) (ret := (some .int)) (by decide) rfl (Nat.le_of_ble_eq_true rfl) e_h_spend_X9 ?_
  intro p e s m below meth c ls Q ar hQ hx hb hr hlocks hml hown hts hK hE H locs hI hl
  have hown : s.vm.findClass RX9 = some m.cls := hown
  have hl : lv_has ls 3 [(0, .ref y), (1, .int p1), (2, .int p2)] := hl
  refine lv_aload_n hx hb dX9_spend_0 rfl (lv_at hl 0 rfl) ?_
  refine lv_iload_n hx hb dX9_spend_1 rfl (lv_at hl 1 rfl) ?_
  refine h_goi hI (by decide) (va_runV (As := [.int p1]) (rest := []) ⟨hx, hb, hml, hown, hts⟩ (h_isTenant_X9 l D g σ Z hZ0 M N R y g_y p1) (cwV 1 hts gX9_spend_X9_isTenant rfl rfl rfl (by decide +kernel) ⟨Nat.le_of_ble_eq_true rfl, Nat.le_of_ble_eq_true rfl⟩) (h_preV hZ0 hK hE hI g_y (by decide) rfl) rfl rfl hl.1 rfl (lv_room (Nat.le_of_ble_eq_true rfl)) dX9_spend_2 ⟨Nat.le_of_ble_eq_true rfl, Nat.le_of_ble_eq_true rfl⟩) (fun r1 M2 N3 R4 H locs q5 z_M2 hI => ?_)
  obtain ⟨rfl, rfl, rfl, i_r1, z6⟩ := q5
  refine lv_if_eq (tgt := 30) hx hb dX9_spend_5 (by decide) (fun c7 => ?_) (fun c7 => ?_)
  · have i8 : iv r1 0 0 := iv_eq1 c7 i_r1 kc_0
    refine lv_iconst (v := (-1)) hx hb dX9_spend_30 (by decide) ?_
    exact h_iret hQ hx hb hr hlocks rfl hK hI ⟨rfl, rfl, m0_KV, m0_WV⟩ dX9_spend_31
  · have i9 : iv p1 0 6 := z6 c7
    have i10 : iv r1 1 1 := iv_neL c7 i_r1 (by decide) (by decide)
    refine lv_iload_n hx hb dX9_spend_8 rfl (lv_at hl 2 rfl) ?_
    refine lv_iconst (v := 0) hx hb dX9_spend_9 (by decide) ?_
    refine lv_bipush (v := 99) hx hb dX9_spend_10 (by decide) ?_
    refine h_goi hI (by decide) (va_runS (As := [.int p2, .int (0 : Int32), .int (99 : Int32)]) (rest := []) ⟨hx, hb, hml, hown, hts⟩ (h_isIn_X9 l D g σ Z hZ0 M N R p2 (0 : Int32) (99 : Int32)) (va_cwS 3 hts gX9_spend_X9_isIn rfl rfl rfl (by decide +kernel) ⟨Nat.le_of_ble_eq_true rfl, Nat.le_of_ble_eq_true rfl⟩) (h_preS hZ0 hK hE hI) rfl rfl hl.1 rfl (lv_room (Nat.le_of_ble_eq_true rfl)) dX9_spend_12 ⟨Nat.le_of_ble_eq_true rfl, Nat.le_of_ble_eq_true rfl⟩) (fun r11 M12 N13 R14 H locs q15 z_M12 hI => ?_)
    obtain ⟨rfl, rfl, rfl, i_r11, z16⟩ := q15
    refine lv_if_eq (tgt := 30) hx hb dX9_spend_15 (by decide) (fun c17 => ?_) (fun c17 => ?_)
    · have i18 : iv r11 0 0 := iv_eq1 c17 i_r11 kc_0
      refine lv_iconst (v := (-1)) hx hb dX9_spend_30 (by decide) ?_
      exact h_iret hQ hx hb hr hlocks rfl hK hI ⟨rfl, rfl, m0_KV, m0_WV⟩ dX9_spend_31
    · have i19 : iv p2 0 99 := (fun h9 => iv_isin (z16 h9) kc_0 kc_99) c17
      have i20 : iv r11 1 1 := iv_neL c17 i_r11 (by decide) (by decide)
      refine lv_aload_n hx hb dX9_spend_18 rfl (lv_at hl 0 rfl) ?_
      refine lv_bipush (v := 22) hx hb dX9_spend_19 (by decide) ?_
      refine lv_iload_n hx hb dX9_spend_21 rfl (lv_at hl 1 rfl) ?_
      refine lv_iadd hx hb dX9_spend_22 ?_
      refine h_nm (lo := 22) (hi := 28) (iv_add kc_22 i9 (by decide) (by decide) (by decide) (by decide)) (fun v21 e_v21 i_v21 => ?_)
      refine lv_iload_n hx hb dX9_spend_23 rfl (lv_at hl 2 rfl) ?_
      refine h_goi hI (by decide) (va_runV (As := [.int v21, .int p2]) (rest := []) ⟨hx, hb, hml, hown, hts⟩ (h_tellAnew_X9 l D g σ Z hZ0 M N R y g_y v21 (iv_w (lo' := 22) (hi' := 35) i_v21 (by decide) (by decide)) p2 m0_KV m0_WV) (cwV 2 hts gX9_spend_X9_tellAnew rfl rfl rfl (by decide +kernel) ⟨Nat.le_of_ble_eq_true rfl, Nat.le_of_ble_eq_true rfl⟩) (h_preV hZ0 hK hE hI g_y (by decide) rfl) rfl rfl hl.1 rfl (lv_room (Nat.le_of_ble_eq_true rfl)) dX9_spend_24 ⟨Nat.le_of_ble_eq_true rfl, Nat.le_of_ble_eq_true rfl⟩) (fun r22 M23 N24 R25 H locs q26 z_M23 hI => ?_)
      obtain ⟨rfl, rfl, m27, z28⟩ := q26
      refine lv_goto (tgt := 31) hx hb dX9_spend_27 (by decide) ?_
      exact h_iret hQ hx hb hr hlocks rfl hK hI ⟨rfl, rfl, m27, z28⟩ dX9_spend_31
abbrev e_h_calm_X9 : List (Nat × Nat) := [(9, 50), (9, 51), (145, 999), (149, 999)]
set_option maxHeartbeats 4000000 in
set_option maxRecDepth 100000 in
theorem h_calm_X9 (l : Launch) (D : va_G) (g : Nat → ClassId) (σ : Nat → Option Nat) (Z : State → Heap → Prop) (hZ0 : hZ σ Z) (M : hM) (N : hN) (R : hR) (y : Nat) (g_y : σ y = some 9) (p1 : Int32) (p2 : Int32) (m0_KV : KV M R y) (m0_WV : WV M R y) : Met l yX9_calm wsX9_calm ({ frames := 2, cells := 0, slots := 0, locals := 44 }) (va_Pc [.ref y, .int p1, .int p2] (hPre D g σ Z M N R)) (hQi D g σ e_h_calm_X9 M (fun (r : Int32) (M1 : hM) (N1 : hN) (R1 : hR) => N = N1 ∧ R = R1 ∧ (KV M1 R y) ∧ (WV M1 R y))) 0 0 (hA σ) := by
  refine h_head (cc := cX9_calm) (maxL := 3) (ret := (some .int)) (by decide) rfl (Nat.le_of_ble_eq_true rfl) e_h_calm_X9 ?_
  intro p e s m below meth c ls Q ar hQ hx hb hr hlocks hml hown hts hK hE H locs hI hl
  have hown : s.vm.findClass RX9 = some m.cls := hown
  have hl : lv_has ls 3 [(0, .ref y), (1, .int p1), (2, .int p2)] := hl
  refine lv_aload_n hx hb dX9_calm_0 rfl (lv_at hl 0 rfl) ?_
  refine lv_iload_n hx hb dX9_calm_1 rfl (lv_at hl 1 rfl) ?_
  refine h_goi hI (by decide) (va_runV (As := [.int p1]) (rest := []) ⟨hx, hb, hml, hown, hts⟩ (h_isTenant_X9 l D g σ Z hZ0 M N R y g_y p1) (cwV 1 hts gX9_calm_X9_isTenant rfl rfl rfl (by decide +kernel) ⟨Nat.le_of_ble_eq_true rfl, Nat.le_of_ble_eq_true rfl⟩) (h_preV hZ0 hK hE hI g_y (by decide) rfl) rfl rfl hl.1 rfl (lv_room (Nat.le_of_ble_eq_true rfl)) dX9_calm_2 ⟨Nat.le_of_ble_eq_true rfl, Nat.le_of_ble_eq_true rfl⟩) (fun r1 M2 N3 R4 H locs q5 z_M2 hI => ?_)
  obtain ⟨rfl, rfl, rfl, i_r1, z6⟩ := q5
  refine lv_if_eq (tgt := 30) hx hb dX9_calm_5 (by decide) (fun c7 => ?_) (fun c7 => ?_)
  · have i8 : iv r1 0 0 := iv_eq1 c7 i_r1 kc_0
    refine lv_iconst (v := (-1)) hx hb dX9_calm_30 (by decide) ?_
    exact h_iret hQ hx hb hr hlocks rfl hK hI ⟨rfl, rfl, m0_KV, m0_WV⟩ dX9_calm_31
  · have i9 : iv p1 0 6 := z6 c7
    have i10 : iv r1 1 1 := iv_neL c7 i_r1 (by decide) (by decide)
    refine lv_iload_n hx hb dX9_calm_8 rfl (lv_at hl 2 rfl) ?_
    refine lv_iconst (v := 0) hx hb dX9_calm_9 (by decide) ?_
    refine lv_bipush (v := 9) hx hb dX9_calm_10 (by decide) ?_
    refine h_goi hI (by decide) (va_runS (As := [.int p2, .int (0 : Int32), .int (9 : Int32)]) (rest := []) ⟨hx, hb, hml, hown, hts⟩ (h_isIn_X9 l D g σ Z hZ0 M N R p2 (0 : Int32) (9 : Int32)) (va_cwS 3 hts gX9_calm_X9_isIn rfl rfl rfl (by decide +kernel) ⟨Nat.le_of_ble_eq_true rfl, Nat.le_of_ble_eq_true rfl⟩) (h_preS hZ0 hK hE hI) rfl rfl hl.1 rfl (lv_room (Nat.le_of_ble_eq_true rfl)) dX9_calm_12 ⟨Nat.le_of_ble_eq_true rfl, Nat.le_of_ble_eq_true rfl⟩) (fun r11 M12 N13 R14 H locs q15 z_M12 hI => ?_)
    obtain ⟨rfl, rfl, rfl, i_r11, z16⟩ := q15
    refine lv_if_eq (tgt := 30) hx hb dX9_calm_15 (by decide) (fun c17 => ?_) (fun c17 => ?_)
    · have i18 : iv r11 0 0 := iv_eq1 c17 i_r11 kc_0
      refine lv_iconst (v := (-1)) hx hb dX9_calm_30 (by decide) ?_
      exact h_iret hQ hx hb hr hlocks rfl hK hI ⟨rfl, rfl, m0_KV, m0_WV⟩ dX9_calm_31
    · have i19 : iv p2 0 9 := (fun h9 => iv_isin (z16 h9) kc_0 kc_9) c17
      have i20 : iv r11 1 1 := iv_neL c17 i_r11 (by decide) (by decide)
      refine lv_aload_n hx hb dX9_calm_18 rfl (lv_at hl 0 rfl) ?_
      refine lv_bipush (v := 29) hx hb dX9_calm_19 (by decide) ?_
      refine lv_iload_n hx hb dX9_calm_21 rfl (lv_at hl 1 rfl) ?_
      refine lv_iadd hx hb dX9_calm_22 ?_
      refine h_nm (lo := 29) (hi := 35) (iv_add kc_29 i9 (by decide) (by decide) (by decide) (by decide)) (fun v21 e_v21 i_v21 => ?_)
      refine lv_iload_n hx hb dX9_calm_23 rfl (lv_at hl 2 rfl) ?_
      refine h_goi hI (by decide) (va_runV (As := [.int v21, .int p2]) (rest := []) ⟨hx, hb, hml, hown, hts⟩ (h_tellAnew_X9 l D g σ Z hZ0 M N R y g_y v21 (iv_w (lo' := 22) (hi' := 35) i_v21 (by decide) (by decide)) p2 m0_KV m0_WV) (cwV 2 hts gX9_calm_X9_tellAnew rfl rfl rfl (by decide +kernel) ⟨Nat.le_of_ble_eq_true rfl, Nat.le_of_ble_eq_true rfl⟩) (h_preV hZ0 hK hE hI g_y (by decide) rfl) rfl rfl hl.1 rfl (lv_room (Nat.le_of_ble_eq_true rfl)) dX9_calm_24 ⟨Nat.le_of_ble_eq_true rfl, Nat.le_of_ble_eq_true rfl⟩) (fun r22 M23 N24 R25 H locs q26 z_M23 hI => ?_)
      obtain ⟨rfl, rfl, m27, z28⟩ := q26
      refine lv_goto (tgt := 31) hx hb dX9_calm_27 (by decide) ?_
      exact h_iret hQ hx hb hr hlocks rfl hK hI ⟨rfl, rfl, m27, z28⟩ dX9_calm_31
abbrev e_h_claim_X9 : List (Nat × Nat) := [(9, 50), (9, 51), (145, 999), (149, 999)]
set_option maxHeartbeats 4000000 in
set_option maxRecDepth 100000 in
theorem h_claim_X9 (l : Launch) (D : va_G) (g : Nat → ClassId) (σ : Nat → Option Nat) (Z : State → Heap → Prop) (hZ0 : hZ σ Z) (M : hM) (N : hN) (R : hR) (y : Nat) (g_y : σ y = some 9) (p1 : Int32) (p2 : Int32) (m0_KV : KV M R y) (m0_WV : WV M R y) : Met l yX9_claim wsX9_claim ({ frames := 2, cells := 0, slots := 0, locals := 44 }) (va_Pc [.ref y, .int p1, .int p2] (hPre D g σ Z M N R)) (hQi D g σ e_h_claim_X9 M (fun (r : Int32) (M1 : hM) (N1 : hN) (R1 : hR) => N = N1 ∧ R = R1 ∧ (KV M1 R y) ∧ (WV M1 R y))) 0 0 (hA σ) := by
  refine h_head (cc := cX9_claim) (maxL := 3) (ret := (some .int)) (by decide) rfl (Nat.le_of_ble_eq_true rfl) e_h_claim_X9 ?_
  intro p e s m below meth c ls Q ar hQ hx hb hr hlocks hml hown hts hK hE H locs hI hl
  have hown : s.vm.findClass RX9 = some m.cls := hown
  have hl : lv_has ls 3 [(0, .ref y), (1, .int p1), (2, .int p2)] := hl
  refine lv_aload_n hx hb dX9_claim_0 rfl (lv_at hl 0 rfl) ?_
  refine lv_iload_n hx hb dX9_claim_1 rfl (lv_at hl 1 rfl) ?_
  refine h_goi hI (by decide) (va_runV (As := [.int p1]) (rest := []) ⟨hx, hb, hml, hown, hts⟩ (h_isRoom_X9 l D g σ Z hZ0 M N R y g_y p1) (cwV 1 hts gX9_claim_X9_isRoom rfl rfl rfl (by decide +kernel) ⟨Nat.le_of_ble_eq_true rfl, Nat.le_of_ble_eq_true rfl⟩) (h_preV hZ0 hK hE hI g_y (by decide) rfl) rfl rfl hl.1 rfl (lv_room (Nat.le_of_ble_eq_true rfl)) dX9_claim_2 ⟨Nat.le_of_ble_eq_true rfl, Nat.le_of_ble_eq_true rfl⟩) (fun r1 M2 N3 R4 H locs q5 z_M2 hI => ?_)
  obtain ⟨rfl, rfl, rfl, i_r1, z6⟩ := q5
  refine lv_if_eq (tgt := 32) hx hb dX9_claim_5 (by decide) (fun c7 => ?_) (fun c7 => ?_)
  · have i8 : iv r1 0 0 := iv_eq1 c7 i_r1 kc_0
    refine lv_iconst (v := (-1)) hx hb dX9_claim_32 (by decide) ?_
    exact h_iret hQ hx hb hr hlocks rfl hK hI ⟨rfl, rfl, m0_KV, m0_WV⟩ dX9_claim_33
  · have i9 : iv p1 0 7 := z6 c7
    have i10 : iv r1 1 1 := iv_neL c7 i_r1 (by decide) (by decide)
    refine lv_aload_n hx hb dX9_claim_8 rfl (lv_at hl 0 rfl) ?_
    refine lv_iload_n hx hb dX9_claim_9 rfl (lv_at hl 2 rfl) ?_
    refine h_goi hI (by decide) (va_runV (As := [.int p2]) (rest := []) ⟨hx, hb, hml, hown, hts⟩ (h_isCat_X9 l D g σ Z hZ0 M N R y g_y p2) (cwV 1 hts gX9_claim_X9_isCat rfl rfl rfl (by decide +kernel) ⟨Nat.le_of_ble_eq_true rfl, Nat.le_of_ble_eq_true rfl⟩) (h_preV hZ0 hK hE hI g_y (by decide) rfl) rfl rfl hl.1 rfl (lv_room (Nat.le_of_ble_eq_true rfl)) dX9_claim_10 ⟨Nat.le_of_ble_eq_true rfl, Nat.le_of_ble_eq_true rfl⟩) (fun r11 M12 N13 R14 H locs q15 z_M12 hI => ?_)
    obtain ⟨rfl, rfl, rfl, i_r11, z16, z17⟩ := q15
    refine lv_if_eq (tgt := 32) hx hb dX9_claim_13 (by decide) (fun c18 => ?_) (fun c18 => ?_)
    · have i19 : iv r11 0 0 := iv_eq1 c18 i_r11 kc_0
      refine lv_iconst (v := (-1)) hx hb dX9_claim_32 (by decide) ?_
      exact h_iret hQ hx hb hr hlocks rfl hK hI ⟨rfl, rfl, m0_KV, m0_WV⟩ dX9_claim_33
    · have i20 : iv p2 0 5 := z16 c18
      have i21 : iv r11 1 1 := iv_neL c18 i_r11 (by decide) (by decide)
      refine lv_aload_n hx hb dX9_claim_16 rfl (lv_at hl 0 rfl) ?_
      refine lv_iload_n hx hb dX9_claim_17 rfl (lv_at hl 1 rfl) ?_
      refine h_goi hI (by decide) (va_runV (As := [.int p1]) (rest := []) ⟨hx, hb, hml, hown, hts⟩ (h_keeperOf_X9 l D g σ Z hZ0 M N R y g_y p1 i9) (cwV 1 hts gX9_claim_X9_keeperOf rfl rfl rfl (by decide +kernel) ⟨Nat.le_of_ble_eq_true rfl, Nat.le_of_ble_eq_true rfl⟩) (h_preV hZ0 hK hE hI g_y (by decide) rfl) rfl rfl hl.1 rfl (lv_room (Nat.le_of_ble_eq_true rfl)) dX9_claim_18 ⟨Nat.le_of_ble_eq_true rfl, Nat.le_of_ble_eq_true rfl⟩) (fun r22 M23 N24 R25 H locs q26 z_M23 hI => ?_)
      obtain ⟨rfl, rfl, rfl, i_r22, z27⟩ := q26
      refine lv_if_ge (tgt := 32) hx hb dX9_claim_21 (by decide) (fun c28 => ?_) (fun c28 => ?_)
      · have i29 : iv r22 0 5 := iv_le2 c28 kc_0 i_r22 (by decide)
        refine lv_iconst (v := (-1)) hx hb dX9_claim_32 (by decide) ?_
        exact h_iret hQ hx hb hr hlocks rfl hK hI ⟨rfl, rfl, m0_KV, m0_WV⟩ dX9_claim_33
      · have i30 : iv r22 (-1) (-1) := iv_nle2 c28 kc_0 i_r22 (by decide)
        refine lv_aload_n hx hb dX9_claim_24 rfl (lv_at hl 0 rfl) ?_
        refine lv_iload_n hx hb dX9_claim_25 rfl (lv_at hl 2 rfl) ?_
        refine h_goi hI (by decide) (va_runV (As := [.int p2]) (rest := []) ⟨hx, hb, hml, hown, hts⟩ (h_lives_X9 l D g σ Z hZ0 M N R y g_y p2) (cwV 1 hts gX9_claim_X9_lives rfl rfl rfl (by decide +kernel) ⟨Nat.le_of_ble_eq_true rfl, Nat.le_of_ble_eq_true rfl⟩) (h_preV hZ0 hK hE hI g_y (by decide) rfl) rfl rfl hl.1 rfl (lv_room (Nat.le_of_ble_eq_true rfl)) dX9_claim_26 ⟨Nat.le_of_ble_eq_true rfl, Nat.le_of_ble_eq_true rfl⟩) (fun r31 M32 N33 R34 H locs q35 z_M32 hI => ?_)
        obtain ⟨rfl, rfl, rfl, i_r31⟩ := q35
        refine lv_if_ne (tgt := 34) hx hb dX9_claim_29 (by decide) (fun c36 => ?_) (fun c36 => ?_)
        · have i37 : iv r31 1 1 := iv_neL c36 i_r31 (by decide) (by decide)
          refine lv_aload_n hx hb dX9_claim_34 rfl (lv_at hl 0 rfl) ?_
          refine h_gov hI (by decide) (va_runV (As := []) (rest := []) ⟨hx, hb, hml, hown, hts⟩ (h_keepAct_X9 l D g σ Z hZ0 M N R y g_y m0_KV m0_WV) (cwV 0 hts gX9_claim_X9_keepAct rfl rfl rfl (by decide +kernel) ⟨Nat.le_of_ble_eq_true rfl, Nat.le_of_ble_eq_true rfl⟩) (h_preV hZ0 hK hE hI g_y (by decide) rfl) rfl rfl hl.1 rfl (lv_room (Nat.le_of_ble_eq_true rfl)) dX9_claim_35 ⟨Nat.le_of_ble_eq_true rfl, Nat.le_of_ble_eq_true rfl⟩) (fun M39 N40 R41 H locs q42 z_M39 hI => ?_)
          obtain ⟨rfl, rfl, z43⟩ := q42
          refine lv_aload_n hx hb dX9_claim_38 rfl (lv_at hl 0 rfl) ?_
          refine h_getr hx hb hts iX9_claim_X9 hown hK hI g_y (by decide) rfl rfl 45 (by decide) rfl 145 rfl (hts (.fieldLink RX9 94 "CatLeasesModel" "all" "[I") (List.mem_of_getElem? (i := 1) rfl)) (fun _ h9 => h9) dX9_claim_39 (fun a44 e_a44 g_a44 => ?_)
          refine lv_bipush (v := 14) hx hb dX9_claim_42 (by decide) ?_
          refine lv_iload_n hx hb dX9_claim_44 rfl (lv_at hl 1 rfl) ?_
          refine lv_iadd hx hb dX9_claim_45 ?_
          refine h_nm (lo := 14) (hi := 21) (iv_add kc_14 i9 (by decide) (by decide) (by decide) (by decide)) (fun v45 e_v45 i_v45 => ?_)
          refine lv_iload_n hx hb dX9_claim_46 rfl (lv_at hl 2 rfl) ?_
          refine h_iast (j := v45.toNatClampNeg) hx hb hK hI g_a44 (by decide) rfl (iv_in (n := 39) i_v45 (by decide) (by decide)) rfl (iv_pos (so := 145) (c := 14) (d := 22) (lo := (-1)) (hi := 5) (iv_w (lo' := (-1)) (hi' := 5) i20 (by decide) (by decide)) (iv_nat1 i_v45 (by decide)) (iv_nat2 i_v45 (by decide) (by decide)) (by decide)) rfl dX9_claim_47 (fun M46 H locs e_M46 hI => ?_)
          refine lv_aload_n hx hb dX9_claim_48 rfl (lv_at hl 0 rfl) ?_
          refine lv_iload_n hx hb dX9_claim_49 rfl (lv_at hl 2 rfl) ?_
          refine h_goi hI (by decide) (va_runV (As := [.int p2]) (rest := []) ⟨hx, hb, hml, hown, hts⟩ (h_roomsOf_X9 l D g σ Z hZ0 M46 N R y g_y p2) (cwV 1 hts gX9_claim_X9_roomsOf rfl rfl rfl (by decide +kernel) ⟨Nat.le_of_ble_eq_true rfl, Nat.le_of_ble_eq_true rfl⟩) (h_preV hZ0 hK hE hI g_y (by decide) rfl) rfl rfl hl.1 rfl (lv_room (Nat.le_of_ble_eq_true rfl)) dX9_claim_50 ⟨Nat.le_of_ble_eq_true rfl, Nat.le_of_ble_eq_true rfl⟩) (fun r47 M48 N49 R50 H locs q51 z_M48 hI => ?_)
          obtain ⟨rfl, rfl, rfl, i_r47, z52⟩ := q51
          refine h_goi hI (by decide) (va_runS (As := [.int r47]) (rest := []) ⟨hx, hb, hml, hown, hts⟩ (h_bitsOf_X9 l D g σ Z hZ0 M46 N R r47) (va_cwS 1 hts gX9_claim_X9_bitsOf rfl rfl rfl (by decide +kernel) ⟨Nat.le_of_ble_eq_true rfl, Nat.le_of_ble_eq_true rfl⟩) (h_preS hZ0 hK hE hI) rfl rfl hl.1 rfl (lv_room (Nat.le_of_ble_eq_true rfl)) dX9_claim_53 ⟨Nat.le_of_ble_eq_true rfl, Nat.le_of_ble_eq_true rfl⟩) (fun r53 M54 N55 R56 H locs q57 z_M54 hI => ?_)
          obtain ⟨rfl, rfl, rfl⟩ := q57
          have m58 : KV M46 R y := (KV_put hI.2.1 g_y (KV_ag hI.2.1 g_y m0_KV (hAd.ag z_M39 (by decide))) e_M46 g_a44 (by rw [cats_ag hI.2.1 g_y (hAd.ag z_M39 (by decide))]; exact (z17 c18)))
          have m59 : WV M46 R y := (WV_ag hI.2.1 g_y z43 (hAd.put e_M46 g_a44 rfl))
          exact h_iret hQ hx hb hr hlocks rfl hK hI ⟨rfl, rfl, m58, m59⟩ dX9_claim_56
        · have i60 : iv r31 0 0 := iv_eq1 c36 i_r31 kc_0
          refine lv_iconst (v := (-1)) hx hb dX9_claim_32 (by decide) ?_
          exact h_iret hQ hx hb hr hlocks rfl hK hI ⟨rfl, rfl, m0_KV, m0_WV⟩ dX9_claim_33
abbrev e_h_image_X9 : List (Nat × Nat) := [(165, 999), (166, 999)]
set_option maxHeartbeats 4000000 in
set_option maxRecDepth 100000 in
theorem h_image_X9 (l : Launch) (D : va_G) (g : Nat → ClassId) (σ : Nat → Option Nat) (Z : State → Heap → Prop) (hZ0 : hZ σ Z) (M : hM) (N : hN) (R : hR) (y : Nat) (g_y : σ y = some 9) (p1 : Int32) (m0_KV : KV M R y) (m0_BV : BV M R y) : Met l yX9_image wsX9_image ({ frames := 1, cells := 0, slots := 0, locals := 22 }) (va_Pc [.ref y, .int p1] (hPre D g σ Z M N R)) (hQi D g σ e_h_image_X9 M (fun (r : Int32) (M1 : hM) (N1 : hN) (R1 : hR) => N = N1 ∧ R = R1 ∧ (BV M1 R y))) 0 0 (hA σ) := by
  refine h_head (cc := cX9_image) (maxL := 3) (ret := (some .int)) (by decide) rfl (Nat.le_of_ble_eq_true rfl) e_h_image_X9 ?_
  intro p e s m below meth c ls Q ar hQ hx hb hr hlocks hml hown hts hK hE H locs hI hl
  have hown : s.vm.findClass RX9 = some m.cls := hown
  have hl : lv_has ls 3 [(0, .ref y), (1, .int p1)] := hl
  refine lv_iload_n hx hb dX9_image_0 rfl (lv_at hl 1 rfl) ?_
  refine lv_iconst (v := 0) hx hb dX9_image_1 (by decide) ?_
  refine lv_iconst (v := 2) hx hb dX9_image_2 (by decide) ?_
  refine h_goi hI (by decide) (va_runS (As := [.int p1, .int (0 : Int32), .int (2 : Int32)]) (rest := []) ⟨hx, hb, hml, hown, hts⟩ (h_isIn_X9 l D g σ Z hZ0 M N R p1 (0 : Int32) (2 : Int32)) (va_cwS 3 hts gX9_image_X9_isIn rfl rfl rfl (by decide +kernel) ⟨Nat.le_of_ble_eq_true rfl, Nat.le_of_ble_eq_true rfl⟩) (h_preS hZ0 hK hE hI) rfl rfl hl.1 rfl (lv_room (Nat.le_of_ble_eq_true rfl)) dX9_image_3 ⟨Nat.le_of_ble_eq_true rfl, Nat.le_of_ble_eq_true rfl⟩) (fun r1 M2 N3 R4 H locs q5 z_M2 hI => ?_)
  obtain ⟨rfl, rfl, rfl, i_r1, z6⟩ := q5
  refine lv_if_ne (tgt := 11) hx hb dX9_image_6 (by decide) (fun c7 => ?_) (fun c7 => ?_)
  · have i8 : iv p1 0 2 := (fun h9 => iv_isin (z6 h9) kc_0 kc_2) c7
    have i9 : iv r1 1 1 := iv_neL c7 i_r1 (by decide) (by decide)
    refine lv_iconst (v := 0) hx hb dX9_image_11 (by decide) ?_
    have J13 : ∀ (n : Nat) (M_13 : hM) (v2_13 : Int32) (H : Heap) (locs : List Loc) (ls : Array Slot), kI D g σ e_h_image_X9 M s.heap M_13 N R H locs → lv_has ls 3 [(0, .ref y), (1, .int p1), (2, .int v2_13)] → KV M_13 R y → iv v2_13 0 39 → CPI M M_13 (R y 65) (39 * p1.toNatClampNeg) (R y 45) 0 v2_13.toNatClampNeg → 40 ≤ v2_13.toInt + (n : Int) → W p l e (headSpec wsX9_image ({ frames := 1, cells := 0, slots := 0, locals := 22 })).room s m ar below meth c H locs 0 0 Q (F0 m 13 ls []) := by
      intro n
      induction n with
      | zero => intro M_13 v2_13 H locs ls hI hl m_KV_13 i_v2_13 hcp_13 hn; exfalso; have hz := i_v2_13; simp only [iv] at hz; omega
      | succ n ih13 =>
        intro M_13 v2_13 H locs ls hI hl m_KV_13 i_v2_13 hcp_13 hn13
        refine lv_iload_n hx hb dX9_image_13 rfl (lv_at hl 2 rfl) ?_
        refine lv_bipush (v := 39) hx hb dX9_image_14 (by decide) ?_
        refine lv_icmp_ge (tgt := 42) hx hb dX9_image_16 (by decide) (fun c10 => ?_) (fun c10 => ?_)
        · have i11 : iv v2_13 39 39 := iv_le2 c10 kc_39 i_v2_13 (by decide)
          refine lv_aload_n hx hb dX9_image_42 rfl (lv_at hl 0 rfl) ?_
          refine h_getr hx hb hts iX9_image_X9 hown hK hI g_y (by decide) rfl rfl 66 (by decide) rfl 166 rfl (hts (.fieldLink RX9 142 "CatLeasesModel" "isBoxed" "[Z") (List.mem_of_getElem? (i := 3) rfl)) (fun _ h9 => h9) dX9_image_43 (fun a12 e_a12 g_a12 => ?_)
          refine lv_iload_n hx hb dX9_image_46 rfl (lv_at hl 1 rfl) ?_
          refine lv_iconst (v := 1) hx hb dX9_image_47 (by decide) ?_
          refine h_zast (j := p1.toNatClampNeg) hx hb hK hI g_a12 (by decide) rfl (iv_in (n := 3) i8 (by decide) (by decide)) rfl (iv_narz _) rfl dX9_image_48 (fun M13 H locs e_M13 hI => ?_)
          refine lv_aload_n hx hb dX9_image_49 rfl (lv_at hl 0 rfl) ?_
          refine h_getr hx hb hts iX9_image_X9 hown hK hI g_y (by decide) rfl rfl 45 (by decide) rfl 145 rfl (hts (.fieldLink RX9 94 "CatLeasesModel" "all" "[I") (List.mem_of_getElem? (i := 2) rfl)) (fun _ h9 => h9) dX9_image_50 (fun a14 e_a14 g_a14 => ?_)
          refine lv_bipush (v := 37) hx hb dX9_image_53 (by decide) ?_
          refine h_iald (j := 37) (lo := (-2147483648)) (hi := 2147483647) hx hb hK hI g_a14 (by decide) rfl (iv_in (n := 39) kc_37 (by decide) (by decide)) (by decide) (iv_any _) dX9_image_55 (fun v15 e_v15 i_v15 => ?_)
          exact h_iret hQ hx hb hr hlocks rfl hK hI ⟨rfl, rfl, (BV_set (by rw [e_M13, e_a12]) hI.2.1 g_y (BV_push (cp_end hcp_13 i11) hI.2.1 g_y m0_BV m0_KV))⟩ dX9_image_56
        · have i16 : iv v2_13 0 38 := iv_nle2 c10 kc_39 i_v2_13 (by decide)
          refine lv_aload_n hx hb dX9_image_19 rfl (lv_at hl 0 rfl) ?_
          refine h_getr hx hb hts iX9_image_X9 hown hK hI g_y (by decide) rfl rfl 65 (by decide) rfl 165 rfl (hts (.fieldLink RX9 139 "CatLeasesModel" "boxAll" "[I") (List.mem_of_getElem? (i := 1) rfl)) (fun _ h9 => h9) dX9_image_20 (fun a17 e_a17 g_a17 => ?_)
          refine lv_bipush (v := 39) hx hb dX9_image_23 (by decide) ?_
          refine lv_iload_n hx hb dX9_image_25 rfl (lv_at hl 1 rfl) ?_
          refine lv_imul hx hb dX9_image_26 ?_
          refine h_nm (lo := 0) (hi := 78) (iv_mul kc_39 i8 (by decide) (by decide) (by decide) (by decide) (by decide)) (fun v18 e_v18 i_v18 => ?_)
          refine lv_iload_n hx hb dX9_image_27 rfl (lv_at hl 2 rfl) ?_
          refine lv_iadd hx hb dX9_image_28 ?_
          refine h_nm (lo := 0) (hi := 116) (iv_add i_v18 i16 (by decide) (by decide) (by decide) (by decide)) (fun v19 e_v19 i_v19 => ?_)
          refine lv_aload_n hx hb dX9_image_29 rfl (lv_at hl 0 rfl) ?_
          refine h_getr hx hb hts iX9_image_X9 hown hK hI g_y (by decide) rfl rfl 45 (by decide) rfl 145 rfl (hts (.fieldLink RX9 94 "CatLeasesModel" "all" "[I") (List.mem_of_getElem? (i := 2) rfl)) (fun _ h9 => h9) dX9_image_30 (fun a20 e_a20 g_a20 => ?_)
          refine lv_iload_n hx hb dX9_image_33 rfl (lv_at hl 2 rfl) ?_
          refine h_iald (j := v2_13.toNatClampNeg) (lo := (-2147483648)) (hi := 2147483647) hx hb hK hI g_a20 (by decide) rfl (iv_in (n := 39) i16 (by decide) (by decide)) rfl (iv_any _) dX9_image_34 (fun v21 e_v21 i_v21 => ?_)
          refine h_iast (j := v19.toNatClampNeg) hx hb hK hI g_a17 (by decide) rfl (iv_in (n := 117) i_v19 (by decide) (by decide)) rfl (iv_cp (s := 145) (s1 := 165) hI.2.1 g_a20 (in_lt (iv_in (n := 39) i16 (by decide) (by decide))) e_v21 (by decide) (by decide) (by have h9 := mul_at (n := 39) (m := 2) (hi := 38) (by decide) i8 e_v18 e_v19 i16 (by decide) (by decide) (by decide) (by decide); omega)) rfl dX9_image_35 (fun M22 H locs e_M22 hI => ?_)
          obtain ⟨v23, e_v23⟩ : ∃ z : Int32, z = v2_13 + Int32.ofInt 1 := ⟨_, rfl⟩
          have i_v23 : iv v23 1 39 := by rw [e_v23]; exact iv_add i16 (ki_1) (by decide) (by decide) (by decide) (by decide)
          refine lv_iinc (v := v23) (lv' := [(2, .int v23), (0, .ref y), (1, .int p1)]) hx hb dX9_image_36 hl (k := 2) rfl e_v23.symm (by decide) rfl (fun ls hl => ?_)
          refine lv_goto (tgt := 13) hx hb dX9_image_39 (by decide) ?_
          have m24 : KV M22 R y := (KV_ag hI.2.1 g_y m_KV_13 (hAd.put e_M22 g_a17 rfl))
          exact ih13 M22 v23 H locs ls hI (lv_sub hl [1, 2, 0] rfl) m24 (iv_w (lo' := 0) (hi' := 39) i_v23 (by decide) (by decide)) (CPI_step (v := v21) (ix := v19.toNatClampNeg) (iy := v2_13.toNatClampNeg) hcp_13 (by rw [e_M22, e_a17]) (by rw [e_v21, e_a20]) (by have h9 := mul_at (n := 39) (m := 2) (hi := 38) (by decide) i8 e_v18 e_v19 i16 (by decide) (by decide) (by decide) (by decide); omega) (Nat.zero_add _).symm (k_inc1 e_v23 i16 (by decide)) (fun q => so_ne (hI.2.1.r1 g_y 45 145 (by decide) rfl) (hI.2.1.r1 g_y 65 165 (by decide) rfl) (by decide) q.1)) (by have h9 := (h_inc e_v23 i16 ki_1 (by decide) (by decide)); omega)
    refine lv_istore_n (lv' := [(2, .int (0 : Int32)), (0, .ref y), (1, .int p1)]) hx hb dX9_image_12 rfl hl (by decide) rfl (fun ls hl => ?_)
    exact J13 40 M (0 : Int32) H locs ls hI (lv_sub hl [1, 2, 0] rfl) m0_KV (iv_w (lo' := 0) (hi' := 39) kc_0 (by decide) (by decide)) CPI_0 (by have h9 := kc_0; simp only [iv] at h9; omega)
  · have i25 : iv r1 0 0 := iv_eq1 c7 i_r1 kc_0
    refine lv_iconst (v := (-1)) hx hb dX9_image_9 (by decide) ?_
    exact h_iret hQ hx hb hr hlocks rfl hK hI ⟨rfl, rfl, m0_BV⟩ dX9_image_10
abbrev e_h_back_X9 : List (Nat × Nat) := [(9, 50), (9, 51), (145, 999)]
set_option maxHeartbeats 4000000 in
set_option maxRecDepth 100000 in
theorem h_back_X9 (l : Launch) (D : va_G) (g : Nat → ClassId) (σ : Nat → Option Nat) (Z : State → Heap → Prop) (hZ0 : hZ σ Z) (M : hM) (N : hN) (R : hR) (y : Nat) (g_y : σ y = some 9) (p1 : Int32) (m0_KV : KV M R y) (m0_WV : WV M R y) (m0_BV : BV M R y) : Met l yX9_back wsX9_back ({ frames := 1, cells := 0, slots := 0, locals := 22 }) (va_Pc [.ref y, .int p1] (hPre D g σ Z M N R)) (hQi D g σ e_h_back_X9 M (fun (r : Int32) (M1 : hM) (N1 : hN) (R1 : hR) => N = N1 ∧ R = R1 ∧ (KV M1 R y) ∧ (WV M1 R y))) 0 0 (hA σ) := by
  refine h_head (cc := cX9_back) (maxL := 3) (ret := (some .int)) (by decide) rfl (Nat.le_of_ble_eq_true rfl) e_h_back_X9 ?_
  intro p e s m below meth c ls Q ar hQ hx hb hr hlocks hml hown hts hK hE H locs hI hl
  have hown : s.vm.findClass RX9 = some m.cls := hown
  have hl : lv_has ls 3 [(0, .ref y), (1, .int p1)] := hl
  refine lv_iload_n hx hb dX9_back_0 rfl (lv_at hl 1 rfl) ?_
  refine lv_iconst (v := 0) hx hb dX9_back_1 (by decide) ?_
  refine lv_iconst (v := 2) hx hb dX9_back_2 (by decide) ?_
  refine h_goi hI (by decide) (va_runS (As := [.int p1, .int (0 : Int32), .int (2 : Int32)]) (rest := []) ⟨hx, hb, hml, hown, hts⟩ (h_isIn_X9 l D g σ Z hZ0 M N R p1 (0 : Int32) (2 : Int32)) (va_cwS 3 hts gX9_back_X9_isIn rfl rfl rfl (by decide +kernel) ⟨Nat.le_of_ble_eq_true rfl, Nat.le_of_ble_eq_true rfl⟩) (h_preS hZ0 hK hE hI) rfl rfl hl.1 rfl (lv_room (Nat.le_of_ble_eq_true rfl)) dX9_back_3 ⟨Nat.le_of_ble_eq_true rfl, Nat.le_of_ble_eq_true rfl⟩) (fun r1 M2 N3 R4 H locs q5 z_M2 hI => ?_)
  obtain ⟨rfl, rfl, rfl, i_r1, z6⟩ := q5
  refine lv_if_eq (tgt := 18) hx hb dX9_back_6 (by decide) (fun c7 => ?_) (fun c7 => ?_)
  · have i8 : iv r1 0 0 := iv_eq1 c7 i_r1 kc_0
    refine lv_iconst (v := (-1)) hx hb dX9_back_18 (by decide) ?_
    exact h_iret hQ hx hb hr hlocks rfl hK hI ⟨rfl, rfl, m0_KV, m0_WV⟩ dX9_back_19
  · have i9 : iv p1 0 2 := (fun h9 => iv_isin (z6 h9) kc_0 kc_2) c7
    have i10 : iv r1 1 1 := iv_neL c7 i_r1 (by decide) (by decide)
    refine lv_aload_n hx hb dX9_back_9 rfl (lv_at hl 0 rfl) ?_
    refine h_getr hx hb hts iX9_back_X9 hown hK hI g_y (by decide) rfl rfl 66 (by decide) rfl 166 rfl (hts (.fieldLink RX9 142 "CatLeasesModel" "isBoxed" "[Z") (List.mem_of_getElem? (i := 1) rfl)) (fun _ h9 => h9) dX9_back_10 (fun a11 e_a11 g_a11 => ?_)
    refine lv_iload_n hx hb dX9_back_13 rfl (lv_at hl 1 rfl) ?_
    refine h_zald (j := p1.toNatClampNeg) (lo := 0) (hi := 1) hx hb hK hI g_a11 (by decide) rfl (iv_in (n := 3) i9 (by decide) (by decide)) rfl (hI.iv1 (n := 3) g_a11 rfl (in_lt (iv_in (n := 3) i9 (by decide) (by decide))) rfl) dX9_back_14 (fun v12 e_v12 i_v12 => ?_)
    refine lv_if_ne (tgt := 20) hx hb dX9_back_15 (by decide) (fun c13 => ?_) (fun c13 => ?_)
    · have i14 : iv v12 1 1 := iv_neL c13 i_v12 (by decide) (by decide)
      refine lv_iconst (v := 0) hx hb dX9_back_20 (by decide) ?_
      have J22 : ∀ (n : Nat) (M_22 : hM) (v2_22 : Int32) (H : Heap) (locs : List Loc) (ls : Array Slot), kI D g σ e_h_back_X9 M s.heap M_22 N R H locs → lv_has ls 3 [(0, .ref y), (1, .int p1), (2, .int v2_22)] → iv v2_22 0 39 → CPI M M_22 (R y 45) 0 (R y 65) (39 * p1.toNatClampNeg) v2_22.toNatClampNeg → 40 ≤ v2_22.toInt + (n : Int) → W p l e (headSpec wsX9_back ({ frames := 1, cells := 0, slots := 0, locals := 22 })).room s m ar below meth c H locs 0 0 Q (F0 m 22 ls []) := by
        intro n
        induction n with
        | zero => intro M_22 v2_22 H locs ls hI hl i_v2_22 hcp_22 hn; exfalso; have hz := i_v2_22; simp only [iv] at hz; omega
        | succ n ih22 =>
          intro M_22 v2_22 H locs ls hI hl i_v2_22 hcp_22 hn22
          refine lv_iload_n hx hb dX9_back_22 rfl (lv_at hl 2 rfl) ?_
          refine lv_bipush (v := 39) hx hb dX9_back_23 (by decide) ?_
          refine lv_icmp_ge (tgt := 51) hx hb dX9_back_25 (by decide) (fun c15 => ?_) (fun c15 => ?_)
          · have i16 : iv v2_22 39 39 := iv_le2 c15 kc_39 i_v2_22 (by decide)
            refine lv_aload_n hx hb dX9_back_51 rfl (lv_at hl 0 rfl) ?_
            refine lv_iconst (v := 0) hx hb dX9_back_52 (by decide) ?_
            refine h_puti hx hb hts iX9_back_X9 tyX9 tyX9_ok nmX9 hown hK hI g_y (by decide) rfl rfl 50 (by decide) rfl (hts (.fieldLink RX9 398 "CatLeasesModel" "acts" "I") (List.mem_of_getElem? (i := 4) rfl)) (fun _ h9 => h9) rfl .int (by decide +kernel) rfl rfl (iv_w (lo' := 0) (hi' := 40) kc_0 (by decide) (by decide)) rfl dX9_back_53 (fun M17 H locs e_M17 hI => ?_)
            refine lv_aload_n hx hb dX9_back_56 rfl (lv_at hl 0 rfl) ?_
            refine lv_iconst (v := 0) hx hb dX9_back_57 (by decide) ?_
            refine h_puti hx hb hts iX9_back_X9 tyX9 tyX9_ok nmX9 hown hK hI g_y (by decide) rfl rfl 51 (by decide) rfl (hts (.fieldLink RX9 401 "CatLeasesModel" "undone" "I") (List.mem_of_getElem? (i := 5) rfl)) (fun _ h9 => h9) rfl .int (by decide +kernel) rfl rfl (iv_w (lo' := 0) (hi' := 40) kc_0 (by decide) (by decide)) rfl dX9_back_58 (fun M18 H locs e_M18 hI => ?_)
            refine lv_aload_n hx hb dX9_back_61 rfl (lv_at hl 0 rfl) ?_
            refine h_getr hx hb hts iX9_back_X9 hown hK hI g_y (by decide) rfl rfl 45 (by decide) rfl 145 rfl (hts (.fieldLink RX9 94 "CatLeasesModel" "all" "[I") (List.mem_of_getElem? (i := 2) rfl)) (fun _ h9 => h9) dX9_back_62 (fun a19 e_a19 g_a19 => ?_)
            refine lv_bipush (v := 37) hx hb dX9_back_65 (by decide) ?_
            refine h_iald (j := 37) (lo := (-2147483648)) (hi := 2147483647) hx hb hK hI g_a19 (by decide) rfl (iv_in (n := 39) kc_37 (by decide) (by decide)) (by decide) (iv_any _) dX9_back_67 (fun v20 e_v20 i_v20 => ?_)
            exact h_iret hQ hx hb hr hlocks rfl hK hI ⟨rfl, rfl, (KV_ag hI.2.1 g_y (KV_ag hI.2.1 g_y (KV_box (cp_end hcp_22 i16) hI.2.1 g_y m0_BV (iv_nat2 i9 (by decide) (by decide)) (by rw [← e_a11, ← e_v12]; exact c13)) (hAd.put e_M17 g_y rfl)) (hAd.put e_M18 g_y rfl)), (WV_0 e_M17 e_M18 rfl rfl)⟩ dX9_back_68
          · have i21 : iv v2_22 0 38 := iv_nle2 c15 kc_39 i_v2_22 (by decide)
            refine lv_aload_n hx hb dX9_back_28 rfl (lv_at hl 0 rfl) ?_
            refine h_getr hx hb hts iX9_back_X9 hown hK hI g_y (by decide) rfl rfl 45 (by decide) rfl 145 rfl (hts (.fieldLink RX9 94 "CatLeasesModel" "all" "[I") (List.mem_of_getElem? (i := 2) rfl)) (fun _ h9 => h9) dX9_back_29 (fun a22 e_a22 g_a22 => ?_)
            refine lv_iload_n hx hb dX9_back_32 rfl (lv_at hl 2 rfl) ?_
            refine lv_aload_n hx hb dX9_back_33 rfl (lv_at hl 0 rfl) ?_
            refine h_getr hx hb hts iX9_back_X9 hown hK hI g_y (by decide) rfl rfl 65 (by decide) rfl 165 rfl (hts (.fieldLink RX9 139 "CatLeasesModel" "boxAll" "[I") (List.mem_of_getElem? (i := 3) rfl)) (fun _ h9 => h9) dX9_back_34 (fun a23 e_a23 g_a23 => ?_)
            refine lv_bipush (v := 39) hx hb dX9_back_37 (by decide) ?_
            refine lv_iload_n hx hb dX9_back_39 rfl (lv_at hl 1 rfl) ?_
            refine lv_imul hx hb dX9_back_40 ?_
            refine h_nm (lo := 0) (hi := 78) (iv_mul kc_39 i9 (by decide) (by decide) (by decide) (by decide) (by decide)) (fun v24 e_v24 i_v24 => ?_)
            refine lv_iload_n hx hb dX9_back_41 rfl (lv_at hl 2 rfl) ?_
            refine lv_iadd hx hb dX9_back_42 ?_
            refine h_nm (lo := 0) (hi := 116) (iv_add i_v24 i21 (by decide) (by decide) (by decide) (by decide)) (fun v25 e_v25 i_v25 => ?_)
            refine h_iald (j := v25.toNatClampNeg) (lo := (-2147483648)) (hi := 2147483647) hx hb hK hI g_a23 (by decide) rfl (iv_in (n := 117) i_v25 (by decide) (by decide)) rfl (iv_any _) dX9_back_43 (fun v26 e_v26 i_v26 => ?_)
            refine h_iast (j := v2_22.toNatClampNeg) hx hb hK hI g_a22 (by decide) rfl (iv_in (n := 39) i21 (by decide) (by decide)) rfl (iv_cp (s := 165) (s1 := 145) hI.2.1 g_a23 (in_lt (iv_in (n := 117) i_v25 (by decide) (by decide))) e_v26 (by decide) (by decide) (by have h9 := mul_at (n := 39) (m := 2) (hi := 38) (by decide) i9 e_v24 e_v25 i21 (by decide) (by decide) (by decide) (by decide); omega)) rfl dX9_back_44 (fun M27 H locs e_M27 hI => ?_)
            obtain ⟨v28, e_v28⟩ : ∃ z : Int32, z = v2_22 + Int32.ofInt 1 := ⟨_, rfl⟩
            have i_v28 : iv v28 1 39 := by rw [e_v28]; exact iv_add i21 (ki_1) (by decide) (by decide) (by decide) (by decide)
            refine lv_iinc (v := v28) (lv' := [(2, .int v28), (0, .ref y), (1, .int p1)]) hx hb dX9_back_45 hl (k := 2) rfl e_v28.symm (by decide) rfl (fun ls hl => ?_)
            refine lv_goto (tgt := 22) hx hb dX9_back_48 (by decide) ?_
            exact ih22 M27 v28 H locs ls hI (lv_sub hl [1, 2, 0] rfl) (iv_w (lo' := 0) (hi' := 39) i_v28 (by decide) (by decide)) (CPI_step (v := v26) (ix := v2_22.toNatClampNeg) (iy := v25.toNatClampNeg) hcp_22 (by rw [e_M27, e_a22]) (by rw [e_v26, e_a23]) (Nat.zero_add _).symm (by have h9 := mul_at (n := 39) (m := 2) (hi := 38) (by decide) i9 e_v24 e_v25 i21 (by decide) (by decide) (by decide) (by decide); omega) (k_inc1 e_v28 i21 (by decide)) (fun q => so_ne (hI.2.1.r1 g_y 65 165 (by decide) rfl) (hI.2.1.r1 g_y 45 145 (by decide) rfl) (by decide) q.1)) (by have h9 := (h_inc e_v28 i21 ki_1 (by decide) (by decide)); omega)
      refine lv_istore_n (lv' := [(2, .int (0 : Int32)), (0, .ref y), (1, .int p1)]) hx hb dX9_back_21 rfl hl (by decide) rfl (fun ls hl => ?_)
      exact J22 40 M (0 : Int32) H locs ls hI (lv_sub hl [1, 2, 0] rfl) (iv_w (lo' := 0) (hi' := 39) kc_0 (by decide) (by decide)) CPI_0 (by have h9 := kc_0; simp only [iv] at h9; omega)
    · have i29 : iv v12 0 0 := iv_eq1 c13 i_v12 kc_0
      refine lv_iconst (v := (-1)) hx hb dX9_back_18 (by decide) ?_
      exact h_iret hQ hx hb hr hlocks rfl hK hI ⟨rfl, rfl, m0_KV, m0_WV⟩ dX9_back_19
abbrev e_h_layTold_X9 : List (Nat × Nat) := [(145, 999)]
set_option maxHeartbeats 4000000 in
set_option maxRecDepth 100000 in
theorem h_layTold_X9 (l : Launch) (D : va_G) (g : Nat → ClassId) (σ : Nat → Option Nat) (Z : State → Heap → Prop) (hZ0 : hZ σ Z) (M : hM) (N : hN) (R : hR) (y : Nat) (g_y : σ y = some 9) : Met l yX9_layTold wsX9_layTold ({ frames := 1, cells := 0, slots := 0, locals := 20 }) (va_Pc [.ref y] (hPre D g σ Z M N R)) (hQv D g σ e_h_layTold_X9 M (fun (M1 : hM) (N1 : hN) (R1 : hR) => N = N1 ∧ R = R1 ∧ (TV M R y → KV M1 R y))) 0 0 (hA σ) := by
  refine h_head (cc := cX9_layTold) (maxL := 3) (ret := none) (by decide) rfl (Nat.le_of_ble_eq_true rfl) e_h_layTold_X9 ?_
  intro p e s m below meth c ls Q ar hQ hx hb hr hlocks hml hown hts hK hE H locs hI hl
  have hown : s.vm.findClass RX9 = some m.cls := hown
  have hl : lv_has ls 3 [(0, .ref y)] := hl
  have c0 : 0 ≤ (M (R y 11) (bk M y)).toInt := (hI.iv1 (a := R y 11) (j := bk M y) (lo := 0) (hi := 6) (n := 2) (hI.2.1.r1 g_y 11 111 (by decide) rfl) rfl (iv_nat2 (hI.iv1 (a := y) (j := 35) (lo := 0) (hi := 1) (n := 67) g_y rfl (by decide) rfl) (by decide) (by decide)) rfl).1
  refine lv_iconst (v := 0) hx hb dX9_layTold_0 (by decide) ?_
  have J2 : ∀ (n : Nat) (M_2 : hM) (v1_2 : Int32) (H : Heap) (locs : List Loc) (ls : Array Slot), kI D g σ e_h_layTold_X9 M s.heap M_2 N R H locs → lv_has ls 3 [(0, .ref y), (1, .int v1_2)] → hAd σ [(9, 35), (111, 999), (112, 999), (120, 999)] M M_2 → iv v1_2 0 39 → 40 ≤ v1_2.toInt + (n : Int) → W p l e (headSpec wsX9_layTold ({ frames := 1, cells := 0, slots := 0, locals := 20 })).room s m ar below meth c H locs 0 0 Q (F0 m 2 ls []) := by
    intro n
    induction n with
    | zero => intro M_2 v1_2 H locs ls hI hl m_AGT_2 i_v1_2 hn; exfalso; have hz := i_v1_2; simp only [iv] at hz; omega
    | succ n ih2 =>
      intro M_2 v1_2 H locs ls hI hl m_AGT_2 i_v1_2 hn2
      refine lv_iload_n hx hb dX9_layTold_2 rfl (lv_at hl 1 rfl) ?_
      refine lv_bipush (v := 39) hx hb dX9_layTold_3 (by decide) ?_
      refine lv_icmp_ge (tgt := 21) hx hb dX9_layTold_5 (by decide) (fun c1 => ?_) (fun c1 => ?_)
      · have i2 : iv v1_2 39 39 := iv_le2 c1 kc_39 i_v1_2 (by decide)
        refine lv_iconst (v := 0) hx hb dX9_layTold_21 (by decide) ?_
        have J23 : ∀ (n : Nat) (M_23 : hM) (v1_23 : Int32) (H : Heap) (locs : List Loc) (ls : Array Slot), kI D g σ e_h_layTold_X9 M s.heap M_23 N R H locs → lv_has ls 3 [(0, .ref y), (1, .int v1_23)] → hAd σ [(9, 35), (111, 999), (112, 999), (120, 999)] M M_23 → iv v1_23 0 7 → 8 ≤ v1_23.toInt + (n : Int) → W p l e (headSpec wsX9_layTold ({ frames := 1, cells := 0, slots := 0, locals := 20 })).room s m ar below meth c H locs 0 0 Q (F0 m 23 ls []) := by
          intro n
          induction n with
          | zero => intro M_23 v1_23 H locs ls hI hl m_AGT_23 i_v1_23 hn; exfalso; have hz := i_v1_23; simp only [iv] at hz; omega
          | succ n ih23 =>
            intro M_23 v1_23 H locs ls hI hl m_AGT_23 i_v1_23 hn23
            refine lv_iload_n hx hb dX9_layTold_23 rfl (lv_at hl 1 rfl) ?_
            refine lv_bipush (v := 7) hx hb dX9_layTold_24 (by decide) ?_
            refine lv_icmp_ge (tgt := 141) hx hb dX9_layTold_26 (by decide) (fun c3 => ?_) (fun c3 => ?_)
            · have i4 : iv v1_23 7 7 := iv_le2 c3 kc_7 i_v1_23 (by decide)
              refine lv_iconst (v := 0) hx hb dX9_layTold_141 (by decide) ?_
              have J143 : ∀ (n : Nat) (M_143 : hM) (v1_143 : Int32) (H : Heap) (locs : List Loc) (ls : Array Slot), kI D g σ e_h_layTold_X9 M s.heap M_143 N R H locs → lv_has ls 3 [(0, .ref y), (1, .int v1_143)] → hAd σ [(9, 35), (111, 999), (112, 999), (120, 999)] M M_143 → iv v1_143 0 8 → LK M M_143 R y v1_143.toNatClampNeg → 9 ≤ v1_143.toInt + (n : Int) → W p l e (headSpec wsX9_layTold ({ frames := 1, cells := 0, slots := 0, locals := 20 })).room s m ar below meth c H locs 0 0 Q (F0 m 143 ls []) := by
                intro n
                induction n with
                | zero => intro M_143 v1_143 H locs ls hI hl m_AGT_143 i_v1_143 hlk_143 hn; exfalso; have hz := i_v1_143; simp only [iv] at hz; omega
                | succ n ih143 =>
                  intro M_143 v1_143 H locs ls hI hl m_AGT_143 i_v1_143 hlk_143 hn143
                  refine lv_iload_n hx hb dX9_layTold_143 rfl (lv_at hl 1 rfl) ?_
                  refine lv_bipush (v := 8) hx hb dX9_layTold_144 (by decide) ?_
                  refine lv_icmp_ge (tgt := 190) hx hb dX9_layTold_146 (by decide) (fun c5 => ?_) (fun c5 => ?_)
                  · have i6 : iv v1_143 8 8 := iv_le2 c5 kc_8 i_v1_143 (by decide)
                    refine lv_aload_n hx hb dX9_layTold_190 rfl (lv_at hl 0 rfl) ?_
                    refine h_getr hx hb hts iX9_layTold_X9 hown hK hI g_y (by decide) rfl rfl 45 (by decide) rfl 145 rfl (hts (.fieldLink RX9 94 "CatLeasesModel" "all" "[I") (List.mem_of_getElem? (i := 1) rfl)) (fun _ h9 => h9) dX9_layTold_191 (fun a7 e_a7 g_a7 => ?_)
                    refine lv_bipush (v := 36) hx hb dX9_layTold_194 (by decide) ?_
                    refine lv_iconst (v := 1) hx hb dX9_layTold_196 (by decide) ?_
                    refine lv_aload_n hx hb dX9_layTold_197 rfl (lv_at hl 0 rfl) ?_
                    refine h_goi hI (by decide) (va_runV (As := []) (rest := [.int (1 : Int32), .int (36 : Int32), .ref a7]) ⟨hx, hb, hml, hown, hts⟩ (h_cattery_X9 l D g σ Z hZ0 M_143 N R y g_y) (cwV 0 hts gX9_layTold_X9_cattery rfl rfl rfl (by decide +kernel) ⟨Nat.le_of_ble_eq_true rfl, Nat.le_of_ble_eq_true rfl⟩) (h_preV hZ0 hK hE hI g_y (by decide) rfl) rfl rfl hl.1 rfl (lv_room (Nat.le_of_ble_eq_true rfl)) dX9_layTold_198 ⟨Nat.le_of_ble_eq_true rfl, Nat.le_of_ble_eq_true rfl⟩) (fun r8 M9 N10 R11 H locs q12 z_M9 hI => ?_)
                    obtain ⟨rfl, rfl, rfl, i_r8, z13⟩ := q12
                    refine lv_ishl hx hb dX9_layTold_201 ?_
                    refine h_nm (lo := 1) (hi := 64) (iv_shl1 6 i_r8 (by decide) (by decide) (by decide) (by decide) (by decide)) (fun v14 e_v14 i_v14 => ?_)
                    refine lv_iconst (v := 1) hx hb dX9_layTold_202 (by decide) ?_
                    refine lv_isub hx hb dX9_layTold_203 ?_
                    refine h_nm (lo := 0) (hi := 63) (iv_sub i_v14 kc_1 (by decide) (by decide) (by decide) (by decide)) (fun v15 e_v15 i_v15 => ?_)
                    refine h_iast (j := 36) hx hb hK hI g_a7 (by decide) rfl (iv_in (n := 39) kc_36 (by decide) (by decide)) (by decide) (iv_any _) rfl dX9_layTold_204 (fun M16 H locs e_M16 hI => ?_)
                    refine lv_aload_n hx hb dX9_layTold_205 rfl (lv_at hl 0 rfl) ?_
                    refine h_getr hx hb hts iX9_layTold_X9 hown hK hI g_y (by decide) rfl rfl 45 (by decide) rfl 145 rfl (hts (.fieldLink RX9 94 "CatLeasesModel" "all" "[I") (List.mem_of_getElem? (i := 1) rfl)) (fun _ h9 => h9) dX9_layTold_206 (fun a17 e_a17 g_a17 => ?_)
                    have q18 : a7 = a17 := (e_a7).trans e_a17.symm
                    subst q18
                    refine lv_bipush (v := 38) hx hb dX9_layTold_209 (by decide) ?_
                    refine lv_aload_n hx hb dX9_layTold_211 rfl (lv_at hl 0 rfl) ?_
                    refine h_getr hx hb hts iX9_layTold_X9 hown hK hI g_y (by decide) rfl rfl 16 (by decide) rfl 116 rfl (hts (.fieldLink RX9 36 "CatLeasesModel" "draw" "[I") (List.mem_of_getElem? (i := 7) rfl)) (fun _ h9 => h9) dX9_layTold_212 (fun a19 e_a19 g_a19 => ?_)
                    refine lv_aload_n hx hb dX9_layTold_215 rfl (lv_at hl 0 rfl) ?_
                    refine h_geti (lo := 0) (hi := 1) hx hb hts iX9_layTold_X9 hown hK hI g_y (by decide) rfl rfl 35 (by decide) rfl rfl (hts (.fieldLink RX9 268 "CatLeasesModel" "bank" "I") (List.mem_of_getElem? (i := 3) rfl)) (fun _ h9 => h9) dX9_layTold_216 (fun v20 e_v20 i_v20 => ?_)
                    refine h_iald (j := v20.toNatClampNeg) (lo := (-2147483648)) (hi := 2147483647) hx hb hK hI g_a19 (by decide) rfl (iv_in (n := 2) i_v20 (by decide) (by decide)) rfl (iv_any _) dX9_layTold_219 (fun v21 e_v21 i_v21 => ?_)
                    refine h_iast (j := 38) hx hb hK hI g_a7 (by decide) rfl (iv_in (n := 39) kc_38 (by decide) (by decide)) (by decide) (iv_any _) rfl dX9_layTold_220 (fun M22 H locs e_M22 hI => ?_)
                    have m23 : hAd σ [(9, 35), (111, 999), (112, 999), (120, 999)] M M22 := (AGT_ag hI.2.1 g_y (AGT_ag hI.2.1 g_y m_AGT_143 (hAd.put e_M16 g_a7 rfl)) (hAd.put e_M22 g_a7 rfl))
                    exact h_vret hQ hx hb hr hlocks hK hI ⟨rfl, rfl, (LK_end (M1 := M16) (v := v15) (w := v21) hlk_143 i6 (by rw [e_M16, e_a7]) (by rw [e_M22, e_a7]) rfl rfl (cats_ag hI.2.1 g_y (hAd.sub m23 (by decide))))⟩ dX9_layTold_221
                  · have i24 : iv v1_143 0 7 := iv_nle2 c5 kc_8 i_v1_143 (by decide)
                    refine lv_aload_n hx hb dX9_layTold_149 rfl (lv_at hl 0 rfl) ?_
                    refine h_getr hx hb hts iX9_layTold_X9 hown hK hI g_y (by decide) rfl rfl 45 (by decide) rfl 145 rfl (hts (.fieldLink RX9 94 "CatLeasesModel" "all" "[I") (List.mem_of_getElem? (i := 1) rfl)) (fun _ h9 => h9) dX9_layTold_150 (fun a25 e_a25 g_a25 => ?_)
                    refine lv_bipush (v := 14) hx hb dX9_layTold_153 (by decide) ?_
                    refine lv_iload_n hx hb dX9_layTold_155 rfl (lv_at hl 1 rfl) ?_
                    refine lv_iadd hx hb dX9_layTold_156 ?_
                    refine h_nm (lo := 14) (hi := 21) (iv_add kc_14 i24 (by decide) (by decide) (by decide) (by decide)) (fun v26 e_v26 i_v26 => ?_)
                    refine lv_iload_n hx hb dX9_layTold_157 rfl (lv_at hl 1 rfl) ?_
                    refine lv_aload_n hx hb dX9_layTold_158 rfl (lv_at hl 0 rfl) ?_
                    refine h_goi hI (by decide) (va_runV (As := []) (rest := [.int v1_143, .int v26, .ref a25]) ⟨hx, hb, hml, hown, hts⟩ (h_chambers_X9 l D g σ Z hZ0 M_143 N R y g_y) (cwV 0 hts gX9_layTold_X9_chambers rfl rfl rfl (by decide +kernel) ⟨Nat.le_of_ble_eq_true rfl, Nat.le_of_ble_eq_true rfl⟩) (h_preV hZ0 hK hE hI g_y (by decide) rfl) rfl rfl hl.1 rfl (lv_room (Nat.le_of_ble_eq_true rfl)) dX9_layTold_159 ⟨Nat.le_of_ble_eq_true rfl, Nat.le_of_ble_eq_true rfl⟩) (fun r27 M28 N29 R30 H locs q31 z_M28 hI => ?_)
                    obtain ⟨rfl, rfl, rfl, i_r27, z32⟩ := q31
                    have J183 : ∀ (t2_183 : Int32) (H : Heap) (locs : List Loc) (ls : Array Slot), kI D g σ e_h_layTold_X9 M s.heap M_143 N R H locs → lv_has ls 3 [(0, .ref y), (1, .int v1_143)] → iv t2_183 (-1) 5 → (TV M R y → t2_183.toInt < (M (R y 11) (bk M y)).toInt) → W p l e (headSpec wsX9_layTold ({ frames := 1, cells := 0, slots := 0, locals := 20 })).room s m ar below meth c H locs 0 0 Q (F0 m 183 ls [.int t2_183, .int v26, .ref a25]) := by
                      intro t2_183 H locs ls hI hl i_t2_183 hv_183
                      refine h_iast (j := v26.toNatClampNeg) hx hb hK hI g_a25 (by decide) rfl (iv_in (n := 39) i_v26 (by decide) (by decide)) rfl (iv_pos (so := 145) (c := 14) (d := 22) (lo := (-1)) (hi := 5) i_t2_183 (iv_nat1 i_v26 (by decide)) (iv_nat2 i_v26 (by decide) (by decide)) (by decide)) rfl dX9_layTold_183 (fun M33 H locs e_M33 hI => ?_)
                      obtain ⟨v34, e_v34⟩ : ∃ z : Int32, z = v1_143 + Int32.ofInt 1 := ⟨_, rfl⟩
                      have i_v34 : iv v34 1 8 := by rw [e_v34]; exact iv_add i24 (ki_1) (by decide) (by decide) (by decide) (by decide)
                      refine lv_iinc (v := v34) (lv' := [(1, .int v34), (0, .ref y)]) hx hb dX9_layTold_184 hl (k := 1) rfl e_v34.symm (by decide) rfl (fun ls hl => ?_)
                      refine lv_goto (tgt := 143) hx hb dX9_layTold_187 (by decide) ?_
                      have m35 : hAd σ [(9, 35), (111, 999), (112, 999), (120, 999)] M M33 := (AGT_ag hI.2.1 g_y m_AGT_143 (hAd.put e_M33 g_a25 rfl))
                      exact ih143 M33 v34 H locs ls hI (lv_sub hl [1, 0] rfl) m35 (iv_w (lo' := 0) (hi' := 8) i_v34 (by decide) (by decide)) (LK_step (v := t2_183) (ix := v26.toNatClampNeg) hlk_143 (by rw [e_M33, e_a25]) (add_atL (n := 14) e_v26 i24 kc_14 (by decide)) (k_inc1 e_v34 i24 (by decide)) hv_183) (by have h9 := (h_inc e_v34 i24 ki_1 (by decide) (by decide)); omega)
                    refine lv_icmp_ge (tgt := 182) hx hb dX9_layTold_162 (by decide) (fun c36 => ?_) (fun c36 => ?_)
                    · have i37 : iv r27 0 7 := iv_le1 c36 i_r27 i24 (by decide)
                      refine lv_iconst (v := (-1)) hx hb dX9_layTold_182 (by decide) ?_
                      exact J183 (-1 : Int32) H locs ls hI hl (iv_w (lo' := (-1)) (hi' := 5) kc_m1 (by decide) (by decide)) (fun _ => by rw [show (-1 : Int32).toInt = -1 by decide]; omega)
                    · have i38 : iv r27 1 8 := iv_nle1 c36 i_r27 i24 (by decide)
                      refine lv_aload_n hx hb dX9_layTold_165 rfl (lv_at hl 0 rfl) ?_
                      refine h_getr hx hb hts iX9_layTold_X9 hown hK hI g_y (by decide) rfl rfl 20 (by decide) rfl 120 rfl (hts (.fieldLink RX9 48 "CatLeasesModel" "keptBy" "[I") (List.mem_of_getElem? (i := 6) rfl)) (fun _ h9 => h9) dX9_layTold_166 (fun a39 e_a39 g_a39 => ?_)
                      refine lv_bipush (v := 8) hx hb dX9_layTold_169 (by decide) ?_
                      refine lv_aload_n hx hb dX9_layTold_171 rfl (lv_at hl 0 rfl) ?_
                      refine h_geti (lo := 0) (hi := 1) hx hb hts iX9_layTold_X9 hown hK hI g_y (by decide) rfl rfl 35 (by decide) rfl rfl (hts (.fieldLink RX9 268 "CatLeasesModel" "bank" "I") (List.mem_of_getElem? (i := 3) rfl)) (fun _ h9 => h9) dX9_layTold_172 (fun v40 e_v40 i_v40 => ?_)
                      refine lv_imul hx hb dX9_layTold_175 ?_
                      refine h_nm (lo := 0) (hi := 8) (iv_mul kc_8 i_v40 (by decide) (by decide) (by decide) (by decide) (by decide)) (fun v41 e_v41 i_v41 => ?_)
                      refine lv_iload_n hx hb dX9_layTold_176 rfl (lv_at hl 1 rfl) ?_
                      refine lv_iadd hx hb dX9_layTold_177 ?_
                      refine h_nm (lo := 0) (hi := 15) (iv_add i_v41 i24 (by decide) (by decide) (by decide) (by decide)) (fun v42 e_v42 i_v42 => ?_)
                      refine h_iald (j := v42.toNatClampNeg) (lo := (-1)) (hi := 5) hx hb hK hI g_a39 (by decide) rfl (iv_in (n := 16) i_v42 (by decide) (by decide)) rfl (hI.iv1 (n := 16) g_a39 rfl (in_lt (iv_in (n := 16) i_v42 (by decide) (by decide))) rfl) dX9_layTold_178 (fun v43 e_v43 i_v43 => ?_)
                      refine lv_goto (tgt := 183) hx hb dX9_layTold_179 (by decide) ?_
                      exact J183 v43 H locs ls hI hl i_v43 (fun h9 => TV_at h9 ((e_v40).trans (m_AGT_143 y 9 35 g_y rfl)) i_v40 e_v41 e_v42 i24 (z32.trans (rooms_ag hI.2.1 g_y m_AGT_143)) (Int32.lt_iff_toInt_lt.mp (Int32.not_le.mp c36)) (by rw [e_v43, e_a39]; exact m_AGT_143 _ 120 _ (hI.2.1.r1 g_y 20 120 (by decide) rfl) rfl))
              refine lv_istore_n (lv' := [(1, .int (0 : Int32)), (0, .ref y)]) hx hb dX9_layTold_142 rfl hl (by decide) rfl (fun ls hl => ?_)
              exact J143 9 M_23 (0 : Int32) H locs ls hI (lv_sub hl [1, 0] rfl) m_AGT_23 (iv_w (lo' := 0) (hi' := 8) kc_0 (by decide) (by decide)) LK_0 (by have h9 := kc_0; simp only [iv] at h9; omega)
            · have i44 : iv v1_23 0 6 := iv_nle2 c3 kc_7 i_v1_23 (by decide)
              refine lv_iload_n hx hb dX9_layTold_29 rfl (lv_at hl 1 rfl) ?_
              refine lv_aload_n hx hb dX9_layTold_30 rfl (lv_at hl 0 rfl) ?_
              refine h_goi hI (by decide) (va_runV (As := []) (rest := [.int v1_23]) ⟨hx, hb, hml, hown, hts⟩ (h_many_X9 l D g σ Z hZ0 M_23 N R y g_y) (cwV 0 hts gX9_layTold_X9_many rfl rfl rfl (by decide +kernel) ⟨Nat.le_of_ble_eq_true rfl, Nat.le_of_ble_eq_true rfl⟩) (h_preV hZ0 hK hE hI g_y (by decide) rfl) rfl rfl hl.1 rfl (lv_room (Nat.le_of_ble_eq_true rfl)) dX9_layTold_31 ⟨Nat.le_of_ble_eq_true rfl, Nat.le_of_ble_eq_true rfl⟩) (fun r45 M46 N47 R48 H locs q49 z_M46 hI => ?_)
              obtain ⟨rfl, rfl, rfl, i_r45, z50⟩ := q49
              have J42 : ∀ (t0_42 : Int32) (H : Heap) (locs : List Loc) (ls : Array Slot), kI D g σ e_h_layTold_X9 M s.heap M_23 N R H locs → lv_has ls 3 [(0, .ref y), (1, .int v1_23)] → iv t0_42 0 1 → W p l e (headSpec wsX9_layTold ({ frames := 1, cells := 0, slots := 0, locals := 20 })).room s m ar below meth c H locs 0 0 Q (F0 m 42 ls [.int t0_42]) := by
                intro t0_42 H locs ls hI hl i_t0_42
                refine lv_istore_n (lv' := [(2, .int t0_42), (0, .ref y), (1, .int v1_23)]) hx hb dX9_layTold_42 rfl hl (by decide) rfl (fun ls hl => ?_)
                refine lv_aload_n hx hb dX9_layTold_43 rfl (lv_at hl 1 rfl) ?_
                refine h_getr hx hb hts iX9_layTold_X9 hown hK hI g_y (by decide) rfl rfl 45 (by decide) rfl 145 rfl (hts (.fieldLink RX9 94 "CatLeasesModel" "all" "[I") (List.mem_of_getElem? (i := 1) rfl)) (fun _ h9 => h9) dX9_layTold_44 (fun a51 e_a51 g_a51 => ?_)
                refine lv_iconst (v := 0) hx hb dX9_layTold_47 (by decide) ?_
                refine lv_iload_n hx hb dX9_layTold_48 rfl (lv_at hl 2 rfl) ?_
                refine lv_iadd hx hb dX9_layTold_49 ?_
                refine k_top (v := v1_23) (Int32.zero_add _) ?_
                refine lv_iload_n hx hb dX9_layTold_50 rfl (lv_at hl 0 rfl) ?_
                have J72 : ∀ (t2_72 : Int32) (H : Heap) (locs : List Loc) (ls : Array Slot), kI D g σ e_h_layTold_X9 M s.heap M_23 N R H locs → lv_has ls 3 [(0, .ref y), (1, .int v1_23), (2, .int t0_42)] → iv t2_72 (-1) 7 → W p l e (headSpec wsX9_layTold ({ frames := 1, cells := 0, slots := 0, locals := 20 })).room s m ar below meth c H locs 0 0 Q (F0 m 72 ls [.int t2_72, .int v1_23, .ref a51]) := by
                  intro t2_72 H locs ls hI hl i_t2_72
                  refine h_iast (j := v1_23.toNatClampNeg) hx hb hK hI g_a51 (by decide) rfl (iv_in (n := 39) i44 (by decide) (by decide)) rfl (iv_pos (so := 145) (c := 0) (d := 7) (lo := (-1)) (hi := 7) i_t2_72 (iv_nat1 i44 (by decide)) (iv_nat2 i44 (by decide) (by decide)) (by decide)) rfl dX9_layTold_72 (fun M52 H locs e_M52 hI => ?_)
                  refine lv_aload_n hx hb dX9_layTold_73 rfl (lv_at hl 0 rfl) ?_
                  refine h_getr hx hb hts iX9_layTold_X9 hown hK hI g_y (by decide) rfl rfl 45 (by decide) rfl 145 rfl (hts (.fieldLink RX9 94 "CatLeasesModel" "all" "[I") (List.mem_of_getElem? (i := 1) rfl)) (fun _ h9 => h9) dX9_layTold_74 (fun a53 e_a53 g_a53 => ?_)
                  have q54 : a51 = a53 := (e_a51).trans e_a53.symm
                  subst q54
                  refine lv_bipush (v := 22) hx hb dX9_layTold_77 (by decide) ?_
                  refine lv_iload_n hx hb dX9_layTold_79 rfl (lv_at hl 1 rfl) ?_
                  refine lv_iadd hx hb dX9_layTold_80 ?_
                  refine h_nm (lo := 22) (hi := 28) (iv_add kc_22 i44 (by decide) (by decide) (by decide) (by decide)) (fun v55 e_v55 i_v55 => ?_)
                  refine lv_iload_n hx hb dX9_layTold_81 rfl (lv_at hl 2 rfl) ?_
                  have J103 : ∀ (t2_103 : Int32) (H : Heap) (locs : List Loc) (ls : Array Slot), kI D g σ e_h_layTold_X9 M s.heap M52 N R H locs → lv_has ls 3 [(0, .ref y), (1, .int v1_23), (2, .int t0_42)] → W p l e (headSpec wsX9_layTold ({ frames := 1, cells := 0, slots := 0, locals := 20 })).room s m ar below meth c H locs 0 0 Q (F0 m 103 ls [.int t2_103, .int v55, .ref a51]) := by
                    intro t2_103 H locs ls hI hl
                    refine h_iast (j := v55.toNatClampNeg) hx hb hK hI g_a51 (by decide) rfl (iv_in (n := 39) i_v55 (by decide) (by decide)) rfl (iv_posA (so := 145) (c := 22) (d := 29) (iv_nat1 i_v55 (by decide)) (iv_nat2 i_v55 (by decide) (by decide)) (by decide)) rfl dX9_layTold_103 (fun M56 H locs e_M56 hI => ?_)
                    refine lv_aload_n hx hb dX9_layTold_104 rfl (lv_at hl 0 rfl) ?_
                    refine h_getr hx hb hts iX9_layTold_X9 hown hK hI g_y (by decide) rfl rfl 45 (by decide) rfl 145 rfl (hts (.fieldLink RX9 94 "CatLeasesModel" "all" "[I") (List.mem_of_getElem? (i := 1) rfl)) (fun _ h9 => h9) dX9_layTold_105 (fun a57 e_a57 g_a57 => ?_)
                    have q58 : a51 = a57 := (e_a51).trans e_a57.symm
                    subst q58
                    refine lv_bipush (v := 29) hx hb dX9_layTold_108 (by decide) ?_
                    refine lv_iload_n hx hb dX9_layTold_110 rfl (lv_at hl 1 rfl) ?_
                    refine lv_iadd hx hb dX9_layTold_111 ?_
                    refine h_nm (lo := 29) (hi := 35) (iv_add kc_29 i44 (by decide) (by decide) (by decide) (by decide)) (fun v59 e_v59 i_v59 => ?_)
                    refine lv_iload_n hx hb dX9_layTold_112 rfl (lv_at hl 2 rfl) ?_
                    have J134 : ∀ (t2_134 : Int32) (H : Heap) (locs : List Loc) (ls : Array Slot), kI D g σ e_h_layTold_X9 M s.heap M56 N R H locs → lv_has ls 3 [(0, .ref y), (1, .int v1_23)] → W p l e (headSpec wsX9_layTold ({ frames := 1, cells := 0, slots := 0, locals := 20 })).room s m ar below meth c H locs 0 0 Q (F0 m 134 ls [.int t2_134, .int v59, .ref a51]) := by
                      intro t2_134 H locs ls hI hl
                      refine h_iast (j := v59.toNatClampNeg) hx hb hK hI g_a51 (by decide) rfl (iv_in (n := 39) i_v59 (by decide) (by decide)) rfl (iv_posA (so := 145) (c := 29) (d := 36) (iv_nat1 i_v59 (by decide)) (iv_nat2 i_v59 (by decide) (by decide)) (by decide)) rfl dX9_layTold_134 (fun M60 H locs e_M60 hI => ?_)
                      obtain ⟨v61, e_v61⟩ : ∃ z : Int32, z = v1_23 + Int32.ofInt 1 := ⟨_, rfl⟩
                      have i_v61 : iv v61 1 7 := by rw [e_v61]; exact iv_add i44 (ki_1) (by decide) (by decide) (by decide) (by decide)
                      refine lv_iinc (v := v61) (lv' := [(1, .int v61), (0, .ref y)]) hx hb dX9_layTold_135 hl (k := 1) rfl e_v61.symm (by decide) rfl (fun ls hl => ?_)
                      refine lv_goto (tgt := 23) hx hb dX9_layTold_138 (by decide) ?_
                      have m62 : hAd σ [(9, 35), (111, 999), (112, 999), (120, 999)] M M60 := (AGT_ag hI.2.1 g_y (AGT_ag hI.2.1 g_y (AGT_ag hI.2.1 g_y m_AGT_23 (hAd.put e_M52 g_a51 rfl)) (hAd.put e_M56 g_a51 rfl)) (hAd.put e_M60 g_a51 rfl))
                      exact ih23 M60 v61 H locs ls hI (lv_sub hl [1, 0] rfl) m62 (iv_w (lo' := 0) (hi' := 7) i_v61 (by decide) (by decide)) (by have h9 := (h_inc e_v61 i44 ki_1 (by decide) (by decide)); omega)
                    refine lv_if_eq (tgt := 133) hx hb dX9_layTold_113 (by decide) (fun c63 => ?_) (fun c63 => ?_)
                    · have i64 : iv t0_42 0 0 := iv_eq1 c63 i_t0_42 kc_0
                      refine lv_iconst (v := 0) hx hb dX9_layTold_133 (by decide) ?_
                      exact J134 (0 : Int32) H locs ls hI (lv_sub hl [0, 1] rfl)
                    · have i65 : iv t0_42 1 1 := iv_neL c63 i_t0_42 (by decide) (by decide)
                      refine lv_aload_n hx hb dX9_layTold_116 rfl (lv_at hl 0 rfl) ?_
                      refine h_getr hx hb hts iX9_layTold_X9 hown hK hI g_y (by decide) rfl rfl 23 (by decide) rfl 123 rfl (hts (.fieldLink RX9 57 "CatLeasesModel" "fidget" "[I") (List.mem_of_getElem? (i := 5) rfl)) (fun _ h9 => h9) dX9_layTold_117 (fun a66 e_a66 g_a66 => ?_)
                      refine lv_bipush (v := 7) hx hb dX9_layTold_120 (by decide) ?_
                      refine lv_aload_n hx hb dX9_layTold_122 rfl (lv_at hl 0 rfl) ?_
                      refine h_geti (lo := 0) (hi := 1) hx hb hts iX9_layTold_X9 hown hK hI g_y (by decide) rfl rfl 35 (by decide) rfl rfl (hts (.fieldLink RX9 268 "CatLeasesModel" "bank" "I") (List.mem_of_getElem? (i := 3) rfl)) (fun _ h9 => h9) dX9_layTold_123 (fun v67 e_v67 i_v67 => ?_)
                      refine lv_imul hx hb dX9_layTold_126 ?_
                      refine h_nm (lo := 0) (hi := 7) (iv_mul kc_7 i_v67 (by decide) (by decide) (by decide) (by decide) (by decide)) (fun v68 e_v68 i_v68 => ?_)
                      refine lv_iload_n hx hb dX9_layTold_127 rfl (lv_at hl 1 rfl) ?_
                      refine lv_iadd hx hb dX9_layTold_128 ?_
                      refine h_nm (lo := 0) (hi := 13) (iv_add i_v68 i44 (by decide) (by decide) (by decide) (by decide)) (fun v69 e_v69 i_v69 => ?_)
                      refine h_iald (j := v69.toNatClampNeg) (lo := (-2147483648)) (hi := 2147483647) hx hb hK hI g_a66 (by decide) rfl (iv_in (n := 14) i_v69 (by decide) (by decide)) rfl (iv_any _) dX9_layTold_129 (fun v70 e_v70 i_v70 => ?_)
                      refine lv_goto (tgt := 134) hx hb dX9_layTold_130 (by decide) ?_
                      exact J134 v70 H locs ls hI (lv_sub hl [0, 1] rfl)
                  refine lv_if_eq (tgt := 102) hx hb dX9_layTold_82 (by decide) (fun c71 => ?_) (fun c71 => ?_)
                  · have i72 : iv t0_42 0 0 := iv_eq1 c71 i_t0_42 kc_0
                    refine lv_iconst (v := 0) hx hb dX9_layTold_102 (by decide) ?_
                    exact J103 (0 : Int32) H locs ls hI hl
                  · have i73 : iv t0_42 1 1 := iv_neL c71 i_t0_42 (by decide) (by decide)
                    refine lv_aload_n hx hb dX9_layTold_85 rfl (lv_at hl 0 rfl) ?_
                    refine h_getr hx hb hts iX9_layTold_X9 hown hK hI g_y (by decide) rfl rfl 21 (by decide) rfl 121 rfl (hts (.fieldLink RX9 51 "CatLeasesModel" "hours" "[I") (List.mem_of_getElem? (i := 4) rfl)) (fun _ h9 => h9) dX9_layTold_86 (fun a74 e_a74 g_a74 => ?_)
                    refine lv_bipush (v := 7) hx hb dX9_layTold_89 (by decide) ?_
                    refine lv_aload_n hx hb dX9_layTold_91 rfl (lv_at hl 0 rfl) ?_
                    refine h_geti (lo := 0) (hi := 1) hx hb hts iX9_layTold_X9 hown hK hI g_y (by decide) rfl rfl 35 (by decide) rfl rfl (hts (.fieldLink RX9 268 "CatLeasesModel" "bank" "I") (List.mem_of_getElem? (i := 3) rfl)) (fun _ h9 => h9) dX9_layTold_92 (fun v75 e_v75 i_v75 => ?_)
                    refine lv_imul hx hb dX9_layTold_95 ?_
                    refine h_nm (lo := 0) (hi := 7) (iv_mul kc_7 i_v75 (by decide) (by decide) (by decide) (by decide) (by decide)) (fun v76 e_v76 i_v76 => ?_)
                    refine lv_iload_n hx hb dX9_layTold_96 rfl (lv_at hl 1 rfl) ?_
                    refine lv_iadd hx hb dX9_layTold_97 ?_
                    refine h_nm (lo := 0) (hi := 13) (iv_add i_v76 i44 (by decide) (by decide) (by decide) (by decide)) (fun v77 e_v77 i_v77 => ?_)
                    refine h_iald (j := v77.toNatClampNeg) (lo := (-2147483648)) (hi := 2147483647) hx hb hK hI g_a74 (by decide) rfl (iv_in (n := 14) i_v77 (by decide) (by decide)) rfl (iv_any _) dX9_layTold_98 (fun v78 e_v78 i_v78 => ?_)
                    refine lv_goto (tgt := 103) hx hb dX9_layTold_99 (by decide) ?_
                    exact J103 v78 H locs ls hI hl
                refine lv_if_eq (tgt := 71) hx hb dX9_layTold_51 (by decide) (fun c79 => ?_) (fun c79 => ?_)
                · have i80 : iv t0_42 0 0 := iv_eq1 c79 i_t0_42 kc_0
                  refine lv_iconst (v := (-1)) hx hb dX9_layTold_71 (by decide) ?_
                  exact J72 (-1 : Int32) H locs ls hI (lv_sub hl [1, 2, 0] rfl) (iv_w (lo' := (-1)) (hi' := 7) kc_m1 (by decide) (by decide))
                · have i81 : iv t0_42 1 1 := iv_neL c79 i_t0_42 (by decide) (by decide)
                  refine lv_aload_n hx hb dX9_layTold_54 rfl (lv_at hl 1 rfl) ?_
                  refine h_getr hx hb hts iX9_layTold_X9 hown hK hI g_y (by decide) rfl rfl 24 (by decide) rfl 124 rfl (hts (.fieldLink RX9 60 "CatLeasesModel" "inRoom" "[I") (List.mem_of_getElem? (i := 2) rfl)) (fun _ h9 => h9) dX9_layTold_55 (fun a82 e_a82 g_a82 => ?_)
                  refine lv_bipush (v := 7) hx hb dX9_layTold_58 (by decide) ?_
                  refine lv_aload_n hx hb dX9_layTold_60 rfl (lv_at hl 1 rfl) ?_
                  refine h_geti (lo := 0) (hi := 1) hx hb hts iX9_layTold_X9 hown hK hI g_y (by decide) rfl rfl 35 (by decide) rfl rfl (hts (.fieldLink RX9 268 "CatLeasesModel" "bank" "I") (List.mem_of_getElem? (i := 3) rfl)) (fun _ h9 => h9) dX9_layTold_61 (fun v83 e_v83 i_v83 => ?_)
                  refine lv_imul hx hb dX9_layTold_64 ?_
                  refine h_nm (lo := 0) (hi := 7) (iv_mul kc_7 i_v83 (by decide) (by decide) (by decide) (by decide) (by decide)) (fun v84 e_v84 i_v84 => ?_)
                  refine lv_iload_n hx hb dX9_layTold_65 rfl (lv_at hl 2 rfl) ?_
                  refine lv_iadd hx hb dX9_layTold_66 ?_
                  refine h_nm (lo := 0) (hi := 13) (iv_add i_v84 i44 (by decide) (by decide) (by decide) (by decide)) (fun v85 e_v85 i_v85 => ?_)
                  refine h_iald (j := v85.toNatClampNeg) (lo := (-1)) (hi := 7) hx hb hK hI g_a82 (by decide) rfl (iv_in (n := 14) i_v85 (by decide) (by decide)) rfl (hI.iv1 (n := 14) g_a82 rfl (in_lt (iv_in (n := 14) i_v85 (by decide) (by decide))) rfl) dX9_layTold_67 (fun v86 e_v86 i_v86 => ?_)
                  refine lv_goto (tgt := 72) hx hb dX9_layTold_68 (by decide) ?_
                  exact J72 v86 H locs ls hI (lv_sub hl [1, 2, 0] rfl) i_v86
              refine lv_icmp_ge (tgt := 41) hx hb dX9_layTold_34 (by decide) (fun c87 => ?_) (fun c87 => ?_)
              · have i88 : iv r45 0 6 := iv_le1 c87 i_r45 i44 (by decide)
                refine lv_iconst (v := 0) hx hb dX9_layTold_41 (by decide) ?_
                exact J42 (0 : Int32) H locs ls hI hl (iv_w (lo' := 0) (hi' := 1) kc_0 (by decide) (by decide))
              · have i89 : iv r45 1 7 := iv_nle1 c87 i_r45 i44 (by decide)
                refine lv_iconst (v := 1) hx hb dX9_layTold_37 (by decide) ?_
                refine lv_goto (tgt := 42) hx hb dX9_layTold_38 (by decide) ?_
                exact J42 (1 : Int32) H locs ls hI hl (iv_w (lo' := 0) (hi' := 1) kc_1 (by decide) (by decide))
        refine lv_istore_n (lv' := [(1, .int (0 : Int32)), (0, .ref y)]) hx hb dX9_layTold_22 rfl hl (by decide) rfl (fun ls hl => ?_)
        exact J23 8 M_2 (0 : Int32) H locs ls hI (lv_sub hl [1, 0] rfl) m_AGT_2 (iv_w (lo' := 0) (hi' := 7) kc_0 (by decide) (by decide)) (by have h9 := kc_0; simp only [iv] at h9; omega)
      · have i90 : iv v1_2 0 38 := iv_nle2 c1 kc_39 i_v1_2 (by decide)
        refine lv_aload_n hx hb dX9_layTold_8 rfl (lv_at hl 0 rfl) ?_
        refine h_getr hx hb hts iX9_layTold_X9 hown hK hI g_y (by decide) rfl rfl 45 (by decide) rfl 145 rfl (hts (.fieldLink RX9 94 "CatLeasesModel" "all" "[I") (List.mem_of_getElem? (i := 1) rfl)) (fun _ h9 => h9) dX9_layTold_9 (fun a91 e_a91 g_a91 => ?_)
        refine lv_iload_n hx hb dX9_layTold_12 rfl (lv_at hl 1 rfl) ?_
        refine lv_iconst (v := 0) hx hb dX9_layTold_13 (by decide) ?_
        refine h_iast (j := v1_2.toNatClampNeg) hx hb hK hI g_a91 (by decide) rfl (iv_in (n := 39) i90 (by decide) (by decide)) rfl (iv_pos (so := 145) (c := 0) (d := 39) (lo := (-1)) (hi := 5) (iv_w (lo' := (-1)) (hi' := 5) kc_0 (by decide) (by decide)) (iv_nat1 i90 (by decide)) (iv_nat2 i90 (by decide) (by decide)) (by decide)) rfl dX9_layTold_14 (fun M92 H locs e_M92 hI => ?_)
        obtain ⟨v93, e_v93⟩ : ∃ z : Int32, z = v1_2 + Int32.ofInt 1 := ⟨_, rfl⟩
        have i_v93 : iv v93 1 39 := by rw [e_v93]; exact iv_add i90 (ki_1) (by decide) (by decide) (by decide) (by decide)
        refine lv_iinc (v := v93) (lv' := [(1, .int v93), (0, .ref y)]) hx hb dX9_layTold_15 hl (k := 1) rfl e_v93.symm (by decide) rfl (fun ls hl => ?_)
        refine lv_goto (tgt := 2) hx hb dX9_layTold_18 (by decide) ?_
        have m94 : hAd σ [(9, 35), (111, 999), (112, 999), (120, 999)] M M92 := (AGT_ag hI.2.1 g_y m_AGT_2 (hAd.put e_M92 g_a91 rfl))
        exact ih2 M92 v93 H locs ls hI (lv_sub hl [1, 0] rfl) m94 (iv_w (lo' := 0) (hi' := 39) i_v93 (by decide) (by decide)) (by have h9 := (h_inc e_v93 i90 ki_1 (by decide) (by decide)); omega)
  refine lv_istore_n (lv' := [(1, .int (0 : Int32)), (0, .ref y)]) hx hb dX9_layTold_1 rfl hl (by decide) rfl (fun ls hl => ?_)
  exact J2 40 M (0 : Int32) H locs ls hI (lv_sub hl [1, 0] rfl) (hAd.rf (dl := [(9, 35), (111, 999), (112, 999), (120, 999)])) (iv_w (lo' := 0) (hi' := 39) kc_0 (by decide) (by decide)) (by have h9 := kc_0; simp only [iv] at h9; omega)
abbrev e_h_startAnew_X9 : List (Nat × Nat) := [(9, 50), (9, 51), (9, 54), (9, 63), (145, 999), (166, 999)]
set_option maxHeartbeats 4000000 in
set_option maxRecDepth 100000 in
theorem h_startAnew_X9 (l : Launch) (D : va_G) (g : Nat → ClassId) (σ : Nat → Option Nat) (Z : State → Heap → Prop) (hZ0 : hZ σ Z) (M : hM) (N : hN) (R : hR) (y : Nat) (g_y : σ y = some 9) : Met l yX9_startAnew wsX9_startAnew ({ frames := 2, cells := 0, slots := 0, locals := 42 }) (va_Pc [.ref y] (hPre D g σ Z M N R)) (hQv D g σ e_h_startAnew_X9 M (fun (M1 : hM) (N1 : hN) (R1 : hR) => N = N1 ∧ R = R1 ∧ (TV M R y → KV M1 R y) ∧ (WV M1 R y) ∧ (BV M1 R y))) 0 0 (hA σ) := by
  refine h_head (cc := cX9_startAnew) (maxL := 2) (ret := none) (by decide) rfl (Nat.le_of_ble_eq_true rfl) e_h_startAnew_X9 ?_
  intro p e s m below meth c ls Q ar hQ hx hb hr hlocks hml hown hts hK hE H locs hI hl
  have hown : s.vm.findClass RX9 = some m.cls := hown
  have hl : lv_has ls 2 [(0, .ref y)] := hl
  refine lv_aload_n hx hb dX9_startAnew_0 rfl (lv_at hl 0 rfl) ?_
  refine h_gov hI (by decide) (va_runV (As := []) (rest := []) ⟨hx, hb, hml, hown, hts⟩ (h_layTold_X9 l D g σ Z hZ0 M N R y g_y) (cwV 0 hts gX9_startAnew_X9_layTold rfl rfl rfl (by decide +kernel) ⟨Nat.le_of_ble_eq_true rfl, Nat.le_of_ble_eq_true rfl⟩) (h_preV hZ0 hK hE hI g_y (by decide) rfl) rfl rfl hl.1 rfl (lv_room (Nat.le_of_ble_eq_true rfl)) dX9_startAnew_1 ⟨Nat.le_of_ble_eq_true rfl, Nat.le_of_ble_eq_true rfl⟩) (fun M2 N3 R4 H locs q5 z_M2 hI => ?_)
  obtain ⟨rfl, rfl, z6⟩ := q5
  refine lv_aload_n hx hb dX9_startAnew_4 rfl (lv_at hl 0 rfl) ?_
  refine lv_iconst (v := 0) hx hb dX9_startAnew_5 (by decide) ?_
  refine h_puti hx hb hts iX9_startAnew_X9 tyX9 tyX9_ok nmX9 hown hK hI g_y (by decide) rfl rfl 50 (by decide) rfl (hts (.fieldLink RX9 398 "CatLeasesModel" "acts" "I") (List.mem_of_getElem? (i := 1) rfl)) (fun _ h9 => h9) rfl .int (by decide +kernel) rfl rfl (iv_w (lo' := 0) (hi' := 40) kc_0 (by decide) (by decide)) rfl dX9_startAnew_6 (fun M7 H locs e_M7 hI => ?_)
  refine lv_aload_n hx hb dX9_startAnew_9 rfl (lv_at hl 0 rfl) ?_
  refine lv_iconst (v := 0) hx hb dX9_startAnew_10 (by decide) ?_
  refine h_puti hx hb hts iX9_startAnew_X9 tyX9 tyX9_ok nmX9 hown hK hI g_y (by decide) rfl rfl 51 (by decide) rfl (hts (.fieldLink RX9 401 "CatLeasesModel" "undone" "I") (List.mem_of_getElem? (i := 2) rfl)) (fun _ h9 => h9) rfl .int (by decide +kernel) rfl rfl (iv_w (lo' := 0) (hi' := 40) kc_0 (by decide) (by decide)) rfl dX9_startAnew_11 (fun M8 H locs e_M8 hI => ?_)
  have m9 : WV M8 R y := WV_0 e_M7 e_M8 rfl rfl
  refine lv_aload_n hx hb dX9_startAnew_14 rfl (lv_at hl 0 rfl) ?_
  refine lv_iconst (v := 0) hx hb dX9_startAnew_15 (by decide) ?_
  refine h_puti hx hb hts iX9_startAnew_X9 tyX9 tyX9_ok nmX9 hown hK hI g_y (by decide) rfl rfl 63 (by decide) rfl (hts (.fieldLink RX9 404 "CatLeasesModel" "seens" "I") (List.mem_of_getElem? (i := 3) rfl)) (fun _ h9 => h9) rfl .int (by decide +kernel) rfl rfl (iv_w (lo' := 0) (hi' := 30) kc_0 (by decide) (by decide)) rfl dX9_startAnew_16 (fun M10 H locs e_M10 hI => ?_)
  refine lv_aload_n hx hb dX9_startAnew_19 rfl (lv_at hl 0 rfl) ?_
  refine lv_iconst (v := 0) hx hb dX9_startAnew_20 (by decide) ?_
  refine h_puti hx hb hts iX9_startAnew_X9 tyX9 tyX9_ok nmX9 hown hK hI g_y (by decide) rfl rfl 54 (by decide) rfl (hts (.fieldLink RX9 407 "CatLeasesModel" "laid" "I") (List.mem_of_getElem? (i := 4) rfl)) (fun _ h9 => h9) rfl .int (by decide +kernel) rfl rfl (iv_w (lo' := 0) (hi' := 7) kc_0 (by decide) (by decide)) rfl dX9_startAnew_21 (fun M11 H locs e_M11 hI => ?_)
  refine lv_iconst (v := 0) hx hb dX9_startAnew_24 (by decide) ?_
  have J26 : ∀ (n : Nat) (M_26 : hM) (v1_26 : Int32) (H : Heap) (locs : List Loc) (ls : Array Slot), kI D g σ e_h_startAnew_X9 M s.heap M_26 N R H locs → lv_has ls 2 [(0, .ref y), (1, .int v1_26)] → (0 : Int32) = M_26 y 50 → (0 : Int32) = M_26 y 51 → (0 : Int32) = M_26 y 54 → (0 : Int32) = M_26 y 63 → (TV M R y → KV M_26 R y) → WV M_26 R y → iv v1_26 0 3 → BZ M_26 R y v1_26.toNatClampNeg → 4 ≤ v1_26.toInt + (n : Int) → W p l e (headSpec wsX9_startAnew ({ frames := 2, cells := 0, slots := 0, locals := 42 })).room s m ar below meth c H locs 0 0 Q (F0 m 26 ls []) := by
    intro n
    induction n with
    | zero => intro M_26 v1_26 H locs ls hI hl k0_26 k1_26 k2_26 k3_26 m_TKV_26 m_WV_26 i_v1_26 hbz_26 hn; exfalso; have hz := i_v1_26; simp only [iv] at hz; omega
    | succ n ih26 =>
      intro M_26 v1_26 H locs ls hI hl k0_26 k1_26 k2_26 k3_26 m_TKV_26 m_WV_26 i_v1_26 hbz_26 hn26
      refine lv_iload_n hx hb dX9_startAnew_26 rfl (lv_at hl 1 rfl) ?_
      refine lv_iconst (v := 3) hx hb dX9_startAnew_27 (by decide) ?_
      refine lv_icmp_ge (tgt := 44) hx hb dX9_startAnew_28 (by decide) (fun c12 => ?_) (fun c12 => ?_)
      · have i13 : iv v1_26 3 3 := iv_le2 c12 kc_3 i_v1_26 (by decide)
        exact h_vret hQ hx hb hr hlocks hK hI ⟨rfl, rfl, m_TKV_26, m_WV_26, (BZ_end hbz_26 i13)⟩ dX9_startAnew_44
      · have i14 : iv v1_26 0 2 := iv_nle2 c12 kc_3 i_v1_26 (by decide)
        refine lv_aload_n hx hb dX9_startAnew_31 rfl (lv_at hl 0 rfl) ?_
        refine h_getr hx hb hts iX9_startAnew_X9 hown hK hI g_y (by decide) rfl rfl 66 (by decide) rfl 166 rfl (hts (.fieldLink RX9 142 "CatLeasesModel" "isBoxed" "[Z") (List.mem_of_getElem? (i := 5) rfl)) (fun _ h9 => h9) dX9_startAnew_32 (fun a15 e_a15 g_a15 => ?_)
        refine lv_iload_n hx hb dX9_startAnew_35 rfl (lv_at hl 1 rfl) ?_
        refine lv_iconst (v := 0) hx hb dX9_startAnew_36 (by decide) ?_
        refine h_zast (j := v1_26.toNatClampNeg) hx hb hK hI g_a15 (by decide) rfl (iv_in (n := 3) i14 (by decide) (by decide)) rfl (iv_narz _) rfl dX9_startAnew_37 (fun M16 H locs e_M16 hI => ?_)
        obtain ⟨v17, e_v17⟩ : ∃ z : Int32, z = v1_26 + Int32.ofInt 1 := ⟨_, rfl⟩
        have i_v17 : iv v17 1 3 := by rw [e_v17]; exact iv_add i14 (ki_1) (by decide) (by decide) (by decide) (by decide)
        refine lv_iinc (v := v17) (lv' := [(1, .int v17), (0, .ref y)]) hx hb dX9_startAnew_38 hl (k := 1) rfl e_v17.symm (by decide) rfl (fun ls hl => ?_)
        refine lv_goto (tgt := 26) hx hb dX9_startAnew_41 (by decide) ?_
        have m18 : TV M R y → KV M16 R y := (fun h9 => KV_ag hI.2.1 g_y (m_TKV_26 h9) (hAd.put e_M16 g_a15 rfl))
        have m19 : WV M16 R y := (WV_ag hI.2.1 g_y m_WV_26 (hAd.put e_M16 g_a15 rfl))
        exact ih26 M16 v17 H locs ls hI (lv_sub hl [1, 0] rfl) ((k0_26).trans (u2_st (a := y) (k := 50) e_M16 (u2_a (so_ne g_y g_a15 (by decide)))).symm) ((k1_26).trans (u2_st (a := y) (k := 51) e_M16 (u2_a (so_ne g_y g_a15 (by decide)))).symm) ((k2_26).trans (u2_st (a := y) (k := 54) e_M16 (u2_a (so_ne g_y g_a15 (by decide)))).symm) ((k3_26).trans (u2_st (a := y) (k := 63) e_M16 (u2_a (so_ne g_y g_a15 (by decide)))).symm) m18 m19 (iv_w (lo' := 0) (hi' := 3) i_v17 (by decide) (by decide)) (BZ_step (v := vp_nar .boolean 0) (ix := v1_26.toNatClampNeg) hbz_26 (by rw [e_M16, e_a15]) rfl (k_inc1 e_v17 i14 (by decide)) (by decide)) (by have h9 := (h_inc e_v17 i14 ki_1 (by decide) (by decide)); omega)
  refine lv_istore_n (lv' := [(1, .int (0 : Int32)), (0, .ref y)]) hx hb dX9_startAnew_25 rfl hl (by decide) rfl (fun ls hl => ?_)
  have m20 : TV M R y → KV M11 R y := (fun h9 => KV_ag hI.2.1 g_y ((fun h9 => KV_ag hI.2.1 g_y ((fun h9 => KV_ag hI.2.1 g_y ((fun h9 => KV_ag hI.2.1 g_y (z6 h9) (hAd.put e_M7 g_y rfl)) h9) (hAd.put e_M8 g_y rfl)) h9) (hAd.put e_M10 g_y rfl)) h9) (hAd.put e_M11 g_y rfl))
  have m21 : WV M11 R y := (WV_ag hI.2.1 g_y (WV_ag hI.2.1 g_y m9 (hAd.put e_M10 g_y rfl)) (hAd.put e_M11 g_y rfl))
  exact J26 4 M11 (0 : Int32) H locs ls hI (lv_sub hl [1, 0] rfl) (((((u2_wr e_M7)).trans (u2_st (a := y) (k := 50) e_M8 (u2_k (by decide))).symm).trans (u2_st (a := y) (k := 50) e_M10 (u2_k (by decide))).symm).trans (u2_st (a := y) (k := 50) e_M11 (u2_k (by decide))).symm) ((((u2_wr e_M8)).trans (u2_st (a := y) (k := 51) e_M10 (u2_k (by decide))).symm).trans (u2_st (a := y) (k := 51) e_M11 (u2_k (by decide))).symm) ((u2_wr e_M11)) (((u2_wr e_M10)).trans (u2_st (a := y) (k := 63) e_M11 (u2_k (by decide))).symm) m20 m21 (iv_w (lo' := 0) (hi' := 3) kc_0 (by decide) (by decide)) BZ_0 (by have h9 := kc_0; simp only [iv] at h9; omega)
abbrev e_h_clearBank_X9 : List (Nat × Nat) := [(9, 37), (111, 999), (112, 999), (113, 999), (114, 999), (115, 999), (116, 999), (117, 999)]
set_option maxHeartbeats 4000000 in
set_option maxRecDepth 100000 in
theorem h_clearBank_X9 (l : Launch) (D : va_G) (g : Nat → ClassId) (σ : Nat → Option Nat) (Z : State → Heap → Prop) (hZ0 : hZ σ Z) (M : hM) (N : hN) (R : hR) (y : Nat) (g_y : σ y = some 9) : Met l yX9_clearBank wsX9_clearBank ({ frames := 0, cells := 0, slots := 0, locals := 0 }) (va_Pc [.ref y] (hPre D g σ Z M N R)) (hQv D g σ e_h_clearBank_X9 M (fun (M1 : hM) (N1 : hN) (R1 : hR) => N = N1 ∧ R = R1)) 0 0 (hA σ) := by
  refine h_head (cc := cX9_clearBank) (maxL := 1) (ret := none) (by decide) rfl (Nat.le_of_ble_eq_true rfl) e_h_clearBank_X9 ?_
  intro p e s m below meth c ls Q ar hQ hx hb hr hlocks hml hown hts hK hE H locs hI hl
  have hown : s.vm.findClass RX9 = some m.cls := hown
  have hl : lv_has ls 1 [(0, .ref y)] := hl
  refine lv_aload_n hx hb dX9_clearBank_0 rfl (lv_at hl 0 rfl) ?_
  refine h_getr hx hb hts iX9_clearBank_X9 hown hK hI g_y (by decide) rfl rfl 11 (by decide) rfl 111 rfl (hts (.fieldLink RX9 20 "CatLeasesModel" "cats" "[I") (List.mem_of_getElem? (i := 1) rfl)) (fun _ h9 => h9) dX9_clearBank_1 (fun a1 e_a1 g_a1 => ?_)
  refine lv_aload_n hx hb dX9_clearBank_4 rfl (lv_at hl 0 rfl) ?_
  refine h_geti (lo := 0) (hi := 1) hx hb hts iX9_clearBank_X9 hown hK hI g_y (by decide) rfl rfl 36 (by decide) rfl rfl (hts (.fieldLink RX9 259 "CatLeasesModel" "rb" "I") (List.mem_of_getElem? (i := 2) rfl)) (fun _ h9 => h9) dX9_clearBank_5 (fun v2 e_v2 i_v2 => ?_)
  refine lv_iconst (v := 0) hx hb dX9_clearBank_8 (by decide) ?_
  refine h_iast (j := v2.toNatClampNeg) hx hb hK hI g_a1 (by decide) rfl (iv_in (n := 2) i_v2 (by decide) (by decide)) rfl (iv_w (lo' := 0) (hi' := 6) kc_0 (by decide) (by decide)) rfl dX9_clearBank_9 (fun M3 H locs e_M3 hI => ?_)
  refine lv_aload_n hx hb dX9_clearBank_10 rfl (lv_at hl 0 rfl) ?_
  refine h_getr hx hb hts iX9_clearBank_X9 hown hK hI g_y (by decide) rfl rfl 12 (by decide) rfl 112 rfl (hts (.fieldLink RX9 24 "CatLeasesModel" "rooms" "[I") (List.mem_of_getElem? (i := 3) rfl)) (fun _ h9 => h9) dX9_clearBank_11 (fun a4 e_a4 g_a4 => ?_)
  refine lv_aload_n hx hb dX9_clearBank_14 rfl (lv_at hl 0 rfl) ?_
  refine h_geti (lo := 0) (hi := 1) hx hb hts iX9_clearBank_X9 hown hK hI g_y (by decide) rfl rfl 36 (by decide) rfl rfl (hts (.fieldLink RX9 259 "CatLeasesModel" "rb" "I") (List.mem_of_getElem? (i := 2) rfl)) (fun _ h9 => h9) dX9_clearBank_15 (fun v5 e_v5 i_v5 => ?_)
  have q6 : v2 = v5 := ((e_v2).trans (u2_st (a := y) (k := 36) e_M3 (u2_a (so_ne g_y g_a1 (by decide)))).symm).trans e_v5.symm
  subst q6
  refine lv_iconst (v := 0) hx hb dX9_clearBank_18 (by decide) ?_
  refine h_iast (j := v2.toNatClampNeg) hx hb hK hI g_a4 (by decide) rfl (iv_in (n := 2) i_v2 (by decide) (by decide)) rfl (iv_w (lo' := 0) (hi' := 8) kc_0 (by decide) (by decide)) rfl dX9_clearBank_19 (fun M7 H locs e_M7 hI => ?_)
  refine lv_aload_n hx hb dX9_clearBank_20 rfl (lv_at hl 0 rfl) ?_
  refine h_getr hx hb hts iX9_clearBank_X9 hown hK hI g_y (by decide) rfl rfl 13 (by decide) rfl 113 rfl (hts (.fieldLink RX9 27 "CatLeasesModel" "tenants" "[I") (List.mem_of_getElem? (i := 4) rfl)) (fun _ h9 => h9) dX9_clearBank_21 (fun a8 e_a8 g_a8 => ?_)
  refine lv_aload_n hx hb dX9_clearBank_24 rfl (lv_at hl 0 rfl) ?_
  refine h_geti (lo := 0) (hi := 1) hx hb hts iX9_clearBank_X9 hown hK hI g_y (by decide) rfl rfl 36 (by decide) rfl rfl (hts (.fieldLink RX9 259 "CatLeasesModel" "rb" "I") (List.mem_of_getElem? (i := 2) rfl)) (fun _ h9 => h9) dX9_clearBank_25 (fun v9 e_v9 i_v9 => ?_)
  have q10 : v2 = v9 := (((e_v2).trans (u2_st (a := y) (k := 36) e_M3 (u2_a (so_ne g_y g_a1 (by decide)))).symm).trans (u2_st (a := y) (k := 36) e_M7 (u2_a (so_ne g_y g_a4 (by decide)))).symm).trans e_v9.symm
  subst q10
  refine lv_iconst (v := 0) hx hb dX9_clearBank_28 (by decide) ?_
  refine h_iast (j := v2.toNatClampNeg) hx hb hK hI g_a8 (by decide) rfl (iv_in (n := 2) i_v2 (by decide) (by decide)) rfl (iv_w (lo' := 0) (hi' := 7) kc_0 (by decide) (by decide)) rfl dX9_clearBank_29 (fun M11 H locs e_M11 hI => ?_)
  refine lv_aload_n hx hb dX9_clearBank_30 rfl (lv_at hl 0 rfl) ?_
  refine h_getr hx hb hts iX9_clearBank_X9 hown hK hI g_y (by decide) rfl rfl 14 (by decide) rfl 114 rfl (hts (.fieldLink RX9 30 "CatLeasesModel" "units" "[I") (List.mem_of_getElem? (i := 5) rfl)) (fun _ h9 => h9) dX9_clearBank_31 (fun a12 e_a12 g_a12 => ?_)
  refine lv_aload_n hx hb dX9_clearBank_34 rfl (lv_at hl 0 rfl) ?_
  refine h_geti (lo := 0) (hi := 1) hx hb hts iX9_clearBank_X9 hown hK hI g_y (by decide) rfl rfl 36 (by decide) rfl rfl (hts (.fieldLink RX9 259 "CatLeasesModel" "rb" "I") (List.mem_of_getElem? (i := 2) rfl)) (fun _ h9 => h9) dX9_clearBank_35 (fun v13 e_v13 i_v13 => ?_)
  have q14 : v2 = v13 := ((((e_v2).trans (u2_st (a := y) (k := 36) e_M3 (u2_a (so_ne g_y g_a1 (by decide)))).symm).trans (u2_st (a := y) (k := 36) e_M7 (u2_a (so_ne g_y g_a4 (by decide)))).symm).trans (u2_st (a := y) (k := 36) e_M11 (u2_a (so_ne g_y g_a8 (by decide)))).symm).trans e_v13.symm
  subst q14
  refine lv_iconst (v := 0) hx hb dX9_clearBank_38 (by decide) ?_
  refine h_iast (j := v2.toNatClampNeg) hx hb hK hI g_a12 (by decide) rfl (iv_in (n := 2) i_v2 (by decide) (by decide)) rfl (iv_any _) rfl dX9_clearBank_39 (fun M15 H locs e_M15 hI => ?_)
  refine lv_aload_n hx hb dX9_clearBank_40 rfl (lv_at hl 0 rfl) ?_
  refine h_getr hx hb hts iX9_clearBank_X9 hown hK hI g_y (by decide) rfl rfl 15 (by decide) rfl 115 rfl (hts (.fieldLink RX9 33 "CatLeasesModel" "dies" "[I") (List.mem_of_getElem? (i := 6) rfl)) (fun _ h9 => h9) dX9_clearBank_41 (fun a16 e_a16 g_a16 => ?_)
  refine lv_aload_n hx hb dX9_clearBank_44 rfl (lv_at hl 0 rfl) ?_
  refine h_geti (lo := 0) (hi := 1) hx hb hts iX9_clearBank_X9 hown hK hI g_y (by decide) rfl rfl 36 (by decide) rfl rfl (hts (.fieldLink RX9 259 "CatLeasesModel" "rb" "I") (List.mem_of_getElem? (i := 2) rfl)) (fun _ h9 => h9) dX9_clearBank_45 (fun v17 e_v17 i_v17 => ?_)
  have q18 : v2 = v17 := (((((e_v2).trans (u2_st (a := y) (k := 36) e_M3 (u2_a (so_ne g_y g_a1 (by decide)))).symm).trans (u2_st (a := y) (k := 36) e_M7 (u2_a (so_ne g_y g_a4 (by decide)))).symm).trans (u2_st (a := y) (k := 36) e_M11 (u2_a (so_ne g_y g_a8 (by decide)))).symm).trans (u2_st (a := y) (k := 36) e_M15 (u2_a (so_ne g_y g_a12 (by decide)))).symm).trans e_v17.symm
  subst q18
  refine lv_iconst (v := 0) hx hb dX9_clearBank_48 (by decide) ?_
  refine h_iast (j := v2.toNatClampNeg) hx hb hK hI g_a16 (by decide) rfl (iv_in (n := 2) i_v2 (by decide) (by decide)) rfl (iv_any _) rfl dX9_clearBank_49 (fun M19 H locs e_M19 hI => ?_)
  refine lv_aload_n hx hb dX9_clearBank_50 rfl (lv_at hl 0 rfl) ?_
  refine h_getr hx hb hts iX9_clearBank_X9 hown hK hI g_y (by decide) rfl rfl 16 (by decide) rfl 116 rfl (hts (.fieldLink RX9 36 "CatLeasesModel" "draw" "[I") (List.mem_of_getElem? (i := 7) rfl)) (fun _ h9 => h9) dX9_clearBank_51 (fun a20 e_a20 g_a20 => ?_)
  refine lv_aload_n hx hb dX9_clearBank_54 rfl (lv_at hl 0 rfl) ?_
  refine h_geti (lo := 0) (hi := 1) hx hb hts iX9_clearBank_X9 hown hK hI g_y (by decide) rfl rfl 36 (by decide) rfl rfl (hts (.fieldLink RX9 259 "CatLeasesModel" "rb" "I") (List.mem_of_getElem? (i := 2) rfl)) (fun _ h9 => h9) dX9_clearBank_55 (fun v21 e_v21 i_v21 => ?_)
  have q22 : v2 = v21 := ((((((e_v2).trans (u2_st (a := y) (k := 36) e_M3 (u2_a (so_ne g_y g_a1 (by decide)))).symm).trans (u2_st (a := y) (k := 36) e_M7 (u2_a (so_ne g_y g_a4 (by decide)))).symm).trans (u2_st (a := y) (k := 36) e_M11 (u2_a (so_ne g_y g_a8 (by decide)))).symm).trans (u2_st (a := y) (k := 36) e_M15 (u2_a (so_ne g_y g_a12 (by decide)))).symm).trans (u2_st (a := y) (k := 36) e_M19 (u2_a (so_ne g_y g_a16 (by decide)))).symm).trans e_v21.symm
  subst q22
  refine lv_iconst (v := 0) hx hb dX9_clearBank_58 (by decide) ?_
  refine h_iast (j := v2.toNatClampNeg) hx hb hK hI g_a20 (by decide) rfl (iv_in (n := 2) i_v2 (by decide) (by decide)) rfl (iv_any _) rfl dX9_clearBank_59 (fun M23 H locs e_M23 hI => ?_)
  refine lv_aload_n hx hb dX9_clearBank_60 rfl (lv_at hl 0 rfl) ?_
  refine h_getr hx hb hts iX9_clearBank_X9 hown hK hI g_y (by decide) rfl rfl 17 (by decide) rfl 117 rfl (hts (.fieldLink RX9 39 "CatLeasesModel" "told" "[I") (List.mem_of_getElem? (i := 8) rfl)) (fun _ h9 => h9) dX9_clearBank_61 (fun a24 e_a24 g_a24 => ?_)
  refine lv_aload_n hx hb dX9_clearBank_64 rfl (lv_at hl 0 rfl) ?_
  refine h_geti (lo := 0) (hi := 1) hx hb hts iX9_clearBank_X9 hown hK hI g_y (by decide) rfl rfl 36 (by decide) rfl rfl (hts (.fieldLink RX9 259 "CatLeasesModel" "rb" "I") (List.mem_of_getElem? (i := 2) rfl)) (fun _ h9 => h9) dX9_clearBank_65 (fun v25 e_v25 i_v25 => ?_)
  have q26 : v2 = v25 := (((((((e_v2).trans (u2_st (a := y) (k := 36) e_M3 (u2_a (so_ne g_y g_a1 (by decide)))).symm).trans (u2_st (a := y) (k := 36) e_M7 (u2_a (so_ne g_y g_a4 (by decide)))).symm).trans (u2_st (a := y) (k := 36) e_M11 (u2_a (so_ne g_y g_a8 (by decide)))).symm).trans (u2_st (a := y) (k := 36) e_M15 (u2_a (so_ne g_y g_a12 (by decide)))).symm).trans (u2_st (a := y) (k := 36) e_M19 (u2_a (so_ne g_y g_a16 (by decide)))).symm).trans (u2_st (a := y) (k := 36) e_M23 (u2_a (so_ne g_y g_a20 (by decide)))).symm).trans e_v25.symm
  subst q26
  refine lv_iconst (v := 0) hx hb dX9_clearBank_68 (by decide) ?_
  refine h_iast (j := v2.toNatClampNeg) hx hb hK hI g_a24 (by decide) rfl (iv_in (n := 2) i_v2 (by decide) (by decide)) rfl (iv_any _) rfl dX9_clearBank_69 (fun M27 H locs e_M27 hI => ?_)
  refine lv_aload_n hx hb dX9_clearBank_70 rfl (lv_at hl 0 rfl) ?_
  refine lv_sipush (v := 560) hx hb dX9_clearBank_71 (by decide) ?_
  refine lv_aload_n hx hb dX9_clearBank_74 rfl (lv_at hl 0 rfl) ?_
  refine h_geti (lo := 0) (hi := 1) hx hb hts iX9_clearBank_X9 hown hK hI g_y (by decide) rfl rfl 36 (by decide) rfl rfl (hts (.fieldLink RX9 259 "CatLeasesModel" "rb" "I") (List.mem_of_getElem? (i := 2) rfl)) (fun _ h9 => h9) dX9_clearBank_75 (fun v28 e_v28 i_v28 => ?_)
  have q29 : v2 = v28 := ((((((((e_v2).trans (u2_st (a := y) (k := 36) e_M3 (u2_a (so_ne g_y g_a1 (by decide)))).symm).trans (u2_st (a := y) (k := 36) e_M7 (u2_a (so_ne g_y g_a4 (by decide)))).symm).trans (u2_st (a := y) (k := 36) e_M11 (u2_a (so_ne g_y g_a8 (by decide)))).symm).trans (u2_st (a := y) (k := 36) e_M15 (u2_a (so_ne g_y g_a12 (by decide)))).symm).trans (u2_st (a := y) (k := 36) e_M19 (u2_a (so_ne g_y g_a16 (by decide)))).symm).trans (u2_st (a := y) (k := 36) e_M23 (u2_a (so_ne g_y g_a20 (by decide)))).symm).trans (u2_st (a := y) (k := 36) e_M27 (u2_a (so_ne g_y g_a24 (by decide)))).symm).trans e_v28.symm
  subst q29
  refine lv_imul hx hb dX9_clearBank_78 ?_
  refine h_nm (lo := 0) (hi := 560) (iv_mul kc_560 i_v2 (by decide) (by decide) (by decide) (by decide) (by decide)) (fun v30 e_v30 i_v30 => ?_)
  refine h_puti hx hb hts iX9_clearBank_X9 tyX9 tyX9_ok nmX9 hown hK hI g_y (by decide) rfl rfl 37 (by decide) rfl (hts (.fieldLink RX9 262 "CatLeasesModel" "codes" "I") (List.mem_of_getElem? (i := 9) rfl)) (fun _ h9 => h9) rfl .int (by decide +kernel) rfl rfl (iv_w (lo' := 0) (hi' := 1120) i_v30 (by decide) (by decide)) rfl dX9_clearBank_79 (fun M31 H locs e_M31 hI => ?_)
  exact h_vret hQ hx hb hr hlocks hK hI ⟨rfl, rfl⟩ dX9_clearBank_82
abbrev e_h_layIns_X9 : List (Nat × Nat) := [(9, 41), (9, 42), (9, 43), (9, 44), (9, 46), (134, 999), (145, 999), (152, 999), (157, 999)]
set_option maxHeartbeats 4000000 in
set_option maxRecDepth 100000 in
theorem h_layIns_X9 (l : Launch) (D : va_G) (g : Nat → ClassId) (σ : Nat → Option Nat) (Z : State → Heap → Prop) (hZ0 : hZ σ Z) (M : hM) (N : hN) (R : hR) (y : Nat) (g_y : σ y = some 9) (m0_KV : KV M R y) (m0_CW : CW M R y) : Met l yX9_layIns wsX9_layIns ({ frames := 7, cells := 0, slots := 0, locals := 156 }) (va_Pc [.ref y] (hPre D g σ Z M N R)) (hQv D g σ e_h_layIns_X9 M (fun (M1 : hM) (N1 : hN) (R1 : hR) => N = N1 ∧ R = R1 ∧ (KV M1 R y))) 0 0 (hA σ) := by
  refine h_head (cc := cX9_layIns) (maxL := 5) (ret := none) (by decide) rfl (Nat.le_of_ble_eq_true rfl) e_h_layIns_X9 ?_
  intro p e s m below meth c ls Q ar hQ hx hb hr hlocks hml hown hts hK hE H locs hI hl
  have hown : s.vm.findClass RX9 = some m.cls := hown
  have hl : lv_has ls 5 [(0, .ref y)] := hl
  refine lv_aload_n hx hb dX9_layIns_0 rfl (lv_at hl 0 rfl) ?_
  refine h_gov hI (by decide) (va_runV (As := []) (rest := []) ⟨hx, hb, hml, hown, hts⟩ (h_keepNow_X9 l D g σ Z hZ0 M N R y g_y) (cwV 0 hts gX9_layIns_X9_keepNow rfl rfl rfl (by decide +kernel) ⟨Nat.le_of_ble_eq_true rfl, Nat.le_of_ble_eq_true rfl⟩) (h_preV hZ0 hK hE hI g_y (by decide) rfl) rfl rfl hl.1 rfl (lv_room (Nat.le_of_ble_eq_true rfl)) dX9_layIns_1 ⟨Nat.le_of_ble_eq_true rfl, Nat.le_of_ble_eq_true rfl⟩) (fun M2 N3 R4 H locs q5 z_M2 hI => ?_)
  obtain ⟨rfl, rfl, z6⟩ := q5
  have m7 : KK M2 R y := KK_of z6 hI.2.1 g_y m0_KV
  refine lv_iconst (v := 0) hx hb dX9_layIns_4 (by decide) ?_
  have J6 : ∀ (n : Nat) (M_6 : hM) (v1_6 : Int32) (H : Heap) (locs : List Loc) (ls : Array Slot), kI D g σ e_h_layIns_X9 M s.heap M_6 N R H locs → lv_has ls 5 [(0, .ref y), (1, .int v1_6)] → CW M_6 R y → KK M_6 R y → iv v1_6 0 100 → 101 ≤ v1_6.toInt + (n : Int) → W p l e (headSpec wsX9_layIns ({ frames := 7, cells := 0, slots := 0, locals := 156 })).room s m ar below meth c H locs 0 0 Q (F0 m 6 ls []) := by
    intro n
    induction n with
    | zero => intro M_6 v1_6 H locs ls hI hl m_CW_6 m_KK_6 i_v1_6 hn; exfalso; have hz := i_v1_6; simp only [iv] at hz; omega
    | succ n ih6 =>
      intro M_6 v1_6 H locs ls hI hl m_CW_6 m_KK_6 i_v1_6 hn6
      refine lv_iload_n hx hb dX9_layIns_6 rfl (lv_at hl 1 rfl) ?_
      refine lv_bipush (v := 99) hx hb dX9_layIns_7 (by decide) ?_
      refine lv_icmp_gt (tgt := 94) hx hb dX9_layIns_9 (by decide) (fun c8 => ?_) (fun c8 => ?_)
      · have i9 : iv v1_6 100 100 := iv_lt2 c8 kc_99 i_v1_6 (by decide)
        refine lv_aload_n hx hb dX9_layIns_94 rfl (lv_at hl 0 rfl) ?_
        refine lv_iconst (v := (-1)) hx hb dX9_layIns_95 (by decide) ?_
        refine h_puti hx hb hts iX9_layIns_X9 tyX9 tyX9_ok nmX9 hown hK hI g_y (by decide) rfl rfl 46 (by decide) rfl (hts (.fieldLink RX9 97 "CatLeasesModel" "lastWants" "I") (List.mem_of_getElem? (i := 1) rfl)) (fun _ h9 => h9) rfl .int (by decide +kernel) rfl rfl (iv_w (lo' := (-2147483648)) (hi' := 2147483647) kc_m1 (by decide) (by decide)) rfl dX9_layIns_96 (fun M10 H locs e_M10 hI => ?_)
        refine lv_aload_n hx hb dX9_layIns_99 rfl (lv_at hl 0 rfl) ?_
        have m11 : KK M10 R y := (KK_ag hI.2.1 g_y m_KK_6 (hAd.put e_M10 g_y rfl))
        refine h_gov hI (by decide) (va_runV (As := []) (rest := []) ⟨hx, hb, hml, hown, hts⟩ (h_bringBack_X9 l D g σ Z hZ0 M10 N R y g_y) (cwV 0 hts gX9_layIns_X9_bringBack rfl rfl rfl (by decide +kernel) ⟨Nat.le_of_ble_eq_true rfl, Nat.le_of_ble_eq_true rfl⟩) (h_preV hZ0 hK hE hI g_y (by decide) rfl) rfl rfl hl.1 rfl (lv_room (Nat.le_of_ble_eq_true rfl)) dX9_layIns_100 ⟨Nat.le_of_ble_eq_true rfl, Nat.le_of_ble_eq_true rfl⟩) (fun M13 N14 R15 H locs q16 z_M13 hI => ?_)
        obtain ⟨rfl, rfl, z17⟩ := q16
        have m18 : KV M13 R y := KV_of z17 hI.2.1 g_y m11
        exact h_vret hQ hx hb hr hlocks hK hI ⟨rfl, rfl, m18⟩ dX9_layIns_103
      · have i19 : iv v1_6 0 99 := iv_nlt2 c8 kc_99 i_v1_6 (by decide)
        refine lv_aload_n hx hb dX9_layIns_12 rfl (lv_at hl 0 rfl) ?_
        refine lv_iload_n hx hb dX9_layIns_13 rfl (lv_at hl 1 rfl) ?_
        refine h_puti hx hb hts iX9_layIns_X9 tyX9 tyX9_ok nmX9 hown hK hI g_y (by decide) rfl rfl 46 (by decide) rfl (hts (.fieldLink RX9 97 "CatLeasesModel" "lastWants" "I") (List.mem_of_getElem? (i := 1) rfl)) (fun _ h9 => h9) rfl .int (by decide +kernel) rfl rfl (iv_w (lo' := (-2147483648)) (hi' := 2147483647) i19 (by decide) (by decide)) rfl dX9_layIns_14 (fun M20 H locs e_M20 hI => ?_)
        refine lv_aload_n hx hb dX9_layIns_17 rfl (lv_at hl 0 rfl) ?_
        refine h_gov hI (by decide) (va_runV (As := []) (rest := []) ⟨hx, hb, hml, hown, hts⟩ (h_layTold_X9 l D g σ Z hZ0 M20 N R y g_y) (cwV 0 hts gX9_layIns_X9_layTold rfl rfl rfl (by decide +kernel) ⟨Nat.le_of_ble_eq_true rfl, Nat.le_of_ble_eq_true rfl⟩) (h_preV hZ0 hK hE hI g_y (by decide) rfl) rfl rfl hl.1 rfl (lv_room (Nat.le_of_ble_eq_true rfl)) dX9_layIns_18 ⟨Nat.le_of_ble_eq_true rfl, Nat.le_of_ble_eq_true rfl⟩) (fun M22 N23 R24 H locs q25 z_M22 hI => ?_)
        obtain ⟨rfl, rfl, z26⟩ := q25
        refine lv_iconst (v := 0) hx hb dX9_layIns_21 (by decide) ?_
        have J23 : ∀ (n : Nat) (M_23 : hM) (v2_23 : Int32) (H : Heap) (locs : List Loc) (ls : Array Slot), kI D g σ e_h_layIns_X9 M s.heap M_23 N R H locs → lv_has ls 5 [(0, .ref y), (1, .int v1_6), (2, .int v2_23)] → v1_6 = M_23 y 46 → CW M_23 R y → KK M_23 R y → iv v2_23 0 10 → 11 ≤ v2_23.toInt + (n : Int) → W p l e (headSpec wsX9_layIns ({ frames := 7, cells := 0, slots := 0, locals := 156 })).room s m ar below meth c H locs 0 0 Q (F0 m 23 ls []) := by
          intro n
          induction n with
          | zero => intro M_23 v2_23 H locs ls hI hl k0_23 m_CW_23 m_KK_23 i_v2_23 hn; exfalso; have hz := i_v2_23; simp only [iv] at hz; omega
          | succ n ih23 =>
            intro M_23 v2_23 H locs ls hI hl k0_23 m_CW_23 m_KK_23 i_v2_23 hn23
            refine lv_iload_n hx hb dX9_layIns_23 rfl (lv_at hl 2 rfl) ?_
            refine lv_bipush (v := 9) hx hb dX9_layIns_24 (by decide) ?_
            refine lv_icmp_gt (tgt := 88) hx hb dX9_layIns_26 (by decide) (fun c27 => ?_) (fun c27 => ?_)
            · have i28 : iv v2_23 10 10 := iv_lt2 c27 kc_9 i_v2_23 (by decide)
              obtain ⟨v29, e_v29⟩ : ∃ z : Int32, z = v1_6 + Int32.ofInt 1 := ⟨_, rfl⟩
              have i_v29 : iv v29 1 100 := by rw [e_v29]; exact iv_add i19 (ki_1) (by decide) (by decide) (by decide) (by decide)
              refine lv_iinc (v := v29) (lv' := [(1, .int v29), (0, .ref y), (2, .int v2_23)]) hx hb dX9_layIns_88 hl (k := 1) rfl e_v29.symm (by decide) rfl (fun ls hl => ?_)
              refine lv_goto (tgt := 6) hx hb dX9_layIns_91 (by decide) ?_
              exact ih6 M_23 v29 H locs ls hI (lv_sub hl [1, 0] rfl) m_CW_23 m_KK_23 (iv_w (lo' := 0) (hi' := 100) i_v29 (by decide) (by decide)) (by have h9 := (h_inc e_v29 i19 ki_1 (by decide) (by decide)); omega)
            · have i30 : iv v2_23 0 9 := iv_nlt2 c27 kc_9 i_v2_23 (by decide)
              refine lv_iconst (v := 0) hx hb dX9_layIns_29 (by decide) ?_
              refine lv_istore_n (lv' := [(3, .int (0 : Int32)), (0, .ref y), (1, .int v1_6), (2, .int v2_23)]) hx hb dX9_layIns_30 rfl hl (by decide) rfl (fun ls hl => ?_)
              refine lv_iconst (v := 0) hx hb dX9_layIns_31 (by decide) ?_
              have J34 : ∀ (n : Nat) (v3_34 : Int32) (v4_34 : Int32) (H : Heap) (locs : List Loc) (ls : Array Slot), kI D g σ e_h_layIns_X9 M s.heap M_23 N R H locs → lv_has ls 5 [(0, .ref y), (1, .int v1_6), (2, .int v2_23), (3, .int v3_34), (4, .int v4_34)] → iv v3_34 0 255 → iv v4_34 0 7 → 8 ≤ v4_34.toInt + (n : Int) → W p l e (headSpec wsX9_layIns ({ frames := 7, cells := 0, slots := 0, locals := 156 })).room s m ar below meth c H locs 0 0 Q (F0 m 34 ls []) := by
                intro n
                induction n with
                | zero => intro v3_34 v4_34 H locs ls hI hl i_v3_34 i_v4_34 hn; exfalso; have hz := i_v4_34; simp only [iv] at hz; omega
                | succ n ih34 =>
                  intro v3_34 v4_34 H locs ls hI hl i_v3_34 i_v4_34 hn34
                  refine lv_iload hx hb dX9_layIns_34 (lv_at hl 4 rfl) ?_
                  refine lv_aload_n hx hb dX9_layIns_36 rfl (lv_at hl 0 rfl) ?_
                  refine h_goi hI (by decide) (va_runV (As := []) (rest := [.int v4_34]) ⟨hx, hb, hml, hown, hts⟩ (h_many_X9 l D g σ Z hZ0 M_23 N R y g_y) (cwV 0 hts gX9_layIns_X9_many rfl rfl rfl (by decide +kernel) ⟨Nat.le_of_ble_eq_true rfl, Nat.le_of_ble_eq_true rfl⟩) (h_preV hZ0 hK hE hI g_y (by decide) rfl) rfl rfl hl.1 rfl (lv_room (Nat.le_of_ble_eq_true rfl)) dX9_layIns_37 ⟨Nat.le_of_ble_eq_true rfl, Nat.le_of_ble_eq_true rfl⟩) (fun r31 M32 N33 R34 H locs q35 z_M32 hI => ?_)
                  obtain ⟨rfl, rfl, rfl, i_r31, z36⟩ := q35
                  refine lv_icmp_ge (tgt := 65) hx hb dX9_layIns_40 (by decide) (fun c37 => ?_) (fun c37 => ?_)
                  · refine lv_aload_n hx hb dX9_layIns_65 rfl (lv_at hl 0 rfl) ?_
                    refine h_getr hx hb hts iX9_layIns_X9 hown hK hI g_y (by decide) rfl rfl 57 (by decide) rfl 157 rfl (hts (.fieldLink RX9 121 "CatLeasesModel" "inBy" "[I") (List.mem_of_getElem? (i := 2) rfl)) (fun _ h9 => h9) dX9_layIns_66 (fun a38 e_a38 g_a38 => ?_)
                    refine lv_bipush (v := 10) hx hb dX9_layIns_69 (by decide) ?_
                    refine lv_iload_n hx hb dX9_layIns_71 rfl (lv_at hl 1 rfl) ?_
                    refine lv_imul hx hb dX9_layIns_72 ?_
                    refine h_nm (lo := 0) (hi := 990) (iv_mul kc_10 i19 (by decide) (by decide) (by decide) (by decide) (by decide)) (fun v39 e_v39 i_v39 => ?_)
                    refine lv_iload_n hx hb dX9_layIns_73 rfl (lv_at hl 2 rfl) ?_
                    refine lv_iadd hx hb dX9_layIns_74 ?_
                    refine h_nm (lo := 0) (hi := 999) (iv_add i_v39 i30 (by decide) (by decide) (by decide) (by decide)) (fun v40 e_v40 i_v40 => ?_)
                    refine lv_iload_n hx hb dX9_layIns_75 rfl (lv_at hl 3 rfl) ?_
                    refine h_iast (j := v40.toNatClampNeg) hx hb hK hI g_a38 (by decide) rfl (iv_in (n := 1000) i_v40 (by decide) (by decide)) rfl (iv_any _) rfl dX9_layIns_76 (fun M41 H locs e_M41 hI => ?_)
                    refine lv_aload_n hx hb dX9_layIns_77 rfl (lv_at hl 0 rfl) ?_
                    have m42 : CW M41 R y := (CW_ag hI.2.1 g_y m_CW_23 (hAd.put e_M41 g_a38 rfl))
                    refine h_goi hI (by decide) (va_runV (As := []) (rest := []) ⟨hx, hb, hml, hown, hts⟩ (h_goQuarter_X9 l D g σ Z hZ0 M41 N R y g_y m42) (cwV 0 hts gX9_layIns_X9_goQuarter rfl rfl rfl (by decide +kernel) ⟨Nat.le_of_ble_eq_true rfl, Nat.le_of_ble_eq_true rfl⟩) (h_preV hZ0 hK hE hI g_y (by decide) rfl) rfl rfl hl.1 rfl (lv_room (Nat.le_of_ble_eq_true rfl)) dX9_layIns_78 ⟨Nat.le_of_ble_eq_true rfl, Nat.le_of_ble_eq_true rfl⟩) (fun r43 M44 N45 R46 H locs q47 z_M44 hI => ?_)
                    obtain ⟨rfl, rfl, i_r43, m48⟩ := q47
                    refine lv_istore_n (lv' := [(3, .int r43), (0, .ref y), (1, .int v1_6), (2, .int v2_23), (4, .int v4_34)]) hx hb dX9_layIns_81 rfl hl (by decide) rfl (fun ls hl => ?_)
                    obtain ⟨v49, e_v49⟩ : ∃ z : Int32, z = v2_23 + Int32.ofInt 1 := ⟨_, rfl⟩
                    have i_v49 : iv v49 1 10 := by rw [e_v49]; exact iv_add i30 (ki_1) (by decide) (by decide) (by decide) (by decide)
                    refine lv_iinc (v := v49) (lv' := [(2, .int v49), (3, .int r43), (0, .ref y), (1, .int v1_6), (4, .int v4_34)]) hx hb dX9_layIns_82 hl (k := 3) rfl e_v49.symm (by decide) rfl (fun ls hl => ?_)
                    refine lv_goto (tgt := 23) hx hb dX9_layIns_85 (by decide) ?_
                    have m50 : CW M44 R y := (CW_ag hI.2.1 g_y m42 (hAd.ag z_M44 (by decide)))
                    have m51 : KK M44 R y := (KK_ag hI.2.1 g_y (KK_ag hI.2.1 g_y m_KK_23 (hAd.put e_M41 g_a38 rfl)) (hAd.ag z_M44 (by decide)))
                    exact ih23 M44 v49 H locs ls hI (lv_sub hl [2, 3, 0] rfl) (((k0_23).trans (u2_st (a := y) (k := 46) e_M41 (u2_a (so_ne g_y g_a38 (by decide)))).symm).trans (z_M44 y 9 46 g_y rfl).symm) m50 m51 (iv_w (lo' := 0) (hi' := 10) i_v49 (by decide) (by decide)) (by have h9 := (h_inc e_v49 i30 ki_1 (by decide) (by decide)); omega)
                  · have i52 : iv r31 1 7 := iv_nle1 c37 i_r31 i_v4_34 (by decide)
                    have i53 : iv v4_34 0 6 := iv_nle2 c37 i_r31 i_v4_34 (by decide)
                    refine lv_aload_n hx hb dX9_layIns_43 rfl (lv_at hl 0 rfl) ?_
                    refine lv_iload hx hb dX9_layIns_44 (lv_at hl 4 rfl) ?_
                    refine h_goi hI (by decide) (va_runV (As := [.int v4_34]) (rest := []) ⟨hx, hb, hml, hown, hts⟩ (h_isOut_X9 l D g σ Z hZ0 M_23 N R y g_y v4_34 i53) (cwV 1 hts gX9_layIns_X9_isOut rfl rfl rfl (by decide +kernel) ⟨Nat.le_of_ble_eq_true rfl, Nat.le_of_ble_eq_true rfl⟩) (h_preV hZ0 hK hE hI g_y (by decide) rfl) rfl rfl hl.1 rfl (lv_room (Nat.le_of_ble_eq_true rfl)) dX9_layIns_46 ⟨Nat.le_of_ble_eq_true rfl, Nat.le_of_ble_eq_true rfl⟩) (fun r54 M55 N56 R57 H locs q58 z_M55 hI => ?_)
                    obtain ⟨rfl, rfl, rfl, i_r54, z59⟩ := q58
                    have J59 : ∀ (v3_59 : Int32) (H : Heap) (locs : List Loc) (ls : Array Slot), kI D g σ e_h_layIns_X9 M s.heap M_23 N R H locs → lv_has ls 5 [(0, .ref y), (1, .int v1_6), (2, .int v2_23), (3, .int v3_59), (4, .int v4_34)] → iv v3_59 0 255 → W p l e (headSpec wsX9_layIns ({ frames := 7, cells := 0, slots := 0, locals := 156 })).room s m ar below meth c H locs 0 0 Q (F0 m 59 ls []) := by
                      intro v3_59 H locs ls hI hl i_v3_59
                      obtain ⟨v60, e_v60⟩ : ∃ z : Int32, z = v4_34 + Int32.ofInt 1 := ⟨_, rfl⟩
                      have i_v60 : iv v60 1 7 := by rw [e_v60]; exact iv_add i53 (ki_1) (by decide) (by decide) (by decide) (by decide)
                      refine lv_iinc (v := v60) (lv' := [(4, .int v60), (0, .ref y), (1, .int v1_6), (2, .int v2_23), (3, .int v3_59)]) hx hb dX9_layIns_59 hl (k := 4) rfl e_v60.symm (by decide) rfl (fun ls hl => ?_)
                      refine lv_goto (tgt := 34) hx hb dX9_layIns_62 (by decide) ?_
                      exact ih34 v3_59 v60 H locs ls hI (lv_sub hl [1, 2, 3, 4, 0] rfl) i_v3_59 (iv_w (lo' := 0) (hi' := 7) i_v60 (by decide) (by decide)) (by have h9 := (h_inc e_v60 i53 ki_1 (by decide) (by decide)); omega)
                    refine lv_if_ne (tgt := 59) hx hb dX9_layIns_49 (by decide) (fun c61 => ?_) (fun c61 => ?_)
                    · have i62 : iv r54 1 1 := iv_neL c61 i_r54 (by decide) (by decide)
                      exact J59 v3_34 H locs ls hI hl i_v3_34
                    · have i63 := z59 c61
                      have i64 : iv r54 0 0 := iv_eq1 c61 i_r54 kc_0
                      refine lv_iload_n hx hb dX9_layIns_52 rfl (lv_at hl 3 rfl) ?_
                      refine lv_iconst (v := 1) hx hb dX9_layIns_53 (by decide) ?_
                      refine lv_iload hx hb dX9_layIns_54 (lv_at hl 4 rfl) ?_
                      refine lv_ishl hx hb dX9_layIns_56 ?_
                      refine h_nm (lo := 1) (hi := 64) (iv_shl1 6 i53 (by decide) (by decide) (by decide) (by decide) (by decide)) (fun v65 e_v65 i_v65 => ?_)
                      refine lv_ior hx hb dX9_layIns_57 ?_
                      refine h_nm (lo := 0) (hi := 255) (iv_or 8 i_v3_34 i_v65 (by decide) (by decide) (by decide) (by decide) (by decide) (by decide)) (fun v66 e_v66 i_v66 => ?_)
                      refine lv_istore_n (lv' := [(3, .int v66), (0, .ref y), (1, .int v1_6), (2, .int v2_23), (4, .int v4_34)]) hx hb dX9_layIns_58 rfl hl (by decide) rfl (fun ls hl => ?_)
                      exact J59 v66 H locs ls hI (lv_sub hl [1, 2, 3, 0, 4] rfl) i_v66
              refine lv_istore (lv' := [(4, .int (0 : Int32)), (3, .int (0 : Int32)), (0, .ref y), (1, .int v1_6), (2, .int v2_23)]) hx hb dX9_layIns_32 hl (by decide) rfl (fun ls hl => ?_)
              exact J34 8 (0 : Int32) (0 : Int32) H locs ls hI (lv_sub hl [2, 3, 4, 1, 0] rfl) (iv_w (lo' := 0) (hi' := 255) kc_0 (by decide) (by decide)) (iv_w (lo' := 0) (hi' := 7) kc_0 (by decide) (by decide)) (by have h9 := kc_0; simp only [iv] at h9; omega)
        refine lv_istore_n (lv' := [(2, .int (0 : Int32)), (0, .ref y), (1, .int v1_6)]) hx hb dX9_layIns_22 rfl hl (by decide) rfl (fun ls hl => ?_)
        have m67 : CW M22 R y := (CW_ag hI.2.1 g_y (CW_ag hI.2.1 g_y m_CW_6 (hAd.put e_M20 g_y rfl)) (hAd.ag z_M22 (by decide)))
        have m68 : KK M22 R y := (KK_ag hI.2.1 g_y (KK_ag hI.2.1 g_y m_KK_6 (hAd.put e_M20 g_y rfl)) (hAd.ag z_M22 (by decide)))
        exact J23 11 M22 (0 : Int32) H locs ls hI (lv_sub hl [1, 2, 0] rfl) (((u2_wr e_M20)).trans (z_M22 y 9 46 g_y rfl).symm) m67 m68 (iv_w (lo' := 0) (hi' := 10) kc_0 (by decide) (by decide)) (by have h9 := kc_0; simp only [iv] at h9; omega)
  refine lv_istore_n (lv' := [(1, .int (0 : Int32)), (0, .ref y)]) hx hb dX9_layIns_5 rfl hl (by decide) rfl (fun ls hl => ?_)
  have m69 : CW M2 R y := (CW_ag hI.2.1 g_y m0_CW (hAd.ag z_M2 (by decide)))
  exact J6 101 M2 (0 : Int32) H locs ls hI (lv_sub hl [1, 0] rfl) m69 m7 (iv_w (lo' := 0) (hi' := 100) kc_0 (by decide) (by decide)) (by have h9 := kc_0; simp only [iv] at h9; omega)
abbrev e_h_doesFit_X9 : List (Nat × Nat) := []
set_option maxHeartbeats 4000000 in
set_option maxRecDepth 100000 in
theorem h_doesFit_X9 (l : Launch) (D : va_G) (g : Nat → ClassId) (σ : Nat → Option Nat) (Z : State → Heap → Prop) (hZ0 : hZ σ Z) (M : hM) (N : hN) (R : hR) (y : Nat) (g_y : σ y = some 9) (p1 : Int32) (h_p1 : iv p1 0 99) (p2 : Int32) : Met l yX9_doesFit wsX9_doesFit ({ frames := 0, cells := 0, slots := 0, locals := 0 }) (va_Pc [.ref y, .int p1, .int p2] (hPre D g σ Z M N R)) (hQi D g σ e_h_doesFit_X9 M (fun (r : Int32) (M1 : hM) (N1 : hN) (R1 : hR) => M = M1 ∧ N = N1 ∧ R = R1 ∧ iv r 0 1 ∧ (¬ r = 0 → DFit M R y p1 p2) ∧ (r = 0 → ¬ DFit M R y p1 p2))) 0 0 (hA σ) := by
  refine h_head (cc := cX9_doesFit) (maxL := 4) (ret := (some .boolean)) (by decide) rfl (Nat.le_of_ble_eq_true rfl) e_h_doesFit_X9 ?_
  intro p e s m below meth c ls Q ar hQ hx hb hr hlocks hml hown hts hK hE H locs hI hl
  have hown : s.vm.findClass RX9 = some m.cls := hown
  have hl : lv_has ls 4 [(0, .ref y), (1, .int p1), (2, .int p2)] := hl
  refine lv_iconst (v := 0) hx hb dX9_doesFit_0 (by decide) ?_
  have J2 : ∀ (n : Nat) (v3_2 : Int32) (H : Heap) (locs : List Loc) (ls : Array Slot), kI D g σ e_h_doesFit_X9 M s.heap M N R H locs → lv_has ls 4 [(0, .ref y), (1, .int p1), (2, .int p2), (3, .int v3_2)] → iv v3_2 0 30 → DFp M R y p1 p2 v3_2.toNatClampNeg → 31 ≤ v3_2.toInt + (n : Int) → W p l e (headSpec wsX9_doesFit ({ frames := 0, cells := 0, slots := 0, locals := 0 })).room s m ar below meth c H locs 0 0 Q (F0 m 2 ls []) := by
    intro n
    induction n with
    | zero => intro v3_2 H locs ls hI hl i_v3_2 hdf_2 hn; exfalso; have hz := i_v3_2; simp only [iv] at hz; omega
    | succ n ih2 =>
      intro v3_2 H locs ls hI hl i_v3_2 hdf_2 hn2
      refine lv_iload_n hx hb dX9_doesFit_2 rfl (lv_at hl 3 rfl) ?_
      refine lv_aload_n hx hb dX9_doesFit_3 rfl (lv_at hl 0 rfl) ?_
      refine h_geti (lo := 0) (hi := 30) hx hb hts iX9_doesFit_X9 hown hK hI g_y (by decide) rfl rfl 63 (by decide) rfl rfl (hts (.fieldLink RX9 404 "CatLeasesModel" "seens" "I") (List.mem_of_getElem? (i := 1) rfl)) (fun _ h9 => h9) dX9_doesFit_4 (fun v1 e_v1 i_v1 => ?_)
      refine lv_icmp_ge (tgt := 84) hx hb dX9_doesFit_7 (by decide) (fun c2 => ?_) (fun c2 => ?_)
      · refine lv_iconst (v := 1) hx hb dX9_doesFit_84 (by decide) ?_
        exact h_iret hQ hx hb hr hlocks rfl hK hI ⟨rfl, rfl, rfl, (iv_w (lo' := 0) (hi' := 1) kc_1 (by decide) (by decide)), (fun _ => (DFit_of hdf_2 i_v3_2 e_v1 (Int32.le_iff_toInt_le.mp c2))), (fun h9 => absurd h9 (by decide))⟩ dX9_doesFit_85
      · have i3 : iv v1 1 30 := iv_nle1 c2 i_v1 i_v3_2 (by decide)
        have i4 : iv v3_2 0 29 := iv_nle2 c2 i_v1 i_v3_2 (by decide)
        refine lv_aload_n hx hb dX9_doesFit_10 rfl (lv_at hl 0 rfl) ?_
        refine h_getr hx hb hts iX9_doesFit_X9 hown hK hI g_y (by decide) rfl rfl 61 (by decide) rfl 161 rfl (hts (.fieldLink RX9 133 "CatLeasesModel" "sTold" "[I") (List.mem_of_getElem? (i := 2) rfl)) (fun _ h9 => h9) dX9_doesFit_11 (fun a5 e_a5 g_a5 => ?_)
        refine lv_iload_n hx hb dX9_doesFit_14 rfl (lv_at hl 3 rfl) ?_
        refine h_iald (j := v3_2.toNatClampNeg) (lo := (-2147483648)) (hi := 2147483647) hx hb hK hI g_a5 (by decide) rfl (iv_in (n := 30) i4 (by decide) (by decide)) rfl (iv_any _) dX9_doesFit_15 (fun v6 e_v6 i_v6 => ?_)
        refine lv_iload_n hx hb dX9_doesFit_16 rfl (lv_at hl 2 rfl) ?_
        have J78 : ∀ (H : Heap) (locs : List Loc) (ls : Array Slot), kI D g σ e_h_doesFit_X9 M s.heap M N R H locs → lv_has ls 4 [(0, .ref y), (1, .int p1), (2, .int p2), (3, .int v3_2)] → FitN M R y p1 p2 v3_2.toNatClampNeg → W p l e (headSpec wsX9_doesFit ({ frames := 0, cells := 0, slots := 0, locals := 0 })).room s m ar below meth c H locs 0 0 Q (F0 m 78 ls []) := by
          intro H locs ls hI hl hf_78
          obtain ⟨v7, e_v7⟩ : ∃ z : Int32, z = v3_2 + Int32.ofInt 1 := ⟨_, rfl⟩
          have i_v7 : iv v7 1 30 := by rw [e_v7]; exact iv_add i4 (ki_1) (by decide) (by decide) (by decide) (by decide)
          refine lv_iinc (v := v7) (lv' := [(3, .int v7), (0, .ref y), (1, .int p1), (2, .int p2)]) hx hb dX9_doesFit_78 hl (k := 3) rfl e_v7.symm (by decide) rfl (fun ls hl => ?_)
          refine lv_goto (tgt := 2) hx hb dX9_doesFit_81 (by decide) ?_
          exact ih2 v7 H locs ls hI (lv_sub hl [1, 2, 3, 0] rfl) (iv_w (lo' := 0) (hi' := 30) i_v7 (by decide) (by decide)) (DFp_step hdf_2 hf_78 (k_inc1 e_v7 i4 (by decide))) (by have h9 := (h_inc e_v7 i4 ki_1 (by decide) (by decide)); omega)
        refine lv_icmp_gt (tgt := 78) hx hb dX9_doesFit_17 (by decide) (fun c8 => ?_) (fun c8 => ?_)
        · have i9 : iv p2 (-2147483648) 2147483646 := iv_lt1 c8 (iv_any p2) i_v6 (by decide)
          have i10 : iv v6 (-2147483647) 2147483647 := iv_lt2 c8 (iv_any p2) i_v6 (by decide)
          exact J78 H locs ls hI hl (Or.inl (by rw [← (show v6 = M (R y 61) v3_2.toNatClampNeg by rw [e_v6, e_a5])]; exact Int32.lt_iff_toInt_lt.mp c8))
        · refine lv_aload_n hx hb dX9_doesFit_20 rfl (lv_at hl 0 rfl) ?_
          refine h_getr hx hb hts iX9_doesFit_X9 hown hK hI g_y (by decide) rfl rfl 62 (by decide) rfl 162 rfl (hts (.fieldLink RX9 136 "CatLeasesModel" "sUntold" "[I") (List.mem_of_getElem? (i := 3) rfl)) (fun _ h9 => h9) dX9_doesFit_21 (fun a11 e_a11 g_a11 => ?_)
          refine lv_iload_n hx hb dX9_doesFit_24 rfl (lv_at hl 3 rfl) ?_
          refine h_iald (j := v3_2.toNatClampNeg) (lo := (-2147483648)) (hi := 2147483647) hx hb hK hI g_a11 (by decide) rfl (iv_in (n := 30) i4 (by decide) (by decide)) rfl (iv_any _) dX9_doesFit_25 (fun v12 e_v12 i_v12 => ?_)
          have J42 : ∀ (H : Heap) (locs : List Loc) (ls : Array Slot), kI D g σ e_h_doesFit_X9 M s.heap M N R H locs → lv_has ls 4 [(0, .ref y), (1, .int p1), (2, .int p2), (3, .int v3_2)] → (¬ p2.toInt < (M (R y 61) v3_2.toNatClampNeg).toInt ∧ ¬ (0 ≤ (M (R y 62) v3_2.toNatClampNeg).toInt ∧ (M (R y 62) v3_2.toNatClampNeg).toInt ≤ p2.toInt)) → W p l e (headSpec wsX9_doesFit ({ frames := 0, cells := 0, slots := 0, locals := 0 })).room s m ar below meth c H locs 0 0 Q (F0 m 42 ls []) := by
            intro H locs ls hI hl hn_42
            refine lv_aload_n hx hb dX9_doesFit_42 rfl (lv_at hl 0 rfl) ?_
            refine h_getr hx hb hts iX9_doesFit_X9 hown hK hI g_y (by decide) rfl rfl 57 (by decide) rfl 157 rfl (hts (.fieldLink RX9 121 "CatLeasesModel" "inBy" "[I") (List.mem_of_getElem? (i := 4) rfl)) (fun _ h9 => h9) dX9_doesFit_43 (fun a13 e_a13 g_a13 => ?_)
            refine lv_bipush (v := 10) hx hb dX9_doesFit_46 (by decide) ?_
            refine lv_iload_n hx hb dX9_doesFit_48 rfl (lv_at hl 1 rfl) ?_
            refine lv_imul hx hb dX9_doesFit_49 ?_
            refine h_nm (lo := 0) (hi := 990) (iv_mul kc_10 h_p1 (by decide) (by decide) (by decide) (by decide) (by decide)) (fun v14 e_v14 i_v14 => ?_)
            refine lv_aload_n hx hb dX9_doesFit_50 rfl (lv_at hl 0 rfl) ?_
            refine h_getr hx hb hts iX9_doesFit_X9 hown hK hI g_y (by decide) rfl rfl 58 (by decide) rfl 158 rfl (hts (.fieldLink RX9 124 "CatLeasesModel" "sQuarters" "[I") (List.mem_of_getElem? (i := 5) rfl)) (fun _ h9 => h9) dX9_doesFit_51 (fun a15 e_a15 g_a15 => ?_)
            refine lv_iload_n hx hb dX9_doesFit_54 rfl (lv_at hl 3 rfl) ?_
            refine h_iald (j := v3_2.toNatClampNeg) (lo := 0) (hi := 9) hx hb hK hI g_a15 (by decide) rfl (iv_in (n := 30) i4 (by decide) (by decide)) rfl (hI.iv1 (n := 30) g_a15 rfl (in_lt (iv_in (n := 30) i4 (by decide) (by decide))) rfl) dX9_doesFit_55 (fun v16 e_v16 i_v16 => ?_)
            refine lv_iadd hx hb dX9_doesFit_56 ?_
            refine h_nm (lo := 0) (hi := 999) (iv_add i_v14 i_v16 (by decide) (by decide) (by decide) (by decide)) (fun v17 e_v17 i_v17 => ?_)
            refine h_iald (j := v17.toNatClampNeg) (lo := (-2147483648)) (hi := 2147483647) hx hb hK hI g_a13 (by decide) rfl (iv_in (n := 1000) i_v17 (by decide) (by decide)) rfl (iv_any _) dX9_doesFit_57 (fun v18 e_v18 i_v18 => ?_)
            refine lv_aload_n hx hb dX9_doesFit_58 rfl (lv_at hl 0 rfl) ?_
            refine h_getr hx hb hts iX9_doesFit_X9 hown hK hI g_y (by decide) rfl rfl 59 (by decide) rfl 159 rfl (hts (.fieldLink RX9 127 "CatLeasesModel" "sTenant" "[I") (List.mem_of_getElem? (i := 6) rfl)) (fun _ h9 => h9) dX9_doesFit_59 (fun a19 e_a19 g_a19 => ?_)
            refine lv_iload_n hx hb dX9_doesFit_62 rfl (lv_at hl 3 rfl) ?_
            refine h_iald (j := v3_2.toNatClampNeg) (lo := (-2147483648)) (hi := 2147483647) hx hb hK hI g_a19 (by decide) rfl (iv_in (n := 30) i4 (by decide) (by decide)) rfl (iv_any _) dX9_doesFit_63 (fun v20 e_v20 i_v20 => ?_)
            refine lv_ishr hx hb dX9_doesFit_64 ?_
            refine h_nm (lo := (-2147483648)) (hi := 2147483647) (iv_any _) (fun v21 e_v21 i_v21 => ?_)
            refine lv_iconst (v := 1) hx hb dX9_doesFit_65 (by decide) ?_
            refine lv_iand hx hb dX9_doesFit_66 ?_
            refine h_nm (lo := 0) (hi := 1) (iv_and 1 (by decide) (by decide) (by decide)) (fun v22 e_v22 i_v22 => ?_)
            refine lv_aload_n hx hb dX9_doesFit_67 rfl (lv_at hl 0 rfl) ?_
            refine h_getr hx hb hts iX9_doesFit_X9 hown hK hI g_y (by decide) rfl rfl 60 (by decide) rfl 160 rfl (hts (.fieldLink RX9 130 "CatLeasesModel" "sIs" "[I") (List.mem_of_getElem? (i := 7) rfl)) (fun _ h9 => h9) dX9_doesFit_68 (fun a23 e_a23 g_a23 => ?_)
            refine lv_iload_n hx hb dX9_doesFit_71 rfl (lv_at hl 3 rfl) ?_
            refine h_iald (j := v3_2.toNatClampNeg) (lo := (-2147483648)) (hi := 2147483647) hx hb hK hI g_a23 (by decide) rfl (iv_in (n := 30) i4 (by decide) (by decide)) rfl (iv_any _) dX9_doesFit_72 (fun v24 e_v24 i_v24 => ?_)
            refine lv_icmp_eq (tgt := 78) hx hb dX9_doesFit_73 (by decide) (fun c25 => ?_) (fun c25 => ?_)
            · have i26 : iv v24 0 1 := iv_eq2 c25 i_v22 i_v24
              exact J78 H locs ls hI hl (Or.inr (Or.inr (by rw [← (show v24 = M (R y 60) v3_2.toNatClampNeg by rw [e_v24, e_a23]), ← (show v20 = M (R y 59) v3_2.toNatClampNeg by rw [e_v20, e_a19]), ← (show v16 = M (R y 58) v3_2.toNatClampNeg by rw [e_v16, e_a15]), ← e_v14, ← e_v17, ← e_a13, ← e_v18, ← e_v21, ← e_v22]; exact c25)))
            · refine lv_iconst (v := 0) hx hb dX9_doesFit_76 (by decide) ?_
              exact h_iret hQ hx hb hr hlocks rfl hK hI ⟨rfl, rfl, rfl, (iv_w (lo' := 0) (hi' := 1) kc_0 (by decide) (by decide)), (fun h9 => absurd rfl h9), (fun _ => DFit_not (FitN_not hn_42 (fun h9 => c25 (by rw [← (show v24 = M (R y 60) v3_2.toNatClampNeg by rw [e_v24, e_a23]), ← (show v20 = M (R y 59) v3_2.toNatClampNeg by rw [e_v20, e_a19]), ← (show v16 = M (R y 58) v3_2.toNatClampNeg by rw [e_v16, e_a15]), ← e_v14, ← e_v17, ← e_a13, ← e_v18, ← e_v21, ← e_v22] at h9; exact h9))) i4 e_v1 (Int32.lt_iff_toInt_lt.mp (Int32.not_le.mp c2)))⟩ dX9_doesFit_77
          refine lv_if_lt (tgt := 42) hx hb dX9_doesFit_26 (by decide) (fun c27 => ?_) (fun c27 => ?_)
          · have i28 : iv v12 (-2147483648) (-1) := iv_lt1 c27 i_v12 kc_0 (by decide)
            exact J42 H locs ls hI hl ⟨(fun h9 => by have h8 := Int32.le_iff_toInt_le.mp (Int32.not_lt.mp c8); rw [← (show v6 = M (R y 61) v3_2.toNatClampNeg by rw [e_v6, e_a5])] at h9; omega), (fun h9 => by have h8 := i28; simp only [iv] at h8; rw [← (show v12 = M (R y 62) v3_2.toNatClampNeg by rw [e_v12, e_a11])] at h9; omega)⟩
          · have i29 : iv v12 0 2147483647 := iv_nlt1 c27 i_v12 kc_0 (by decide)
            refine lv_aload_n hx hb dX9_doesFit_29 rfl (lv_at hl 0 rfl) ?_
            refine h_getr hx hb hts iX9_doesFit_X9 hown hK hI g_y (by decide) rfl rfl 62 (by decide) rfl 162 rfl (hts (.fieldLink RX9 136 "CatLeasesModel" "sUntold" "[I") (List.mem_of_getElem? (i := 3) rfl)) (fun _ h9 => h9) dX9_doesFit_30 (fun a30 e_a30 g_a30 => ?_)
            have q31 : a11 = a30 := (e_a11).trans e_a30.symm
            subst q31
            refine lv_iload_n hx hb dX9_doesFit_33 rfl (lv_at hl 3 rfl) ?_
            refine h_iald (j := v3_2.toNatClampNeg) (lo := (-2147483648)) (hi := 2147483647) hx hb hK hI g_a11 (by decide) rfl (iv_in (n := 30) i4 (by decide) (by decide)) rfl (iv_any _) dX9_doesFit_34 (fun v32 e_v32 i_v32 => ?_)
            have q33 : v12 = v32 := (e_v12).trans e_v32.symm
            subst q33
            refine lv_iload_n hx hb dX9_doesFit_35 rfl (lv_at hl 2 rfl) ?_
            refine lv_icmp_gt (tgt := 42) hx hb dX9_doesFit_36 (by decide) (fun c34 => ?_) (fun c34 => ?_)
            · have i35 : iv p2 (-2147483648) 2147483646 := iv_lt1 c34 (iv_any p2) i29 (by decide)
              exact J42 H locs ls hI hl ⟨(fun h9 => by have h8 := Int32.le_iff_toInt_le.mp (Int32.not_lt.mp c8); rw [← (show v6 = M (R y 61) v3_2.toNatClampNeg by rw [e_v6, e_a5])] at h9; omega), (fun h9 => by have h8 := Int32.lt_iff_toInt_lt.mp c34; rw [← (show v12 = M (R y 62) v3_2.toNatClampNeg by rw [e_v12, e_a11])] at h9; omega)⟩
            · have i36 : iv p2 0 2147483647 := iv_nlt1 c34 (iv_any p2) i29 (by decide)
              refine lv_goto (tgt := 78) hx hb dX9_doesFit_39 (by decide) ?_
              exact J78 H locs ls hI hl (Or.inr (Or.inl (by rw [← (show v12 = M (R y 62) v3_2.toNatClampNeg by rw [e_v12, e_a11])]; exact ⟨(i29).1, Int32.le_iff_toInt_le.mp (Int32.not_lt.mp c34)⟩)))
  refine lv_istore_n (lv' := [(3, .int (0 : Int32)), (0, .ref y), (1, .int p1), (2, .int p2)]) hx hb dX9_doesFit_1 rfl hl (by decide) rfl (fun ls hl => ?_)
  exact J2 31 (0 : Int32) H locs ls hI (lv_sub hl [1, 2, 3, 0] rfl) (iv_w (lo' := 0) (hi' := 30) kc_0 (by decide) (by decide)) DFp_0 (by have h9 := kc_0; simp only [iv] at h9; omega)
abbrev e_h_fits_X9 : List (Nat × Nat) := [(9, 41), (9, 42), (9, 43), (9, 44), (9, 46), (134, 999), (145, 999), (152, 999), (157, 999)]
set_option maxHeartbeats 4000000 in
set_option maxRecDepth 100000 in
theorem h_fits_X9 (l : Launch) (D : va_G) (g : Nat → ClassId) (σ : Nat → Option Nat) (Z : State → Heap → Prop) (hZ0 : hZ σ Z) (M : hM) (N : hN) (R : hR) (y : Nat) (g_y : σ y = some 9) (p1 : Int32) (m0_KV : KV M R y) (m0_CW : CW M R y) : Met l yX9_fits wsX9_fits ({ frames := 8, cells := 0, slots := 0, locals := 180 }) (va_Pc [.ref y, .int p1] (hPre D g σ Z M N R)) (hQi D g σ e_h_fits_X9 M (fun (r : Int32) (M1 : hM) (N1 : hN) (R1 : hR) => N = N1 ∧ R = R1 ∧ (KV M1 R y) ∧ (¬ r = 0 → ∃ w : Int32, iv w 0 99 ∧ DFit M1 R y w p1))) 0 0 (hA σ) := by
  refine h_head (cc := cX9_fits) (maxL := 4) (ret := (some .int)) (by decide) rfl (Nat.le_of_ble_eq_true rfl) e_h_fits_X9 ?_
  intro p e s m below meth c ls Q ar hQ hx hb hr hlocks hml hown hts hK hE H locs hI hl
  have hown : s.vm.findClass RX9 = some m.cls := hown
  have hl : lv_has ls 4 [(0, .ref y), (1, .int p1)] := hl
  refine lv_aload_n hx hb dX9_fits_0 rfl (lv_at hl 0 rfl) ?_
  refine h_goi hI (by decide) (va_runV (As := []) (rest := []) ⟨hx, hb, hml, hown, hts⟩ (h_cattery_X9 l D g σ Z hZ0 M N R y g_y) (cwV 0 hts gX9_fits_X9_cattery rfl rfl rfl (by decide +kernel) ⟨Nat.le_of_ble_eq_true rfl, Nat.le_of_ble_eq_true rfl⟩) (h_preV hZ0 hK hE hI g_y (by decide) rfl) rfl rfl hl.1 rfl (lv_room (Nat.le_of_ble_eq_true rfl)) dX9_fits_1 ⟨Nat.le_of_ble_eq_true rfl, Nat.le_of_ble_eq_true rfl⟩) (fun r1 M2 N3 R4 H locs q5 z_M2 hI => ?_)
  obtain ⟨rfl, rfl, rfl, i_r1, z6⟩ := q5
  refine lv_if_ne (tgt := 9) hx hb dX9_fits_4 (by decide) (fun c7 => ?_) (fun c7 => ?_)
  · have i8 : iv r1 1 6 := iv_neL c7 i_r1 (by decide) (by decide)
    refine lv_aload_n hx hb dX9_fits_9 rfl (lv_at hl 0 rfl) ?_
    refine h_gov hI (by decide) (va_runV (As := []) (rest := []) ⟨hx, hb, hml, hown, hts⟩ (h_layIns_X9 l D g σ Z hZ0 M N R y g_y m0_KV m0_CW) (cwV 0 hts gX9_fits_X9_layIns rfl rfl rfl (by decide +kernel) ⟨Nat.le_of_ble_eq_true rfl, Nat.le_of_ble_eq_true rfl⟩) (h_preV hZ0 hK hE hI g_y (by decide) rfl) rfl rfl hl.1 rfl (lv_room (Nat.le_of_ble_eq_true rfl)) dX9_fits_10 ⟨Nat.le_of_ble_eq_true rfl, Nat.le_of_ble_eq_true rfl⟩) (fun M10 N11 R12 H locs q13 z_M10 hI => ?_)
    obtain ⟨rfl, rfl, m14⟩ := q13
    refine lv_iconst (v := 0) hx hb dX9_fits_13 (by decide) ?_
    refine lv_istore_n (lv' := [(2, .int (0 : Int32)), (0, .ref y), (1, .int p1)]) hx hb dX9_fits_14 rfl hl (by decide) rfl (fun ls hl => ?_)
    refine lv_iconst (v := 0) hx hb dX9_fits_15 (by decide) ?_
    have J17 : ∀ (n : Nat) (v2_17 : Int32) (v3_17 : Int32) (H : Heap) (locs : List Loc) (ls : Array Slot), kI D g σ e_h_fits_X9 M s.heap M10 N R H locs → lv_has ls 4 [(0, .ref y), (1, .int p1), (2, .int v2_17), (3, .int v3_17)] → iv v3_17 0 100 → FC M10 R y p1 v2_17 v3_17 → 101 ≤ v3_17.toInt + (n : Int) → W p l e (headSpec wsX9_fits ({ frames := 8, cells := 0, slots := 0, locals := 180 })).room s m ar below meth c H locs 0 0 Q (F0 m 17 ls []) := by
      intro n
      induction n with
      | zero => intro v2_17 v3_17 H locs ls hI hl i_v3_17 hfc_17 hn; exfalso; have hz := i_v3_17; simp only [iv] at hz; omega
      | succ n ih17 =>
        intro v2_17 v3_17 H locs ls hI hl i_v3_17 hfc_17 hn17
        refine lv_iload_n hx hb dX9_fits_17 rfl (lv_at hl 3 rfl) ?_
        refine lv_bipush (v := 99) hx hb dX9_fits_18 (by decide) ?_
        refine lv_icmp_gt (tgt := 46) hx hb dX9_fits_20 (by decide) (fun c15 => ?_) (fun c15 => ?_)
        · have i16 : iv v3_17 100 100 := iv_lt2 c15 kc_99 i_v3_17 (by decide)
          refine lv_iload_n hx hb dX9_fits_46 rfl (lv_at hl 2 rfl) ?_
          exact h_iret hQ hx hb hr hlocks rfl hK hI ⟨rfl, rfl, m14, hfc_17.2.2⟩ dX9_fits_47
        · have i17 : iv v3_17 0 99 := iv_nlt2 c15 kc_99 i_v3_17 (by decide)
          refine lv_iload_n hx hb dX9_fits_23 rfl (lv_at hl 2 rfl) ?_
          refine lv_aload_n hx hb dX9_fits_24 rfl (lv_at hl 0 rfl) ?_
          refine lv_iload_n hx hb dX9_fits_25 rfl (lv_at hl 3 rfl) ?_
          refine lv_iload_n hx hb dX9_fits_26 rfl (lv_at hl 1 rfl) ?_
          refine h_goi hI (by decide) (va_runV (As := [.int v3_17, .int p1]) (rest := [.int v2_17]) ⟨hx, hb, hml, hown, hts⟩ (h_doesFit_X9 l D g σ Z hZ0 M10 N R y g_y v3_17 i17 p1) (cwV 2 hts gX9_fits_X9_doesFit rfl rfl rfl (by decide +kernel) ⟨Nat.le_of_ble_eq_true rfl, Nat.le_of_ble_eq_true rfl⟩) (h_preV hZ0 hK hE hI g_y (by decide) rfl) rfl rfl hl.1 rfl (lv_room (Nat.le_of_ble_eq_true rfl)) dX9_fits_27 ⟨Nat.le_of_ble_eq_true rfl, Nat.le_of_ble_eq_true rfl⟩) (fun r18 M19 N20 R21 H locs q22 z_M19 hI => ?_)
          obtain ⟨rfl, rfl, rfl, i_r18, z23, z24⟩ := q22
          have J38 : ∀ (t1_38 : Int32) (H : Heap) (locs : List Loc) (ls : Array Slot), kI D g σ e_h_fits_X9 M s.heap M10 N R H locs → lv_has ls 4 [(0, .ref y), (1, .int p1), (3, .int v3_17)] → iv t1_38 0 1 → (¬ t1_38 = 0 → DFit M10 R y v3_17 p1) → W p l e (headSpec wsX9_fits ({ frames := 8, cells := 0, slots := 0, locals := 180 })).room s m ar below meth c H locs 0 0 Q (F0 m 38 ls [.int t1_38, .int v2_17]) := by
            intro t1_38 H locs ls hI hl i_t1_38 hft_38
            refine lv_iadd hx hb dX9_fits_38 ?_
            refine h_nm (lo := (-2147483648)) (hi := 2147483647) (iv_any _) (fun v25 e_v25 i_v25 => ?_)
            refine lv_istore_n (lv' := [(2, .int v25), (0, .ref y), (1, .int p1), (3, .int v3_17)]) hx hb dX9_fits_39 rfl hl (by decide) rfl (fun ls hl => ?_)
            obtain ⟨v26, e_v26⟩ : ∃ z : Int32, z = v3_17 + Int32.ofInt 1 := ⟨_, rfl⟩
            have i_v26 : iv v26 1 100 := by rw [e_v26]; exact iv_add i17 (ki_1) (by decide) (by decide) (by decide) (by decide)
            refine lv_iinc (v := v26) (lv' := [(3, .int v26), (2, .int v25), (0, .ref y), (1, .int p1)]) hx hb dX9_fits_40 hl (k := 3) rfl e_v26.symm (by decide) rfl (fun ls hl => ?_)
            refine lv_goto (tgt := 17) hx hb dX9_fits_43 (by decide) ?_
            exact ih17 v25 v26 H locs ls hI (lv_sub hl [2, 3, 1, 0] rfl) (iv_w (lo' := 0) (hi' := 100) i_v26 (by decide) (by decide)) (FC_step hfc_17 i17 i_t1_38 hft_38 e_v25 (h_inc e_v26 i17 ki_1 (by decide) (by decide))) (by have h9 := (h_inc e_v26 i17 ki_1 (by decide) (by decide)); omega)
          refine lv_if_eq (tgt := 37) hx hb dX9_fits_30 (by decide) (fun c27 => ?_) (fun c27 => ?_)
          · have i28 : iv r18 0 0 := iv_eq1 c27 i_r18 kc_0
            refine lv_iconst (v := 0) hx hb dX9_fits_37 (by decide) ?_
            exact J38 (0 : Int32) H locs ls hI (lv_sub hl [0, 1, 3] rfl) (iv_w (lo' := 0) (hi' := 1) kc_0 (by decide) (by decide)) (fun h9 => absurd rfl h9)
          · have i29 : iv r18 1 1 := iv_neL c27 i_r18 (by decide) (by decide)
            refine lv_iconst (v := 1) hx hb dX9_fits_33 (by decide) ?_
            refine lv_goto (tgt := 38) hx hb dX9_fits_34 (by decide) ?_
            exact J38 (1 : Int32) H locs ls hI (lv_sub hl [0, 1, 3] rfl) (iv_w (lo' := 0) (hi' := 1) kc_1 (by decide) (by decide)) (fun _ => z23 c27)
    refine lv_istore_n (lv' := [(3, .int (0 : Int32)), (2, .int (0 : Int32)), (0, .ref y), (1, .int p1)]) hx hb dX9_fits_16 rfl hl (by decide) rfl (fun ls hl => ?_)
    exact J17 101 (0 : Int32) (0 : Int32) H locs ls hI (lv_sub hl [2, 3, 1, 0] rfl) (iv_w (lo' := 0) (hi' := 100) kc_0 (by decide) (by decide)) FC_0 (by have h9 := kc_0; simp only [iv] at h9; omega)
  · have i30 : iv r1 0 0 := iv_eq1 c7 i_r1 kc_0
    refine lv_iconst (v := 0) hx hb dX9_fits_7 (by decide) ?_
    exact h_iret hQ hx hb hr hlocks rfl hK hI ⟨rfl, rfl, m0_KV, (fun h9 => absurd rfl h9)⟩ dX9_fits_8
abbrev e_h_sure_X9 : List (Nat × Nat) := [(9, 41), (9, 42), (9, 43), (9, 44), (9, 46), (134, 999), (145, 999), (152, 999), (157, 999)]
set_option maxHeartbeats 4000000 in
set_option maxRecDepth 100000 in
theorem h_sure_X9 (l : Launch) (D : va_G) (g : Nat → ClassId) (σ : Nat → Option Nat) (Z : State → Heap → Prop) (hZ0 : hZ σ Z) (M : hM) (N : hN) (R : hR) (y : Nat) (g_y : σ y = some 9) (p1 : Int32) (p2 : Int32) (m0_KV : KV M R y) (m0_CW : CW M R y) : Met l yX9_sure wsX9_sure ({ frames := 9, cells := 0, slots := 0, locals := 203 }) (va_Pc [.ref y, .int p1, .int p2] (hPre D g σ Z M N R)) (hQi D g σ e_h_sure_X9 M (fun (r : Int32) (M1 : hM) (N1 : hN) (R1 : hR) => N = N1 ∧ R = R1 ∧ iv r (-1) 99 ∧ (KV M1 R y))) 0 0 (hA σ) := by
  refine h_head (cc := cX9_sure) (maxL := 4) (ret := (some .int)) (by decide) rfl (Nat.le_of_ble_eq_true rfl) e_h_sure_X9 ?_
  intro p e s m below meth c ls Q ar hQ hx hb hr hlocks hml hown hts hK hE H locs hI hl
  have hown : s.vm.findClass RX9 = some m.cls := hown
  have hl : lv_has ls 4 [(0, .ref y), (1, .int p1), (2, .int p2)] := hl
  refine lv_iload_n hx hb dX9_sure_0 rfl (lv_at hl 1 rfl) ?_
  refine lv_iconst (v := 0) hx hb dX9_sure_1 (by decide) ?_
  refine lv_iconst (v := 1) hx hb dX9_sure_2 (by decide) ?_
  refine h_goi hI (by decide) (va_runS (As := [.int p1, .int (0 : Int32), .int (1 : Int32)]) (rest := []) ⟨hx, hb, hml, hown, hts⟩ (h_isIn_X9 l D g σ Z hZ0 M N R p1 (0 : Int32) (1 : Int32)) (va_cwS 3 hts gX9_sure_X9_isIn rfl rfl rfl (by decide +kernel) ⟨Nat.le_of_ble_eq_true rfl, Nat.le_of_ble_eq_true rfl⟩) (h_preS hZ0 hK hE hI) rfl rfl hl.1 rfl (lv_room (Nat.le_of_ble_eq_true rfl)) dX9_sure_3 ⟨Nat.le_of_ble_eq_true rfl, Nat.le_of_ble_eq_true rfl⟩) (fun r1 M2 N3 R4 H locs q5 z_M2 hI => ?_)
  obtain ⟨rfl, rfl, rfl, i_r1, z6⟩ := q5
  refine lv_if_eq (tgt := 17) hx hb dX9_sure_6 (by decide) (fun c7 => ?_) (fun c7 => ?_)
  · have i8 : iv r1 0 0 := iv_eq1 c7 i_r1 kc_0
    refine lv_iconst (v := (-1)) hx hb dX9_sure_17 (by decide) ?_
    exact h_iret hQ hx hb hr hlocks rfl hK hI ⟨rfl, rfl, (iv_w (lo' := (-1)) (hi' := 99) kc_m1 (by decide) (by decide)), m0_KV⟩ dX9_sure_18
  · have i9 : iv p1 0 1 := (fun h9 => iv_isin (z6 h9) kc_0 kc_1) c7
    have i10 : iv r1 1 1 := iv_neL c7 i_r1 (by decide) (by decide)
    refine lv_aload_n hx hb dX9_sure_9 rfl (lv_at hl 0 rfl) ?_
    refine lv_iload_n hx hb dX9_sure_10 rfl (lv_at hl 2 rfl) ?_
    refine h_goi hI (by decide) (va_runV (As := [.int p2]) (rest := []) ⟨hx, hb, hml, hown, hts⟩ (h_fits_X9 l D g σ Z hZ0 M N R y g_y p2 m0_KV m0_CW) (cwV 1 hts gX9_sure_X9_fits rfl rfl rfl (by decide +kernel) ⟨Nat.le_of_ble_eq_true rfl, Nat.le_of_ble_eq_true rfl⟩) (h_preV hZ0 hK hE hI g_y (by decide) rfl) rfl rfl hl.1 rfl (lv_room (Nat.le_of_ble_eq_true rfl)) dX9_sure_11 ⟨Nat.le_of_ble_eq_true rfl, Nat.le_of_ble_eq_true rfl⟩) (fun r11 M12 N13 R14 H locs q15 z_M12 hI => ?_)
    obtain ⟨rfl, rfl, m16, z17⟩ := q15
    refine lv_if_ne (tgt := 19) hx hb dX9_sure_14 (by decide) (fun c18 => ?_) (fun c18 => ?_)
    · obtain ⟨w9, iw9, dw9⟩ := z17 c18
      refine lv_iload_n hx hb dX9_sure_19 rfl (lv_at hl 1 rfl) ?_
      have J29 : ∀ (t0_29 : Int32) (H : Heap) (locs : List Loc) (ls : Array Slot), kI D g σ e_h_sure_X9 M s.heap M12 N R H locs → lv_has ls 4 [(0, .ref y), (1, .int p1), (2, .int p2)] → iv t0_29 0 99 → ((p1 = 0 ∧ t0_29 = 0) ∨ (¬ p1 = 0 ∧ t0_29 = 99)) → W p l e (headSpec wsX9_sure ({ frames := 9, cells := 0, slots := 0, locals := 203 })).room s m ar below meth c H locs 0 0 Q (F0 m 29 ls [.int t0_29]) := by
        intro t0_29 H locs ls hI hl i_t0_29 hs_29
        have J30 : ∀ (n : Nat) (v3_30 : Int32) (H : Heap) (locs : List Loc) (ls : Array Slot), kI D g σ e_h_sure_X9 M s.heap M12 N R H locs → lv_has ls 4 [(0, .ref y), (1, .int p1), (2, .int p2), (3, .int v3_30)] → iv v3_30 0 99 → SU p1 v3_30 w9 → SM p1 v3_30 w9 n → W p l e (headSpec wsX9_sure ({ frames := 9, cells := 0, slots := 0, locals := 203 })).room s m ar below meth c H locs 0 0 Q (F0 m 30 ls []) := by
          intro n
          induction n with
          | zero => intro v3_30 H locs ls hI hl i_v3_30 hsu_30 hn; exact absurd hn (fun h9 => SM_z hsu_30 h9)
          | succ n ih30 =>
            intro v3_30 H locs ls hI hl i_v3_30 hsu_30 hn30
            refine lv_aload_n hx hb dX9_sure_30 rfl (lv_at hl 0 rfl) ?_
            refine lv_iload_n hx hb dX9_sure_31 rfl (lv_at hl 3 rfl) ?_
            refine lv_iload_n hx hb dX9_sure_32 rfl (lv_at hl 2 rfl) ?_
            refine h_goi hI (by decide) (va_runV (As := [.int v3_30, .int p2]) (rest := []) ⟨hx, hb, hml, hown, hts⟩ (h_doesFit_X9 l D g σ Z hZ0 M12 N R y g_y v3_30 i_v3_30 p2) (cwV 2 hts gX9_sure_X9_doesFit rfl rfl rfl (by decide +kernel) ⟨Nat.le_of_ble_eq_true rfl, Nat.le_of_ble_eq_true rfl⟩) (h_preV hZ0 hK hE hI g_y (by decide) rfl) rfl rfl hl.1 rfl (lv_room (Nat.le_of_ble_eq_true rfl)) dX9_sure_33 ⟨Nat.le_of_ble_eq_true rfl, Nat.le_of_ble_eq_true rfl⟩) (fun r19 M20 N21 R22 H locs q23 z_M20 hI => ?_)
            obtain ⟨rfl, rfl, rfl, i_r19, z24, z25⟩ := q23
            refine lv_if_ne (tgt := 54) hx hb dX9_sure_36 (by decide) (fun c26 => ?_) (fun c26 => ?_)
            · have i27 : iv r19 1 1 := iv_neL c26 i_r19 (by decide) (by decide)
              refine lv_iload_n hx hb dX9_sure_54 rfl (lv_at hl 3 rfl) ?_
              exact h_iret hQ hx hb hr hlocks rfl hK hI ⟨rfl, rfl, (iv_w (lo' := (-1)) (hi' := 99) i_v3_30 (by decide) (by decide)), m16⟩ dX9_sure_55
            · have i28 : iv r19 0 0 := iv_eq1 c26 i_r19 kc_0
              refine lv_iload_n hx hb dX9_sure_39 rfl (lv_at hl 3 rfl) ?_
              refine lv_iload_n hx hb dX9_sure_40 rfl (lv_at hl 1 rfl) ?_
              have J49 : ∀ (t1_49 : Int32) (H : Heap) (locs : List Loc) (ls : Array Slot), kI D g σ e_h_sure_X9 M s.heap M12 N R H locs → lv_has ls 4 [(0, .ref y), (1, .int p1), (2, .int p2)] → iv t1_49 (-1) 1 → ((p1 = 0 ∧ t1_49 = 1) ∨ (¬ p1 = 0 ∧ t1_49 = -1)) → W p l e (headSpec wsX9_sure ({ frames := 9, cells := 0, slots := 0, locals := 203 })).room s m ar below meth c H locs 0 0 Q (F0 m 49 ls [.int t1_49, .int v3_30]) := by
                intro t1_49 H locs ls hI hl i_t1_49 ht_49
                refine lv_iadd hx hb dX9_sure_49 ?_
                refine h_nm (lo := (-1)) (hi := 100) (iv_add i_v3_30 i_t1_49 (by decide) (by decide) (by decide) (by decide)) (fun v29 e_v29 i_v29 => ?_)
                have su9 := SU_step hsu_30 iw9 i_v3_30 dw9 (z25 c26) ht_49 e_v29
                refine lv_istore_n (lv' := [(3, .int v29), (0, .ref y), (1, .int p1), (2, .int p2)]) hx hb dX9_sure_50 rfl hl (by decide) rfl (fun ls hl => ?_)
                refine lv_goto (tgt := 30) hx hb dX9_sure_51 (by decide) ?_
                exact ih30 v29 H locs ls hI (lv_sub hl [1, 2, 3, 0] rfl) su9.2.1 su9.1 (su9.2.2 n hn30)
              refine lv_if_ne (tgt := 48) hx hb dX9_sure_41 (by decide) (fun c30 => ?_) (fun c30 => ?_)
              · have i31 : iv p1 1 1 := iv_neL c30 i9 (by decide) (by decide)
                refine lv_iconst (v := (-1)) hx hb dX9_sure_48 (by decide) ?_
                exact J49 (-1 : Int32) H locs ls hI (lv_sub hl [0, 1, 2] rfl) (iv_w (lo' := (-1)) (hi' := 1) kc_m1 (by decide) (by decide)) (Or.inr ⟨c30, rfl⟩)
              · have i32 : iv p1 0 0 := iv_eq1 c30 i9 kc_0
                refine lv_iconst (v := 1) hx hb dX9_sure_44 (by decide) ?_
                refine lv_goto (tgt := 49) hx hb dX9_sure_45 (by decide) ?_
                exact J49 (1 : Int32) H locs ls hI (lv_sub hl [0, 1, 2] rfl) (iv_w (lo' := (-1)) (hi' := 1) kc_1 (by decide) (by decide)) (Or.inl ⟨c30, rfl⟩)
        refine lv_istore_n (lv' := [(3, .int t0_29), (0, .ref y), (1, .int p1), (2, .int p2)]) hx hb dX9_sure_29 rfl hl (by decide) rfl (fun ls hl => ?_)
        exact J30 100 t0_29 H locs ls hI (lv_sub hl [1, 2, 3, 0] rfl) i_t0_29 (SU_start iw9 hs_29).1 (SU_start iw9 hs_29).2
      refine lv_if_ne (tgt := 27) hx hb dX9_sure_20 (by decide) (fun c33 => ?_) (fun c33 => ?_)
      · have i34 : iv p1 1 1 := iv_neL c33 i9 (by decide) (by decide)
        refine lv_bipush (v := 99) hx hb dX9_sure_27 (by decide) ?_
        exact J29 (99 : Int32) H locs ls hI hl (iv_w (lo' := 0) (hi' := 99) kc_99 (by decide) (by decide)) (Or.inr ⟨c33, rfl⟩)
      · have i35 : iv p1 0 0 := iv_eq1 c33 i9 kc_0
        refine lv_iconst (v := 0) hx hb dX9_sure_23 (by decide) ?_
        refine lv_goto (tgt := 29) hx hb dX9_sure_24 (by decide) ?_
        exact J29 (0 : Int32) H locs ls hI hl (iv_w (lo' := 0) (hi' := 99) kc_0 (by decide) (by decide)) (Or.inl ⟨c33, rfl⟩)
    · have i36 : iv r11 0 0 := iv_eq1 c18 (iv_any r11) kc_0
      refine lv_iconst (v := (-1)) hx hb dX9_sure_17 (by decide) ?_
      exact h_iret hQ hx hb hr hlocks rfl hK hI ⟨rfl, rfl, (iv_w (lo' := (-1)) (hi' := 99) kc_m1 (by decide) (by decide)), m16⟩ dX9_sure_18
abbrev e_h_ask_X9 : List (Nat × Nat) := [(9, 41), (9, 42), (9, 43), (9, 44), (9, 46), (134, 999), (145, 999), (152, 999), (157, 999)]
set_option maxHeartbeats 4000000 in
set_option maxRecDepth 100000 in
theorem h_ask_X9 (l : Launch) (D : va_G) (g : Nat → ClassId) (σ : Nat → Option Nat) (Z : State → Heap → Prop) (hZ0 : hZ σ Z) (M : hM) (N : hN) (R : hR) (y : Nat) (g_y : σ y = some 9) (p1 : Int32) (p2 : Int32) (p3 : Int32) (m0_KV : KV M R y) (m0_CW : CW M R y) : Met l yX9_ask wsX9_ask ({ frames := 9, cells := 0, slots := 0, locals := 203 }) (va_Pc [.ref y, .int p1, .int p2, .int p3] (hPre D g σ Z M N R)) (hQi D g σ e_h_ask_X9 M (fun (r : Int32) (M1 : hM) (N1 : hN) (R1 : hR) => N = N1 ∧ R = R1 ∧ (KV M1 R y))) 0 0 (hA σ) := by
  refine h_head (cc := cX9_ask) (maxL := 10) (ret := (some .int)) (by decide) rfl (Nat.le_of_ble_eq_true rfl) e_h_ask_X9 ?_
  intro p e s m below meth c ls Q ar hQ hx hb hr hlocks hml hown hts hK hE H locs hI hl
  have hown : s.vm.findClass RX9 = some m.cls := hown
  have hl : lv_has ls 10 [(0, .ref y), (1, .int p1), (2, .int p2), (3, .int p3)] := hl
  refine lv_iload_n hx hb dX9_ask_0 rfl (lv_at hl 1 rfl) ?_
  refine lv_iconst (v := 0) hx hb dX9_ask_1 (by decide) ?_
  refine lv_bipush (v := 9) hx hb dX9_ask_2 (by decide) ?_
  refine h_goi hI (by decide) (va_runS (As := [.int p1, .int (0 : Int32), .int (9 : Int32)]) (rest := []) ⟨hx, hb, hml, hown, hts⟩ (h_isIn_X9 l D g σ Z hZ0 M N R p1 (0 : Int32) (9 : Int32)) (va_cwS 3 hts gX9_ask_X9_isIn rfl rfl rfl (by decide +kernel) ⟨Nat.le_of_ble_eq_true rfl, Nat.le_of_ble_eq_true rfl⟩) (h_preS hZ0 hK hE hI) rfl rfl hl.1 rfl (lv_room (Nat.le_of_ble_eq_true rfl)) dX9_ask_4 ⟨Nat.le_of_ble_eq_true rfl, Nat.le_of_ble_eq_true rfl⟩) (fun r1 M2 N3 R4 H locs q5 z_M2 hI => ?_)
  obtain ⟨rfl, rfl, rfl, i_r1, z6⟩ := q5
  refine lv_if_eq (tgt := 19) hx hb dX9_ask_7 (by decide) (fun c7 => ?_) (fun c7 => ?_)
  · have i8 : iv r1 0 0 := iv_eq1 c7 i_r1 kc_0
    refine lv_iconst (v := (-1)) hx hb dX9_ask_19 (by decide) ?_
    exact h_iret hQ hx hb hr hlocks rfl hK hI ⟨rfl, rfl, m0_KV⟩ dX9_ask_20
  · have i9 : iv p1 0 9 := (fun h9 => iv_isin (z6 h9) kc_0 kc_9) c7
    have i10 : iv r1 1 1 := iv_neL c7 i_r1 (by decide) (by decide)
    refine lv_iload_n hx hb dX9_ask_10 rfl (lv_at hl 2 rfl) ?_
    refine lv_iconst (v := 0) hx hb dX9_ask_11 (by decide) ?_
    refine lv_iconst (v := 1) hx hb dX9_ask_12 (by decide) ?_
    refine h_goi hI (by decide) (va_runS (As := [.int p2, .int (0 : Int32), .int (1 : Int32)]) (rest := []) ⟨hx, hb, hml, hown, hts⟩ (h_isIn_X9 l D g σ Z hZ0 M N R p2 (0 : Int32) (1 : Int32)) (va_cwS 3 hts gX9_ask_X9_isIn rfl rfl rfl (by decide +kernel) ⟨Nat.le_of_ble_eq_true rfl, Nat.le_of_ble_eq_true rfl⟩) (h_preS hZ0 hK hE hI) rfl rfl hl.1 rfl (lv_room (Nat.le_of_ble_eq_true rfl)) dX9_ask_13 ⟨Nat.le_of_ble_eq_true rfl, Nat.le_of_ble_eq_true rfl⟩) (fun r11 M12 N13 R14 H locs q15 z_M12 hI => ?_)
    obtain ⟨rfl, rfl, rfl, i_r11, z16⟩ := q15
    refine lv_if_ne (tgt := 21) hx hb dX9_ask_16 (by decide) (fun c17 => ?_) (fun c17 => ?_)
    · have i18 : iv p2 0 1 := (fun h9 => iv_isin (z16 h9) kc_0 kc_1) c17
      have i19 : iv r11 1 1 := iv_neL c17 i_r11 (by decide) (by decide)
      refine lv_aload_n hx hb dX9_ask_21 rfl (lv_at hl 0 rfl) ?_
      refine lv_iload_n hx hb dX9_ask_22 rfl (lv_at hl 3 rfl) ?_
      refine h_goi hI (by decide) (va_runV (As := [.int p3]) (rest := []) ⟨hx, hb, hml, hown, hts⟩ (h_fits_X9 l D g σ Z hZ0 M N R y g_y p3 m0_KV m0_CW) (cwV 1 hts gX9_ask_X9_fits rfl rfl rfl (by decide +kernel) ⟨Nat.le_of_ble_eq_true rfl, Nat.le_of_ble_eq_true rfl⟩) (h_preV hZ0 hK hE hI g_y (by decide) rfl) rfl rfl hl.1 rfl (lv_room (Nat.le_of_ble_eq_true rfl)) dX9_ask_23 ⟨Nat.le_of_ble_eq_true rfl, Nat.le_of_ble_eq_true rfl⟩) (fun r20 M21 N22 R23 H locs q24 z_M21 hI => ?_)
      obtain ⟨rfl, rfl, m25, z26⟩ := q24
      refine lv_istore (lv' := [(4, .int r20), (0, .ref y), (1, .int p1), (2, .int p2), (3, .int p3)]) hx hb dX9_ask_26 hl (by decide) rfl (fun ls hl => ?_)
      refine lv_iload hx hb dX9_ask_28 (lv_at hl 0 rfl) ?_
      refine lv_if_ne (tgt := 35) hx hb dX9_ask_30 (by decide) (fun c27 => ?_) (fun c27 => ?_)
      · refine lv_iconst (v := (-1)) hx hb dX9_ask_35 (by decide) ?_
        refine lv_istore (lv' := [(5, .int (-1 : Int32)), (4, .int r20), (0, .ref y), (1, .int p1), (2, .int p2), (3, .int p3)]) hx hb dX9_ask_36 hl (by decide) rfl (fun ls hl => ?_)
        refine lv_iconst (v := 0) hx hb dX9_ask_38 (by decide) ?_
        refine lv_istore (lv' := [(6, .int (0 : Int32)), (5, .int (-1 : Int32)), (4, .int r20), (0, .ref y), (1, .int p1), (2, .int p2), (3, .int p3)]) hx hb dX9_ask_39 hl (by decide) rfl (fun ls hl => ?_)
        refine lv_iconst (v := 0) hx hb dX9_ask_41 (by decide) ?_
        have J44 : ∀ (n : Nat) (v5_44 : Int32) (v6_44 : Int32) (v7_44 : Int32) (H : Heap) (locs : List Loc) (ls : Array Slot), kI D g σ e_h_ask_X9 M s.heap M21 N R H locs → lv_has ls 10 [(0, .ref y), (1, .int p1), (2, .int p2), (3, .int p3), (4, .int r20), (5, .int v5_44), (6, .int v6_44), (7, .int v7_44)] → iv v5_44 (-1) 6 → iv v7_44 0 7 → 8 ≤ v7_44.toInt + (n : Int) → W p l e (headSpec wsX9_ask ({ frames := 9, cells := 0, slots := 0, locals := 203 })).room s m ar below meth c H locs 0 0 Q (F0 m 44 ls []) := by
          intro n
          induction n with
          | zero => intro v5_44 v6_44 v7_44 H locs ls hI hl i_v5_44 i_v7_44 hn; exfalso; have hz := i_v7_44; simp only [iv] at hz; omega
          | succ n ih44 =>
            intro v5_44 v6_44 v7_44 H locs ls hI hl i_v5_44 i_v7_44 hn44
            refine lv_iload hx hb dX9_ask_44 (lv_at hl 7 rfl) ?_
            refine lv_aload_n hx hb dX9_ask_46 rfl (lv_at hl 0 rfl) ?_
            refine h_goi hI (by decide) (va_runV (As := []) (rest := [.int v7_44]) ⟨hx, hb, hml, hown, hts⟩ (h_many_X9 l D g σ Z hZ0 M21 N R y g_y) (cwV 0 hts gX9_ask_X9_many rfl rfl rfl (by decide +kernel) ⟨Nat.le_of_ble_eq_true rfl, Nat.le_of_ble_eq_true rfl⟩) (h_preV hZ0 hK hE hI g_y (by decide) rfl) rfl rfl hl.1 rfl (lv_room (Nat.le_of_ble_eq_true rfl)) dX9_ask_47 ⟨Nat.le_of_ble_eq_true rfl, Nat.le_of_ble_eq_true rfl⟩) (fun r28 M29 N30 R31 H locs q32 z_M29 hI => ?_)
            obtain ⟨rfl, rfl, rfl, i_r28, z33⟩ := q32
            refine lv_icmp_ge (tgt := 159) hx hb dX9_ask_50 (by decide) (fun c34 => ?_) (fun c34 => ?_)
            · refine lv_iload hx hb dX9_ask_159 (lv_at hl 5 rfl) ?_
              refine lv_if_ge (tgt := 168) hx hb dX9_ask_161 (by decide) (fun c35 => ?_) (fun c35 => ?_)
              · have i36 : iv v5_44 0 6 := iv_le2 c35 kc_0 i_v5_44 (by decide)
                refine lv_iload_n hx hb dX9_ask_168 rfl (lv_at hl 2 rfl) ?_
                refine lv_if_ne (tgt := 177) hx hb dX9_ask_169 (by decide) (fun c37 => ?_) (fun c37 => ?_)
                · have i38 : iv p2 1 1 := iv_neL c37 i18 (by decide) (by decide)
                  refine lv_iload hx hb dX9_ask_177 (lv_at hl 6 rfl) ?_
                  exact h_iret hQ hx hb hr hlocks rfl hK hI ⟨rfl, rfl, m25⟩ dX9_ask_179
                · have i39 : iv p2 0 0 := iv_eq1 c37 i18 kc_0
                  refine lv_iload hx hb dX9_ask_172 (lv_at hl 5 rfl) ?_
                  refine lv_goto (tgt := 179) hx hb dX9_ask_174 (by decide) ?_
                  exact h_iret hQ hx hb hr hlocks rfl hK hI ⟨rfl, rfl, m25⟩ dX9_ask_179
              · have i40 : iv v5_44 (-1) (-1) := iv_nle2 c35 kc_0 i_v5_44 (by decide)
                refine lv_iconst (v := (-1)) hx hb dX9_ask_164 (by decide) ?_
                refine lv_goto (tgt := 179) hx hb dX9_ask_165 (by decide) ?_
                exact h_iret hQ hx hb hr hlocks rfl hK hI ⟨rfl, rfl, m25⟩ dX9_ask_179
            · have i41 : iv r28 1 7 := iv_nle1 c34 i_r28 i_v7_44 (by decide)
              have i42 : iv v7_44 0 6 := iv_nle2 c34 i_r28 i_v7_44 (by decide)
              refine lv_iconst (v := 0) hx hb dX9_ask_53 (by decide) ?_
              refine lv_istore (lv' := [(8, .int (0 : Int32)), (0, .ref y), (1, .int p1), (2, .int p2), (3, .int p3), (4, .int r20), (5, .int v5_44), (6, .int v6_44), (7, .int v7_44)]) hx hb dX9_ask_54 hl (by decide) rfl (fun ls hl => ?_)
              refine lv_iconst (v := 0) hx hb dX9_ask_56 (by decide) ?_
              have J59 : ∀ (n : Nat) (v8_59 : Int32) (v9_59 : Int32) (H : Heap) (locs : List Loc) (ls : Array Slot), kI D g σ e_h_ask_X9 M s.heap M21 N R H locs → lv_has ls 10 [(0, .ref y), (1, .int p1), (2, .int p2), (3, .int p3), (4, .int r20), (5, .int v5_44), (6, .int v6_44), (7, .int v7_44), (8, .int v8_59), (9, .int v9_59)] → iv v9_59 0 100 → 101 ≤ v9_59.toInt + (n : Int) → W p l e (headSpec wsX9_ask ({ frames := 9, cells := 0, slots := 0, locals := 203 })).room s m ar below meth c H locs 0 0 Q (F0 m 59 ls []) := by
                intro n
                induction n with
                | zero => intro v8_59 v9_59 H locs ls hI hl i_v9_59 hn; exfalso; have hz := i_v9_59; simp only [iv] at hz; omega
                | succ n ih59 =>
                  intro v8_59 v9_59 H locs ls hI hl i_v9_59 hn59
                  refine lv_iload hx hb dX9_ask_59 (lv_at hl 9 rfl) ?_
                  refine lv_bipush (v := 99) hx hb dX9_ask_61 (by decide) ?_
                  refine lv_icmp_gt (tgt := 108) hx hb dX9_ask_63 (by decide) (fun c43 => ?_) (fun c43 => ?_)
                  · have i44 : iv v9_59 100 100 := iv_lt2 c43 kc_99 i_v9_59 (by decide)
                    refine lv_iload hx hb dX9_ask_108 (lv_at hl 8 rfl) ?_
                    refine lv_iload hx hb dX9_ask_110 (lv_at hl 4 rfl) ?_
                    refine lv_iload hx hb dX9_ask_112 (lv_at hl 8 rfl) ?_
                    refine lv_isub hx hb dX9_ask_114 ?_
                    refine h_nm (lo := (-2147483648)) (hi := 2147483647) (iv_any _) (fun v45 e_v45 i_v45 => ?_)
                    have J128 : ∀ (t0_128 : Int32) (H : Heap) (locs : List Loc) (ls : Array Slot), kI D g σ e_h_ask_X9 M s.heap M21 N R H locs → lv_has ls 10 [(0, .ref y), (1, .int p1), (2, .int p2), (3, .int p3), (4, .int r20), (5, .int v5_44), (6, .int v6_44), (7, .int v7_44)] → W p l e (headSpec wsX9_ask ({ frames := 9, cells := 0, slots := 0, locals := 203 })).room s m ar below meth c H locs 0 0 Q (F0 m 128 ls [.int t0_128]) := by
                      intro t0_128 H locs ls hI hl
                      refine lv_istore (lv' := [(9, .int t0_128), (0, .ref y), (1, .int p1), (2, .int p2), (3, .int p3), (4, .int r20), (5, .int v5_44), (6, .int v6_44), (7, .int v7_44)]) hx hb dX9_ask_128 hl (by decide) rfl (fun ls hl => ?_)
                      refine lv_iload hx hb dX9_ask_130 (lv_at hl 6 rfl) ?_
                      have J153 : ∀ (v5_153 : Int32) (v6_153 : Int32) (H : Heap) (locs : List Loc) (ls : Array Slot), kI D g σ e_h_ask_X9 M s.heap M21 N R H locs → lv_has ls 10 [(0, .ref y), (1, .int p1), (2, .int p2), (3, .int p3), (4, .int r20), (5, .int v5_153), (6, .int v6_153), (7, .int v7_44)] → iv v5_153 0 6 → W p l e (headSpec wsX9_ask ({ frames := 9, cells := 0, slots := 0, locals := 203 })).room s m ar below meth c H locs 0 0 Q (F0 m 153 ls []) := by
                        intro v5_153 v6_153 H locs ls hI hl i_v5_153
                        obtain ⟨v46, e_v46⟩ : ∃ z : Int32, z = v7_44 + Int32.ofInt 1 := ⟨_, rfl⟩
                        have i_v46 : iv v46 1 7 := by rw [e_v46]; exact iv_add i42 (ki_1) (by decide) (by decide) (by decide) (by decide)
                        refine lv_iinc (v := v46) (lv' := [(7, .int v46), (0, .ref y), (1, .int p1), (2, .int p2), (3, .int p3), (4, .int r20), (5, .int v5_153), (6, .int v6_153)]) hx hb dX9_ask_153 hl (k := 7) rfl e_v46.symm (by decide) rfl (fun ls hl => ?_)
                        refine lv_goto (tgt := 44) hx hb dX9_ask_156 (by decide) ?_
                        exact ih44 v5_153 v6_153 v46 H locs ls hI (lv_sub hl [1, 2, 3, 4, 5, 6, 7, 0] rfl) (iv_w (lo' := (-1)) (hi' := 6) i_v5_153 (by decide) (by decide)) (iv_w (lo' := 0) (hi' := 7) i_v46 (by decide) (by decide)) (by have h9 := (h_inc e_v46 i42 ki_1 (by decide) (by decide)); omega)
                      have J145 : ∀ (H : Heap) (locs : List Loc) (ls : Array Slot), kI D g σ e_h_ask_X9 M s.heap M21 N R H locs → lv_has ls 10 [(0, .ref y), (1, .int p1), (2, .int p2), (3, .int p3), (4, .int r20), (7, .int v7_44), (9, .int t0_128)] → W p l e (headSpec wsX9_ask ({ frames := 9, cells := 0, slots := 0, locals := 203 })).room s m ar below meth c H locs 0 0 Q (F0 m 145 ls []) := by
                        intro H locs ls hI hl
                        refine lv_iload hx hb dX9_ask_145 (lv_at hl 5 rfl) ?_
                        refine lv_istore (lv' := [(5, .int v7_44), (0, .ref y), (1, .int p1), (2, .int p2), (3, .int p3), (4, .int r20), (7, .int v7_44), (9, .int t0_128)]) hx hb dX9_ask_147 hl (by decide) rfl (fun ls hl => ?_)
                        refine lv_iload hx hb dX9_ask_149 (lv_at hl 7 rfl) ?_
                        refine lv_istore (lv' := [(6, .int t0_128), (5, .int v7_44), (0, .ref y), (1, .int p1), (2, .int p2), (3, .int p3), (4, .int r20), (7, .int v7_44), (9, .int t0_128)]) hx hb dX9_ask_151 hl (by decide) rfl (fun ls hl => ?_)
                        exact J153 v7_44 t0_128 H locs ls hI (lv_sub hl [2, 3, 4, 5, 6, 1, 0, 7] rfl) i42
                      refine lv_if_lt (tgt := 145) hx hb dX9_ask_132 (by decide) (fun c47 => ?_) (fun c47 => ?_)
                      · have i48 : iv v5_44 (-1) (-1) := iv_lt1 c47 i_v5_44 kc_0 (by decide)
                        exact J145 H locs ls hI (lv_sub hl [1, 2, 3, 4, 5, 8, 0] rfl)
                      · have i49 : iv v5_44 0 6 := iv_nlt1 c47 i_v5_44 kc_0 (by decide)
                        refine lv_iload hx hb dX9_ask_135 (lv_at hl 0 rfl) ?_
                        refine lv_iload hx hb dX9_ask_137 (lv_at hl 7 rfl) ?_
                        refine lv_icmp_lt (tgt := 145) hx hb dX9_ask_139 (by decide) (fun c50 => ?_) (fun c50 => ?_)
                        · have i51 : iv t0_128 (-2147483648) 2147483646 := iv_lt1 c50 (iv_any t0_128) (iv_any v6_44) (by decide)
                          have i52 : iv v6_44 (-2147483647) 2147483647 := iv_lt2 c50 (iv_any t0_128) (iv_any v6_44) (by decide)
                          exact J145 H locs ls hI (lv_sub hl [1, 2, 3, 4, 5, 8, 0] rfl)
                        · refine lv_goto (tgt := 153) hx hb dX9_ask_142 (by decide) ?_
                          exact J153 v5_44 v6_44 H locs ls hI (lv_sub hl [1, 2, 3, 4, 5, 6, 7, 8] rfl) i49
                    refine lv_icmp_le (tgt := 123) hx hb dX9_ask_115 (by decide) (fun c53 => ?_) (fun c53 => ?_)
                    · refine lv_iload hx hb dX9_ask_123 (lv_at hl 4 rfl) ?_
                      refine lv_iload hx hb dX9_ask_125 (lv_at hl 8 rfl) ?_
                      refine lv_isub hx hb dX9_ask_127 ?_
                      refine h_nm (lo := (-2147483648)) (hi := 2147483647) (iv_any _) (fun v54 e_v54 i_v54 => ?_)
                      exact J128 v54 H locs ls hI (lv_sub hl [0, 1, 2, 3, 4, 5, 6, 7] rfl)
                    · have i55 : iv v8_59 (-2147483647) 2147483647 := iv_nle1 c53 (iv_any v8_59) i_v45 (by decide)
                      have i56 : iv v45 (-2147483648) 2147483646 := iv_nle2 c53 (iv_any v8_59) i_v45 (by decide)
                      refine lv_iload hx hb dX9_ask_118 (lv_at hl 8 rfl) ?_
                      refine lv_goto (tgt := 128) hx hb dX9_ask_120 (by decide) ?_
                      exact J128 v8_59 H locs ls hI (lv_sub hl [0, 1, 2, 3, 4, 5, 6, 7] rfl)
                  · have i57 : iv v9_59 0 99 := iv_nlt2 c43 kc_99 i_v9_59 (by decide)
                    refine lv_iload hx hb dX9_ask_66 (lv_at hl 8 rfl) ?_
                    refine lv_aload_n hx hb dX9_ask_68 rfl (lv_at hl 0 rfl) ?_
                    refine lv_iload hx hb dX9_ask_69 (lv_at hl 9 rfl) ?_
                    refine lv_iload_n hx hb dX9_ask_71 rfl (lv_at hl 3 rfl) ?_
                    refine h_goi hI (by decide) (va_runV (As := [.int v9_59, .int p3]) (rest := [.int v8_59]) ⟨hx, hb, hml, hown, hts⟩ (h_doesFit_X9 l D g σ Z hZ0 M21 N R y g_y v9_59 i57 p3) (cwV 2 hts gX9_ask_X9_doesFit rfl rfl rfl (by decide +kernel) ⟨Nat.le_of_ble_eq_true rfl, Nat.le_of_ble_eq_true rfl⟩) (h_preV hZ0 hK hE hI g_y (by decide) rfl) rfl rfl hl.1 rfl (lv_room (Nat.le_of_ble_eq_true rfl)) dX9_ask_72 ⟨Nat.le_of_ble_eq_true rfl, Nat.le_of_ble_eq_true rfl⟩) (fun r58 M59 N60 R61 H locs q62 z_M59 hI => ?_)
                    obtain ⟨rfl, rfl, rfl, i_r58, z63, z64⟩ := q62
                    have J99 : ∀ (t1_99 : Int32) (H : Heap) (locs : List Loc) (ls : Array Slot), kI D g σ e_h_ask_X9 M s.heap M21 N R H locs → lv_has ls 10 [(0, .ref y), (1, .int p1), (2, .int p2), (3, .int p3), (4, .int r20), (5, .int v5_44), (6, .int v6_44), (7, .int v7_44), (9, .int v9_59)] → iv t1_99 0 1 → W p l e (headSpec wsX9_ask ({ frames := 9, cells := 0, slots := 0, locals := 203 })).room s m ar below meth c H locs 0 0 Q (F0 m 99 ls [.int t1_99, .int v8_59]) := by
                      intro t1_99 H locs ls hI hl i_t1_99
                      refine lv_iadd hx hb dX9_ask_99 ?_
                      refine h_nm (lo := (-2147483648)) (hi := 2147483647) (iv_any _) (fun v65 e_v65 i_v65 => ?_)
                      refine lv_istore (lv' := [(8, .int v65), (0, .ref y), (1, .int p1), (2, .int p2), (3, .int p3), (4, .int r20), (5, .int v5_44), (6, .int v6_44), (7, .int v7_44), (9, .int v9_59)]) hx hb dX9_ask_100 hl (by decide) rfl (fun ls hl => ?_)
                      obtain ⟨v66, e_v66⟩ : ∃ z : Int32, z = v9_59 + Int32.ofInt 1 := ⟨_, rfl⟩
                      have i_v66 : iv v66 1 100 := by rw [e_v66]; exact iv_add i57 (ki_1) (by decide) (by decide) (by decide) (by decide)
                      refine lv_iinc (v := v66) (lv' := [(9, .int v66), (8, .int v65), (0, .ref y), (1, .int p1), (2, .int p2), (3, .int p3), (4, .int r20), (5, .int v5_44), (6, .int v6_44), (7, .int v7_44)]) hx hb dX9_ask_102 hl (k := 9) rfl e_v66.symm (by decide) rfl (fun ls hl => ?_)
                      refine lv_goto (tgt := 59) hx hb dX9_ask_105 (by decide) ?_
                      exact ih59 v65 v66 H locs ls hI (lv_sub hl [2, 3, 4, 5, 6, 7, 8, 9, 1, 0] rfl) (iv_w (lo' := 0) (hi' := 100) i_v66 (by decide) (by decide)) (by have h9 := (h_inc e_v66 i57 ki_1 (by decide) (by decide)); omega)
                    refine lv_if_eq (tgt := 98) hx hb dX9_ask_75 (by decide) (fun c67 => ?_) (fun c67 => ?_)
                    · have i68 : iv r58 0 0 := iv_eq1 c67 i_r58 kc_0
                      refine lv_iconst (v := 0) hx hb dX9_ask_98 (by decide) ?_
                      exact J99 (0 : Int32) H locs ls hI (lv_sub hl [0, 1, 2, 3, 4, 5, 6, 7, 9] rfl) (iv_w (lo' := 0) (hi' := 1) kc_0 (by decide) (by decide))
                    · have i69 : iv r58 1 1 := iv_neL c67 i_r58 (by decide) (by decide)
                      refine lv_aload_n hx hb dX9_ask_78 rfl (lv_at hl 0 rfl) ?_
                      refine h_getr hx hb hts iX9_ask_X9 hown hK hI g_y (by decide) rfl rfl 57 (by decide) rfl 157 rfl (hts (.fieldLink RX9 121 "CatLeasesModel" "inBy" "[I") (List.mem_of_getElem? (i := 1) rfl)) (fun _ h9 => h9) dX9_ask_79 (fun a70 e_a70 g_a70 => ?_)
                      refine lv_bipush (v := 10) hx hb dX9_ask_82 (by decide) ?_
                      refine lv_iload hx hb dX9_ask_84 (lv_at hl 9 rfl) ?_
                      refine lv_imul hx hb dX9_ask_86 ?_
                      refine h_nm (lo := 0) (hi := 990) (iv_mul kc_10 i57 (by decide) (by decide) (by decide) (by decide) (by decide)) (fun v71 e_v71 i_v71 => ?_)
                      refine lv_iload_n hx hb dX9_ask_87 rfl (lv_at hl 1 rfl) ?_
                      refine lv_iadd hx hb dX9_ask_88 ?_
                      refine h_nm (lo := 0) (hi := 999) (iv_add i_v71 i9 (by decide) (by decide) (by decide) (by decide)) (fun v72 e_v72 i_v72 => ?_)
                      refine h_iald (j := v72.toNatClampNeg) (lo := (-2147483648)) (hi := 2147483647) hx hb hK hI g_a70 (by decide) rfl (iv_in (n := 1000) i_v72 (by decide) (by decide)) rfl (iv_any _) dX9_ask_89 (fun v73 e_v73 i_v73 => ?_)
                      refine lv_iload hx hb dX9_ask_90 (lv_at hl 7 rfl) ?_
                      refine lv_ishr hx hb dX9_ask_92 ?_
                      refine h_nm (lo := (-2147483648)) (hi := 2147483647) (iv_any _) (fun v74 e_v74 i_v74 => ?_)
                      refine lv_iconst (v := 1) hx hb dX9_ask_93 (by decide) ?_
                      refine lv_iand hx hb dX9_ask_94 ?_
                      refine h_nm (lo := 0) (hi := 1) (iv_and 1 (by decide) (by decide) (by decide)) (fun v75 e_v75 i_v75 => ?_)
                      refine lv_goto (tgt := 99) hx hb dX9_ask_95 (by decide) ?_
                      exact J99 v75 H locs ls hI (lv_sub hl [0, 1, 2, 3, 4, 5, 6, 7, 9] rfl) i_v75
              refine lv_istore (lv' := [(9, .int (0 : Int32)), (8, .int (0 : Int32)), (0, .ref y), (1, .int p1), (2, .int p2), (3, .int p3), (4, .int r20), (5, .int v5_44), (6, .int v6_44), (7, .int v7_44)]) hx hb dX9_ask_57 hl (by decide) rfl (fun ls hl => ?_)
              exact J59 101 (0 : Int32) (0 : Int32) H locs ls hI (lv_sub hl [2, 3, 4, 5, 6, 7, 8, 9, 1, 0] rfl) (iv_w (lo' := 0) (hi' := 100) kc_0 (by decide) (by decide)) (by have h9 := kc_0; simp only [iv] at h9; omega)
        refine lv_istore (lv' := [(7, .int (0 : Int32)), (6, .int (0 : Int32)), (5, .int (-1 : Int32)), (4, .int r20), (0, .ref y), (1, .int p1), (2, .int p2), (3, .int p3)]) hx hb dX9_ask_42 hl (by decide) rfl (fun ls hl => ?_)
        exact J44 8 (-1 : Int32) (0 : Int32) (0 : Int32) H locs ls hI (lv_sub hl [4, 5, 6, 7, 3, 2, 1, 0] rfl) (iv_w (lo' := (-1)) (hi' := 6) kc_m1 (by decide) (by decide)) (iv_w (lo' := 0) (hi' := 7) kc_0 (by decide) (by decide)) (by have h9 := kc_0; simp only [iv] at h9; omega)
      · have i76 : iv r20 0 0 := iv_eq1 c27 (iv_any r20) kc_0
        refine lv_iconst (v := (-1)) hx hb dX9_ask_33 (by decide) ?_
        exact h_iret hQ hx hb hr hlocks rfl hK hI ⟨rfl, rfl, m25⟩ dX9_ask_34
    · have i77 : iv r11 0 0 := iv_eq1 c17 i_r11 kc_0
      refine lv_iconst (v := (-1)) hx hb dX9_ask_19 (by decide) ?_
      exact h_iret hQ hx hb hr hlocks rfl hK hI ⟨rfl, rfl, m0_KV⟩ dX9_ask_20
