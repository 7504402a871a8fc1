abbrev e_h_sign_X9 : List (Nat × Nat) := []
set_option maxHeartbeats 4000000 in
set_option maxRecDepth 100000 in
theorem h_sign_X9 (l : Launch) (D : va_G) (g : Nat → ClassId) (σ : Nat → Option Nat) (Z : State → Heap → Prop) (hZ0 : hZ σ Z) (M : hM) (N : hN) (R : hR) (y : Nat) (g_y : σ y = some 9) (p1 : Int32) (h_p1 : iv p1 0 1700) : Met l yX9_sign wsX9_sign ({ frames := 0, cells := 0, slots := 0, locals := 0 }) (va_Pc [.ref y, .int p1] (hPre D g σ Z M N R)) (hQi D g σ e_h_sign_X9 M (fun (r : Int32) (M1 : hM) (N1 : hN) (R1 : hR) => M = M1 ∧ N = N1 ∧ R = R1 ∧ iv r 0 255 ∧ (¬ r = 0 → iv p1 0 1599) ∧ (¬ r = 0 → p1.toInt < (M y 3).toInt) ∧ (r = SG M R y p1))) 0 0 (hA σ) := by
  refine h_head (cc := cX9_sign) (maxL := 2) (ret := (some .int)) (by decide) rfl (Nat.le_of_ble_eq_true rfl) e_h_sign_X9 ?_
  intro p e s m below meth c ls Q ar hQ hx hb hr hlocks hml hown hts hK hE H locs hI hl
  have hown : s.vm.findClass RX9 = some m.cls := hown
  have hl : lv_has ls 2 [(0, .ref y), (1, .int p1)] := hl
  refine lv_iload_n hx hb dX9_sign_0 rfl (lv_at hl 1 rfl) ?_
  refine lv_aload_n hx hb dX9_sign_1 rfl (lv_at hl 0 rfl) ?_
  refine h_geti (lo := 0) (hi := 1600) hx hb hts iX9_sign_X9 hown hK hI g_y (by decide) rfl rfl 3 (by decide) rfl rfl (hts (.fieldLink RX9 152 "CatLeasesModel" "size" "I") (List.mem_of_getElem? (i := 1) rfl)) (fun _ h9 => h9) dX9_sign_2 (fun v1 e_v1 i_v1 => ?_)
  refine lv_icmp_ge (tgt := 21) hx hb dX9_sign_5 (by decide) (fun c2 => ?_) (fun c2 => ?_)
  · refine lv_iconst (v := 0) hx hb dX9_sign_21 (by decide) ?_
    exact h_iret hQ hx hb hr hlocks rfl hK hI ⟨rfl, rfl, rfl, (iv_w (lo' := 0) (hi' := 255) kc_0 (by decide) (by decide)), (fun h9 => absurd rfl h9), (fun h9 => absurd rfl h9), (by unfold SG; rw [if_neg (by rw [← e_v1]; exact Int32.not_lt.mpr c2)])⟩ dX9_sign_22
  · have i3 : iv v1 1 1600 := iv_nle1 c2 i_v1 h_p1 (by decide)
    have i4 : iv p1 0 1599 := iv_nle2 c2 i_v1 h_p1 (by decide)
    refine lv_aload_n hx hb dX9_sign_8 rfl (lv_at hl 0 rfl) ?_
    refine h_getr hx hb hts iX9_sign_X9 hown hK hI g_y (by decide) rfl rfl 1 (by decide) rfl 101 rfl (hts (.fieldLink RX9 13 "CatLeasesModel" "text" "[B") (List.mem_of_getElem? (i := 2) rfl)) (fun _ h9 => h9) dX9_sign_9 (fun a5 e_a5 g_a5 => ?_)
    refine lv_iload_n hx hb dX9_sign_12 rfl (lv_at hl 1 rfl) ?_
    refine h_bald (j := p1.toNatClampNeg) (lo := (-2147483648)) (hi := 2147483647) hx hb hK hI g_a5 (by decide) rfl (iv_in (n := 1600) i4 (by decide) (by decide)) rfl (iv_any _) dX9_sign_13 (fun v6 e_v6 i_v6 => ?_)
    refine lv_sipush (v := 255) hx hb dX9_sign_14 (by decide) ?_
    refine lv_iand hx hb dX9_sign_17 ?_
    refine h_nm (lo := 0) (hi := 255) (iv_and 8 (by decide) (by decide) (by decide)) (fun v7 e_v7 i_v7 => ?_)
    refine lv_goto (tgt := 22) hx hb dX9_sign_18 (by decide) ?_
    exact h_iret hQ hx hb hr hlocks rfl hK hI ⟨rfl, rfl, rfl, i_v7, (fun _ => i4), (fun _ => by rw [← e_v1]; exact Int32.lt_iff_toInt_lt.mp (Int32.not_le.mp c2)), (by unfold SG; rw [if_pos (by rw [← e_v1]; exact Int32.not_le.mp c2), ← e_a5, ← e_v6]; exact e_v7)⟩ dX9_sign_22
abbrev e_h_fails_X9 : List (Nat × Nat) := [(9, 4), (9, 5)]
set_option maxHeartbeats 4000000 in
set_option maxRecDepth 100000 in
theorem h_fails_X9 (l : Launch) (D : va_G) (g : Nat → ClassId) (σ : Nat → Option Nat) (Z : State → Heap → Prop) (hZ0 : hZ σ Z) (M : hM) (N : hN) (R : hR) (y : Nat) (g_y : σ y = some 9) (p1 : Int32) (h_p1 : iv p1 1 5) (p2 : Int32) (m0_PI : PI M y) : Met l yX9_fails wsX9_fails ({ frames := 0, cells := 0, slots := 0, locals := 0 }) (va_Pc [.ref y, .int p1, .int p2] (hPre D g σ Z M N R)) (hQv D g σ e_h_fails_X9 M (fun (M1 : hM) (N1 : hN) (R1 : hR) => N = N1 ∧ R = R1 ∧ (PI M1 y) ∧ (PN M M1 y) ∧ (iv (M1 y 4) 1 5))) 0 0 (hA σ) := by
  refine h_head (cc := cX9_fails) (maxL := 3) (ret := none) (by decide) rfl (Nat.le_of_ble_eq_true rfl) e_h_fails_X9 ?_
  intro p e s m below meth c ls Q ar hQ hx hb hr hlocks hml hown hts hK hE H locs hI hl
  have hown : s.vm.findClass RX9 = some m.cls := hown
  have hl : lv_has ls 3 [(0, .ref y), (1, .int p1), (2, .int p2)] := hl
  refine lv_aload_n hx hb dX9_fails_0 rfl (lv_at hl 0 rfl) ?_
  refine h_geti (lo := 0) (hi := 5) hx hb hts iX9_fails_X9 hown hK hI g_y (by decide) rfl rfl 4 (by decide) rfl rfl (hts (.fieldLink RX9 155 "CatLeasesModel" "faultKind" "I") (List.mem_of_getElem? (i := 1) rfl)) (fun _ h9 => h9) dX9_fails_1 (fun v1 e_v1 i_v1 => ?_)
  refine lv_if_le (tgt := 8) hx hb dX9_fails_4 (by decide) (fun c2 => ?_) (fun c2 => ?_)
  · have i3 : iv v1 0 0 := iv_le1 c2 i_v1 kc_0 (by decide)
    refine lv_aload_n hx hb dX9_fails_8 rfl (lv_at hl 0 rfl) ?_
    refine lv_iload_n hx hb dX9_fails_9 rfl (lv_at hl 1 rfl) ?_
    refine h_puti hx hb hts iX9_fails_X9 tyX9 tyX9_ok nmX9 hown hK hI g_y (by decide) rfl rfl 4 (by decide) rfl (hts (.fieldLink RX9 155 "CatLeasesModel" "faultKind" "I") (List.mem_of_getElem? (i := 1) rfl)) (fun _ h9 => h9) rfl .int (by decide +kernel) rfl rfl (iv_w (lo' := 0) (hi' := 5) h_p1 (by decide) (by decide)) rfl dX9_fails_10 (fun M4 H locs e_M4 hI => ?_)
    refine lv_aload_n hx hb dX9_fails_13 rfl (lv_at hl 0 rfl) ?_
    refine lv_iload_n hx hb dX9_fails_14 rfl (lv_at hl 2 rfl) ?_
    refine h_puti hx hb hts iX9_fails_X9 tyX9 tyX9_ok nmX9 hown hK hI g_y (by decide) rfl rfl 5 (by decide) rfl (hts (.fieldLink RX9 16 "CatLeasesModel" "faultPlace" "I") (List.mem_of_getElem? (i := 2) rfl)) (fun _ h9 => h9) rfl .int (by decide +kernel) rfl rfl (iv_any p2) rfl dX9_fails_15 (fun M5 H locs e_M5 hI => ?_)
    have m6 : PI M5 y := (PI_ag hI.2.1 g_y (PI_ag hI.2.1 g_y m0_PI (hAd.put e_M4 g_y rfl)) (hAd.put e_M5 g_y rfl))
    have m7 : PN M M5 y := (PN_ag hI.2.1 g_y (PN_f PN_rf e_M4 h_p1) (hAd.put e_M5 g_y rfl))
    exact h_vret hQ hx hb hr hlocks hK hI ⟨rfl, rfl, m6, m7, (by rw [← (((u2_wr e_M4)).trans (u2_st (a := y) (k := 4) e_M5 (u2_k (by decide))).symm)]; exact h_p1)⟩ dX9_fails_18
  · have i8 : iv v1 1 5 := iv_nle1 c2 i_v1 kc_0 (by decide)
    exact h_vret hQ hx hb hr hlocks hK hI ⟨rfl, rfl, m0_PI, PN_rf, (by rw [← (e_v1)]; exact i8)⟩ dX9_fails_7
abbrev e_h_isGood_X9 : List (Nat × Nat) := []
set_option maxHeartbeats 4000000 in
set_option maxRecDepth 100000 in
theorem h_isGood_X9 (l : Launch) (D : va_G) (g : Nat → ClassId) (σ : Nat → Option Nat) (Z : State → Heap → Prop) (hZ0 : hZ σ Z) (M : hM) (N : hN) (R : hR) (y : Nat) (g_y : σ y = some 9) : Met l yX9_isGood wsX9_isGood ({ frames := 0, cells := 0, slots := 0, locals := 0 }) (va_Pc [.ref y] (hPre D g σ Z M N R)) (hQi D g σ e_h_isGood_X9 M (fun (r : Int32) (M1 : hM) (N1 : hN) (R1 : hR) => M = M1 ∧ N = N1 ∧ R = R1 ∧ iv r 0 1 ∧ (¬ r = 0 → M y 4 = 0) ∧ (r = 0 → ¬ M y 4 = 0))) 0 0 (hA σ) := by
  refine h_head (cc := cX9_isGood) (maxL := 1) (ret := (some .boolean)) (by decide) rfl (Nat.le_of_ble_eq_true rfl) e_h_isGood_X9 ?_
  intro p e s m below meth c ls Q ar hQ hx hb hr hlocks hml hown hts hK hE H locs hI hl
  have hown : s.vm.findClass RX9 = some m.cls := hown
  have hl : lv_has ls 1 [(0, .ref y)] := hl
  refine lv_aload_n hx hb dX9_isGood_0 rfl (lv_at hl 0 rfl) ?_
  refine h_geti (lo := 0) (hi := 5) hx hb hts iX9_isGood_X9 hown hK hI g_y (by decide) rfl rfl 4 (by decide) rfl rfl (hts (.fieldLink RX9 155 "CatLeasesModel" "faultKind" "I") (List.mem_of_getElem? (i := 1) rfl)) (fun _ h9 => h9) dX9_isGood_1 (fun v1 e_v1 i_v1 => ?_)
  refine lv_if_ne (tgt := 11) hx hb dX9_isGood_4 (by decide) (fun c2 => ?_) (fun c2 => ?_)
  · have i3 : iv v1 1 5 := iv_neL c2 i_v1 (by decide) (by decide)
    refine lv_iconst (v := 0) hx hb dX9_isGood_11 (by decide) ?_
    exact h_iret hQ hx hb hr hlocks rfl hK hI ⟨rfl, rfl, rfl, (iv_w (lo' := 0) (hi' := 1) kc_0 (by decide) (by decide)), (fun h9 => absurd rfl h9), (fun _ => by rw [← e_v1]; exact c2)⟩ dX9_isGood_12
  · have i4 : iv v1 0 0 := iv_eq1 c2 i_v1 kc_0
    refine lv_iconst (v := 1) hx hb dX9_isGood_7 (by decide) ?_
    refine lv_goto (tgt := 12) hx hb dX9_isGood_8 (by decide) ?_
    exact h_iret hQ hx hb hr hlocks rfl hK hI ⟨rfl, rfl, rfl, (iv_w (lo' := 0) (hi' := 1) kc_1 (by decide) (by decide)), (fun _ => by rw [← e_v1]; exact c2), (fun h9 => absurd h9 (by decide))⟩ dX9_isGood_12
abbrev e_h_goOn_X9 : List (Nat × Nat) := [(9, 6), (9, 7), (9, 8), (9, 9)]
set_option maxHeartbeats 4000000 in
set_option maxRecDepth 100000 in
theorem h_goOn_X9 (l : Launch) (D : va_G) (g : Nat → ClassId) (σ : Nat → Option Nat) (Z : State → Heap → Prop) (hZ0 : hZ σ Z) (M : hM) (N : hN) (R : hR) (y : Nat) (g_y : σ y = some 9) (m0_PI : PI M y) : Met l yX9_goOn wsX9_goOn ({ frames := 1, cells := 0, slots := 0, locals := 22 }) (va_Pc [.ref y] (hPre D g σ Z M N R)) (hQv D g σ e_h_goOn_X9 M (fun (M1 : hM) (N1 : hN) (R1 : hR) => R = R1 ∧ (PI M1 y) ∧ (PN M M1 y) ∧ (GO M M1 y))) 0 0 (hA σ) := by
  refine h_head (cc := cX9_goOn) (maxL := 3) (ret := none) (by decide) rfl (Nat.le_of_ble_eq_true rfl) e_h_goOn_X9 ?_
  intro p e s m below meth c ls Q ar hQ hx hb hr hlocks hml hown hts hK hE H locs hI hl
  have hown : s.vm.findClass RX9 = some m.cls := hown
  have hl : lv_has ls 3 [(0, .ref y)] := hl
  refine lv_aload_n hx hb dX9_goOn_0 rfl (lv_at hl 0 rfl) ?_
  refine lv_aload_n hx hb dX9_goOn_1 rfl (lv_at hl 0 rfl) ?_
  refine h_geti (lo := 0) (hi := 1601) hx hb hts iX9_goOn_X9 hown hK hI g_y (by decide) rfl rfl 7 (by decide) rfl rfl (hts (.fieldLink RX9 196 "CatLeasesModel" "end" "I") (List.mem_of_getElem? (i := 1) rfl)) (fun _ h9 => h9) dX9_goOn_2 (fun v1 e_v1 i_v1 => ?_)
  have sz9 := hI.iv1 (a := y) (j := 3) (lo := 0) (hi := 1600) (n := 67) g_y rfl (by decide) rfl
  have ie9 : iv v1 0 1600 := ⟨(i_v1).1, by have h9 := m0_PI; unfold PI at h9; rw [← e_v1] at h9; have h8 := sz9.2; omega⟩
  have J8 : ∀ (n : Nat) (M_8 : hM) (u6_8 : Int32) (H : Heap) (locs : List Loc) (ls : Array Slot), kI D g σ e_h_goOn_X9 M s.heap M_8 N R H locs → lv_has ls 3 [(0, .ref y)] → v1 = M_8 y 7 → hAd σ [(9, 3), (9, 4), (101, 999)] M M_8 → u6_8 = M_8 y 6 → iv u6_8 0 1600 → ((M y 7).toInt ≤ u6_8.toInt ∧ u6_8.toInt ≤ (M y 3).toInt) → 1601 ≤ u6_8.toInt + (n : Int) → W p l e (headSpec wsX9_goOn ({ frames := 1, cells := 0, slots := 0, locals := 22 })).room s m ar below meth c H locs 0 0 Q (F0 m 8 ls []) := by
    intro n
    induction n with
    | zero => intro M_8 u6_8 H locs ls hI hl k0_8 m_AG3_8 e_u6_8 i_u6_8 h_8 hn; exfalso; have hz := i_u6_8; simp only [iv] at hz; omega
    | succ n ih8 =>
      intro M_8 u6_8 H locs ls hI hl k0_8 m_AG3_8 e_u6_8 i_u6_8 h_8 hn8
      refine lv_aload_n hx hb dX9_goOn_8 rfl (lv_at hl 0 rfl) ?_
      refine h_geti (lo := 0) (hi := 1600) hx hb hts iX9_goOn_X9 hown hK hI g_y (by decide) rfl rfl 6 (by decide) rfl rfl (hts (.fieldLink RX9 199 "CatLeasesModel" "at" "I") (List.mem_of_getElem? (i := 2) rfl)) (fun _ h9 => h9) dX9_goOn_9 (fun v2 e_v2 i_v2 => ?_)
      have q3 : u6_8 = v2 := (e_u6_8).trans e_v2.symm
      subst q3
      refine lv_aload_n hx hb dX9_goOn_12 rfl (lv_at hl 0 rfl) ?_
      refine h_geti (lo := 0) (hi := 1600) hx hb hts iX9_goOn_X9 hown hK hI g_y (by decide) rfl rfl 3 (by decide) rfl rfl (hts (.fieldLink RX9 152 "CatLeasesModel" "size" "I") (List.mem_of_getElem? (i := 3) rfl)) (fun _ h9 => h9) dX9_goOn_13 (fun v4 e_v4 i_v4 => ?_)
      have J58 : ∀ (H : Heap) (locs : List Loc) (ls : Array Slot), kI D g σ e_h_goOn_X9 M s.heap M_8 N R H locs → lv_has ls 3 [(0, .ref y)] → W p l e (headSpec wsX9_goOn ({ frames := 1, cells := 0, slots := 0, locals := 22 })).room s m ar below meth c H locs 0 0 Q (F0 m 58 ls []) := by
        intro H locs ls hI hl
        refine lv_aload_n hx hb dX9_goOn_58 rfl (lv_at hl 0 rfl) ?_
        refine lv_aload_n hx hb dX9_goOn_59 rfl (lv_at hl 0 rfl) ?_
        refine h_geti (lo := 0) (hi := 1600) hx hb hts iX9_goOn_X9 hown hK hI g_y (by decide) rfl rfl 6 (by decide) rfl rfl (hts (.fieldLink RX9 199 "CatLeasesModel" "at" "I") (List.mem_of_getElem? (i := 2) rfl)) (fun _ h9 => h9) dX9_goOn_60 (fun v5 e_v5 i_v5 => ?_)
        have q6 : u6_8 = v5 := (e_u6_8).trans e_v5.symm
        subst q6
        refine h_goi hI (by decide) (va_runV (As := [.int u6_8]) (rest := []) ⟨hx, hb, hml, hown, hts⟩ (h_sign_X9 l D g σ Z hZ0 M_8 N R y g_y u6_8 (iv_w (lo' := 0) (hi' := 1700) i_u6_8 (by decide) (by decide))) (cwV 1 hts gX9_goOn_X9_sign rfl rfl rfl (by decide +kernel) ⟨Nat.le_of_ble_eq_true rfl, Nat.le_of_ble_eq_true rfl⟩) (h_preV hZ0 hK hE hI g_y (by decide) rfl) rfl rfl hl.1 rfl (lv_room (Nat.le_of_ble_eq_true rfl)) dX9_goOn_63 ⟨Nat.le_of_ble_eq_true rfl, Nat.le_of_ble_eq_true rfl⟩) (fun r7 M8 N9 R10 H locs q11 z_M8 hI => ?_)
        obtain ⟨rfl, rfl, rfl, i_r7, z12, z13, z14⟩ := q11
        refine lv_istore_n (lv' := [(1, .int r7), (0, .ref y)]) hx hb dX9_goOn_66 rfl hl (by decide) rfl (fun ls hl => ?_)
        refine lv_aload_n hx hb dX9_goOn_67 rfl (lv_at hl 1 rfl) ?_
        refine lv_aload_n hx hb dX9_goOn_68 rfl (lv_at hl 1 rfl) ?_
        refine h_geti (lo := 0) (hi := 1600) hx hb hts iX9_goOn_X9 hown hK hI g_y (by decide) rfl rfl 6 (by decide) rfl rfl (hts (.fieldLink RX9 199 "CatLeasesModel" "at" "I") (List.mem_of_getElem? (i := 2) rfl)) (fun _ h9 => h9) dX9_goOn_69 (fun v15 e_v15 i_v15 => ?_)
        have q16 : u6_8 = v15 := (e_u6_8).trans e_v15.symm
        subst q16
        refine lv_iconst (v := 1) hx hb dX9_goOn_72 (by decide) ?_
        refine lv_iadd hx hb dX9_goOn_73 ?_
        refine h_nm (lo := 1) (hi := 1601) (iv_add i_u6_8 kc_1 (by decide) (by decide) (by decide) (by decide)) (fun v17 e_v17 i_v17 => ?_)
        refine h_puti hx hb hts iX9_goOn_X9 tyX9 tyX9_ok nmX9 hown hK hI g_y (by decide) rfl rfl 7 (by decide) rfl (hts (.fieldLink RX9 196 "CatLeasesModel" "end" "I") (List.mem_of_getElem? (i := 1) rfl)) (fun _ h9 => h9) rfl .int (by decide +kernel) rfl rfl (iv_w (lo' := 0) (hi' := 1601) i_v17 (by decide) (by decide)) rfl dX9_goOn_74 (fun M18 H locs e_M18 hI => ?_)
        refine lv_aload_n hx hb dX9_goOn_77 rfl (lv_at hl 1 rfl) ?_
        refine h_geti (lo := 0) (hi := 1600) hx hb hts iX9_goOn_X9 hown hK hI g_y (by decide) rfl rfl 6 (by decide) rfl rfl (hts (.fieldLink RX9 199 "CatLeasesModel" "at" "I") (List.mem_of_getElem? (i := 2) rfl)) (fun _ h9 => h9) dX9_goOn_78 (fun v19 e_v19 i_v19 => ?_)
        have q20 : u6_8 = v19 := ((e_u6_8).trans (u2_st (a := y) (k := 6) e_M18 (u2_k (by decide))).symm).trans e_v19.symm
        subst q20
        refine lv_aload_n hx hb dX9_goOn_81 rfl (lv_at hl 1 rfl) ?_
        refine h_geti (lo := 0) (hi := 1600) hx hb hts iX9_goOn_X9 hown hK hI g_y (by decide) rfl rfl 3 (by decide) rfl rfl (hts (.fieldLink RX9 152 "CatLeasesModel" "size" "I") (List.mem_of_getElem? (i := 3) rfl)) (fun _ h9 => h9) dX9_goOn_82 (fun v21 e_v21 i_v21 => ?_)
        have q22 : v4 = v21 := ((e_v4).trans (u2_st (a := y) (k := 3) e_M18 (u2_k (by decide))).symm).trans e_v21.symm
        subst q22
        refine lv_icmp_lt (tgt := 112) hx hb dX9_goOn_85 (by decide) (fun c23 => ?_) (fun c23 => ?_)
        · have i24 : iv u6_8 0 1599 := iv_lt1 c23 i_u6_8 i_v4 (by decide)
          have i25 : iv v4 1 1600 := iv_lt2 c23 i_u6_8 i_v4 (by decide)
          refine lv_iload_n hx hb dX9_goOn_112 rfl (lv_at hl 0 rfl) ?_
          refine h_goi hI (by decide) (va_runS (As := [.int r7]) (rest := []) ⟨hx, hb, hml, hown, hts⟩ (h_isLetter_X9 l D g σ Z hZ0 M18 N R r7) (va_cwS 1 hts gX9_goOn_X9_isLetter rfl rfl rfl (by decide +kernel) ⟨Nat.le_of_ble_eq_true rfl, Nat.le_of_ble_eq_true rfl⟩) (h_preS hZ0 hK hE hI) rfl rfl hl.1 rfl (lv_room (Nat.le_of_ble_eq_true rfl)) dX9_goOn_113 ⟨Nat.le_of_ble_eq_true rfl, Nat.le_of_ble_eq_true rfl⟩) (fun r26 M27 N28 R29 H locs q30 z_M27 hI => ?_)
          obtain ⟨rfl, rfl, rfl, i_r26, z31, z32⟩ := q30
          have J119 : ∀ (n : Nat) (M_119 : hM) (u7_119 : Int32) (H : Heap) (locs : List Loc) (ls : Array Slot), kI D g σ e_h_goOn_X9 M s.heap M_119 N R H locs → lv_has ls 3 [(0, .ref y)] → v4 = M_119 y 3 → u6_8 = M_119 y 6 → hAd σ [(9, 3), (9, 4), (101, 999)] M M_119 → u7_119 = M_119 y 7 → iv u7_119 1 1601 → (u6_8.toInt < u7_119.toInt ∧ u7_119.toInt ≤ (M y 3).toInt) → 1602 ≤ u7_119.toInt + (n : Int) → W p l e (headSpec wsX9_goOn ({ frames := 1, cells := 0, slots := 0, locals := 22 })).room s m ar below meth c H locs 0 0 Q (F0 m 119 ls []) := by
            intro n
            induction n with
            | zero => intro M_119 u7_119 H locs ls hI hl k0_119 k1_119 m_AG3_119 e_u7_119 i_u7_119 h_119 hn; exfalso; have hz := i_u7_119; simp only [iv] at hz; omega
            | succ n ih119 =>
              intro M_119 u7_119 H locs ls hI hl k0_119 k1_119 m_AG3_119 e_u7_119 i_u7_119 h_119 hn119
              refine lv_aload_n hx hb dX9_goOn_119 rfl (lv_at hl 0 rfl) ?_
              refine lv_aload_n hx hb dX9_goOn_120 rfl (lv_at hl 0 rfl) ?_
              refine h_geti (lo := 0) (hi := 1601) hx hb hts iX9_goOn_X9 hown hK hI g_y (by decide) rfl rfl 7 (by decide) rfl rfl (hts (.fieldLink RX9 196 "CatLeasesModel" "end" "I") (List.mem_of_getElem? (i := 1) rfl)) (fun _ h9 => h9) dX9_goOn_121 (fun v33 e_v33 i_v33 => ?_)
              have q34 : u7_119 = v33 := (e_u7_119).trans e_v33.symm
              subst q34
              refine h_goi hI (by decide) (va_runV (As := [.int u7_119]) (rest := []) ⟨hx, hb, hml, hown, hts⟩ (h_sign_X9 l D g σ Z hZ0 M_119 N R y g_y u7_119 (iv_w (lo' := 0) (hi' := 1700) i_u7_119 (by decide) (by decide))) (cwV 1 hts gX9_goOn_X9_sign rfl rfl rfl (by decide +kernel) ⟨Nat.le_of_ble_eq_true rfl, Nat.le_of_ble_eq_true rfl⟩) (h_preV hZ0 hK hE hI g_y (by decide) rfl) rfl rfl hl.1 rfl (lv_room (Nat.le_of_ble_eq_true rfl)) dX9_goOn_124 ⟨Nat.le_of_ble_eq_true rfl, Nat.le_of_ble_eq_true rfl⟩) (fun r35 M36 N37 R38 H locs q39 z_M36 hI => ?_)
              obtain ⟨rfl, rfl, rfl, i_r35, z40, z41, z42⟩ := q39
              refine h_goi hI (by decide) (va_runS (As := [.int r35]) (rest := []) ⟨hx, hb, hml, hown, hts⟩ (h_isLetter_X9 l D g σ Z hZ0 M_119 N R r35) (va_cwS 1 hts gX9_goOn_X9_isLetter rfl rfl rfl (by decide +kernel) ⟨Nat.le_of_ble_eq_true rfl, Nat.le_of_ble_eq_true rfl⟩) (h_preS hZ0 hK hE hI) rfl rfl hl.1 rfl (lv_room (Nat.le_of_ble_eq_true rfl)) dX9_goOn_127 ⟨Nat.le_of_ble_eq_true rfl, Nat.le_of_ble_eq_true rfl⟩) (fun r43 M44 N45 R46 H locs q47 z_M44 hI => ?_)
              obtain ⟨rfl, rfl, rfl, i_r43, z48, z49⟩ := q47
              refine lv_if_eq (tgt := 146) hx hb dX9_goOn_130 (by decide) (fun c50 => ?_) (fun c50 => ?_)
              · have i51 : iv r43 0 0 := iv_eq1 c50 i_r43 kc_0
                refine lv_aload_n hx hb dX9_goOn_146 rfl (lv_at hl 0 rfl) ?_
                refine lv_lconst (v := 0) hx hb dX9_goOn_147 (by decide) ?_
                refine h_putl hx hb hts iX9_goOn_X9 tyX9 tyX9_ok nmX9 hown hK hI g_y (by decide) rfl rfl 10 (by decide) rfl (hts (.fieldLink RX9 213 "CatLeasesModel" "name" "J") (List.mem_of_getElem? (i := 5) rfl)) (fun _ h9 => h9) rfl (by decide +kernel) dX9_goOn_148 (fun N52 H locs e_N52 hI => ?_)
                refine lv_aload_n hx hb dX9_goOn_151 rfl (lv_at hl 0 rfl) ?_
                refine h_geti (lo := 0) (hi := 1600) hx hb hts iX9_goOn_X9 hown hK hI g_y (by decide) rfl rfl 6 (by decide) rfl rfl (hts (.fieldLink RX9 199 "CatLeasesModel" "at" "I") (List.mem_of_getElem? (i := 2) rfl)) (fun _ h9 => h9) dX9_goOn_152 (fun v53 e_v53 i_v53 => ?_)
                have q54 : u6_8 = v53 := (k1_119).trans e_v53.symm
                subst q54
                have J156 : ∀ (n : Nat) (N_156 : hN) (v2_156 : Int32) (H : Heap) (locs : List Loc) (ls : Array Slot), kI D g σ e_h_goOn_X9 M s.heap M_119 N_156 R H locs → lv_has ls 3 [(0, .ref y), (2, .int v2_156)] → iv v2_156 0 1601 → 1602 ≤ v2_156.toInt + (n : Int) → W p l e (headSpec wsX9_goOn ({ frames := 1, cells := 0, slots := 0, locals := 22 })).room s m ar below meth c H locs 0 0 Q (F0 m 156 ls []) := by
                  intro n
                  induction n with
                  | zero => intro N_156 v2_156 H locs ls hI hl i_v2_156 hn; exfalso; have hz := i_v2_156; simp only [iv] at hz; omega
                  | succ n ih156 =>
                    intro N_156 v2_156 H locs ls hI hl i_v2_156 hn156
                    refine lv_iload_n hx hb dX9_goOn_156 rfl (lv_at hl 1 rfl) ?_
                    refine lv_aload_n hx hb dX9_goOn_157 rfl (lv_at hl 0 rfl) ?_
                    refine h_geti (lo := 0) (hi := 1601) hx hb hts iX9_goOn_X9 hown hK hI g_y (by decide) rfl rfl 7 (by decide) rfl rfl (hts (.fieldLink RX9 196 "CatLeasesModel" "end" "I") (List.mem_of_getElem? (i := 1) rfl)) (fun _ h9 => h9) dX9_goOn_158 (fun v55 e_v55 i_v55 => ?_)
                    have q56 : u7_119 = v55 := (e_u7_119).trans e_v55.symm
                    subst q56
                    have J199 : ∀ (H : Heap) (locs : List Loc) (ls : Array Slot), kI D g σ e_h_goOn_X9 M s.heap M_119 N_156 R H locs → lv_has ls 3 [(0, .ref y)] → W p l e (headSpec wsX9_goOn ({ frames := 1, cells := 0, slots := 0, locals := 22 })).room s m ar below meth c H locs 0 0 Q (F0 m 199 ls []) := by
                      intro H locs ls hI hl
                      refine lv_aload_n hx hb dX9_goOn_199 rfl (lv_at hl 0 rfl) ?_
                      refine lv_aload_n hx hb dX9_goOn_200 rfl (lv_at hl 0 rfl) ?_
                      refine h_geti (lo := 0) (hi := 1601) hx hb hts iX9_goOn_X9 hown hK hI g_y (by decide) rfl rfl 7 (by decide) rfl rfl (hts (.fieldLink RX9 196 "CatLeasesModel" "end" "I") (List.mem_of_getElem? (i := 1) rfl)) (fun _ h9 => h9) dX9_goOn_201 (fun v57 e_v57 i_v57 => ?_)
                      have q58 : u7_119 = v57 := (e_u7_119).trans e_v57.symm
                      subst q58
                      refine lv_aload_n hx hb dX9_goOn_204 rfl (lv_at hl 0 rfl) ?_
                      refine h_geti (lo := 0) (hi := 1600) hx hb hts iX9_goOn_X9 hown hK hI g_y (by decide) rfl rfl 6 (by decide) rfl rfl (hts (.fieldLink RX9 199 "CatLeasesModel" "at" "I") (List.mem_of_getElem? (i := 2) rfl)) (fun _ h9 => h9) dX9_goOn_205 (fun v59 e_v59 i_v59 => ?_)
                      have q60 : u6_8 = v59 := (k1_119).trans e_v59.symm
                      subst q60
                      refine lv_isub hx hb dX9_goOn_208 ?_
                      refine h_nm (lo := (-1598)) (hi := 1601) (iv_sub i_u7_119 i24 (by decide) (by decide) (by decide) (by decide)) (fun v61 e_v61 i_v61 => ?_)
                      refine lv_bipush (v := 8) hx hb dX9_goOn_209 (by decide) ?_
                      have J233 : ∀ (t1_233 : Int32) (H : Heap) (locs : List Loc) (ls : Array Slot), kI D g σ e_h_goOn_X9 M s.heap M_119 N_156 R H locs → lv_has ls 3 [] → iv t1_233 1 3 → W p l e (headSpec wsX9_goOn ({ frames := 1, cells := 0, slots := 0, locals := 22 })).room s m ar below meth c H locs 0 0 Q (F0 m 233 ls [.int t1_233, .ref y]) := by
                        intro t1_233 H locs ls hI hl i_t1_233
                        refine h_puti hx hb hts iX9_goOn_X9 tyX9 tyX9_ok nmX9 hown hK hI g_y (by decide) rfl rfl 8 (by decide) rfl (hts (.fieldLink RX9 206 "CatLeasesModel" "token" "I") (List.mem_of_getElem? (i := 4) rfl)) (fun _ h9 => h9) rfl .int (by decide +kernel) rfl rfl (iv_w (lo' := (-2147483648)) (hi' := 2147483647) i_t1_233 (by decide) (by decide)) rfl dX9_goOn_233 (fun M62 H locs e_M62 hI => ?_)
                        refine lv_goto (tgt := 377) hx hb dX9_goOn_236 (by decide) ?_
                        have m63 : hAd σ [(9, 3), (9, 4), (101, 999)] M M62 := (AGT_ag hI.2.1 g_y m_AG3_119 (hAd.put e_M62 g_y rfl))
                        have go9 : GO M M62 y := Or.inr ⟨fun h9 => iv_ne i_t1_233 kc_0 (by decide) (((u2_wr e_M62)).trans h9), by rw [← ((e_u7_119).trans (u2_st (a := y) (k := 7) e_M62 (u2_k (by decide))).symm)]; have h9 := h_119.1; have h8 := h_8.1; omega⟩
                        have pi9 : PI M62 y := by unfold PI; rw [← ((e_u7_119).trans (u2_st (a := y) (k := 7) e_M62 (u2_k (by decide))).symm), m63 y 9 3 g_y rfl]; exact h_119.2
                        have pn9 : PN M M62 y := GO_PN go9 (m63 y 9 3 g_y rfl) (m63 y 9 4 g_y rfl) m0_PI pi9
                        exact h_vret hQ hx hb hr hlocks hK hI ⟨rfl, pi9, pn9, go9⟩ dX9_goOn_377
                      refine lv_icmp_le (tgt := 218) hx hb dX9_goOn_211 (by decide) (fun c64 => ?_) (fun c64 => ?_)
                      · have i65 : iv v61 (-1598) 8 := iv_le1 c64 i_v61 kc_8 (by decide)
                        refine lv_aload_n hx hb dX9_goOn_218 rfl (lv_at hl 0 rfl) ?_
                        refine h_getl hx hb hts iX9_goOn_X9 hown hK hI g_y (by decide) rfl rfl 10 (by decide) rfl  (hts (.fieldLink RX9 213 "CatLeasesModel" "name" "J") (List.mem_of_getElem? (i := 5) rfl)) (fun _ h9 => h9) dX9_goOn_219 (fun w66 e_w66 => ?_)
                        refine h_goi hI (by decide) (va_runS (As := [.long w66]) (rest := [.ref y]) ⟨hx, hb, hml, hown, hts⟩ (h_isKept_X9 l D g σ Z hZ0 M_119 N_156 R w66) (va_cwS 1 hts gX9_goOn_X9_isKept rfl rfl rfl (by decide +kernel) ⟨Nat.le_of_ble_eq_true rfl, Nat.le_of_ble_eq_true rfl⟩) (h_preS hZ0 hK hE hI) rfl rfl hl.1 rfl (lv_room (Nat.le_of_ble_eq_true rfl)) dX9_goOn_222 ⟨Nat.le_of_ble_eq_true rfl, Nat.le_of_ble_eq_true rfl⟩) (fun r67 M68 N69 R70 H locs q71 z_M68 hI => ?_)
                        obtain ⟨rfl, rfl, rfl, i_r67⟩ := q71
                        refine lv_if_eq (tgt := 232) hx hb dX9_goOn_225 (by decide) (fun c72 => ?_) (fun c72 => ?_)
                        · have i73 : iv r67 0 0 := iv_eq1 c72 i_r67 kc_0
                          refine lv_iconst (v := 2) hx hb dX9_goOn_232 (by decide) ?_
                          exact J233 (2 : Int32) H locs ls hI (lv_sub hl [] rfl) (iv_w (lo' := 1) (hi' := 3) kc_2 (by decide) (by decide))
                        · have i74 : iv r67 1 1 := iv_neL c72 i_r67 (by decide) (by decide)
                          refine lv_iconst (v := 3) hx hb dX9_goOn_228 (by decide) ?_
                          refine lv_goto (tgt := 233) hx hb dX9_goOn_229 (by decide) ?_
                          exact J233 (3 : Int32) H locs ls hI (lv_sub hl [] rfl) (iv_w (lo' := 1) (hi' := 3) kc_3 (by decide) (by decide))
                      · have i75 : iv v61 9 1601 := iv_nle1 c64 i_v61 kc_8 (by decide)
                        refine lv_iconst (v := 1) hx hb dX9_goOn_214 (by decide) ?_
                        refine lv_goto (tgt := 233) hx hb dX9_goOn_215 (by decide) ?_
                        exact J233 (1 : Int32) H locs ls hI (lv_sub hl [] rfl) (iv_w (lo' := 1) (hi' := 3) kc_1 (by decide) (by decide))
                    refine lv_icmp_ge (tgt := 199) hx hb dX9_goOn_161 (by decide) (fun c76 => ?_) (fun c76 => ?_)
                    · have i77 : iv v2_156 1 1601 := iv_le2 c76 i_u7_119 i_v2_156 (by decide)
                      exact J199 H locs ls hI (lv_sub hl [0] rfl)
                    · have i78 : iv v2_156 0 1600 := iv_nle2 c76 i_u7_119 i_v2_156 (by decide)
                      refine lv_iload_n hx hb dX9_goOn_164 rfl (lv_at hl 1 rfl) ?_
                      refine lv_aload_n hx hb dX9_goOn_165 rfl (lv_at hl 0 rfl) ?_
                      refine h_geti (lo := 0) (hi := 1600) hx hb hts iX9_goOn_X9 hown hK hI g_y (by decide) rfl rfl 6 (by decide) rfl rfl (hts (.fieldLink RX9 199 "CatLeasesModel" "at" "I") (List.mem_of_getElem? (i := 2) rfl)) (fun _ h9 => h9) dX9_goOn_166 (fun v79 e_v79 i_v79 => ?_)
                      have q80 : u6_8 = v79 := (k1_119).trans e_v79.symm
                      subst q80
                      refine lv_bipush (v := 8) hx hb dX9_goOn_169 (by decide) ?_
                      refine lv_iadd hx hb dX9_goOn_171 ?_
                      refine h_nm (lo := 8) (hi := 1607) (iv_add i24 kc_8 (by decide) (by decide) (by decide) (by decide)) (fun v81 e_v81 i_v81 => ?_)
                      refine lv_icmp_ge (tgt := 199) hx hb dX9_goOn_172 (by decide) (fun c82 => ?_) (fun c82 => ?_)
                      · have i83 : iv v81 8 1600 := iv_le1 c82 i_v81 i78 (by decide)
                        have i84 : iv u6_8 0 1592 := iv_back (h_inc e_v81 i24 kc_8 (by decide) (by decide)) i83 i24 (by decide) (by decide)
                        have i85 : iv v2_156 8 1600 := iv_le2 c82 i_v81 i78 (by decide)
                        exact J199 H locs ls hI (lv_sub hl [0] rfl)
                      · refine lv_aload_n hx hb dX9_goOn_175 rfl (lv_at hl 0 rfl) ?_
                        refine lv_aload_n hx hb dX9_goOn_176 rfl (lv_at hl 0 rfl) ?_
                        refine h_getl hx hb hts iX9_goOn_X9 hown hK hI g_y (by decide) rfl rfl 10 (by decide) rfl  (hts (.fieldLink RX9 213 "CatLeasesModel" "name" "J") (List.mem_of_getElem? (i := 5) rfl)) (fun _ h9 => h9) dX9_goOn_177 (fun w86 e_w86 => ?_)
                        refine lv_bipush (v := 8) hx hb dX9_goOn_180 (by decide) ?_
                        obtain ⟨w87, e_w87⟩ : ∃ z : Int64, w86 <<< (Int32.toInt64 (8 : Int32) &&& 63) = z := ⟨_, rfl⟩
                        refine lv_lshl (v := w87) hx hb dX9_goOn_182 e_w87 ?_
                        refine lv_aload_n hx hb dX9_goOn_183 rfl (lv_at hl 0 rfl) ?_
                        refine lv_iload_n hx hb dX9_goOn_184 rfl (lv_at hl 1 rfl) ?_
                        refine h_goi hI (by decide) (va_runV (As := [.int v2_156]) (rest := [.long w87, .ref y]) ⟨hx, hb, hml, hown, hts⟩ (h_sign_X9 l D g σ Z hZ0 M_119 N_156 R y g_y v2_156 (iv_w (lo' := 0) (hi' := 1700) i78 (by decide) (by decide))) (cwV 1 hts gX9_goOn_X9_sign rfl rfl rfl (by decide +kernel) ⟨Nat.le_of_ble_eq_true rfl, Nat.le_of_ble_eq_true rfl⟩) (h_preV hZ0 hK hE hI g_y (by decide) rfl) rfl rfl hl.1 rfl (lv_room (Nat.le_of_ble_eq_true rfl)) dX9_goOn_185 ⟨Nat.le_of_ble_eq_true rfl, Nat.le_of_ble_eq_true rfl⟩) (fun r88 M89 N90 R91 H locs q92 z_M89 hI => ?_)
                        obtain ⟨rfl, rfl, rfl, i_r88, z93, z94, z95⟩ := q92
                        obtain ⟨w96, e_w96⟩ : ∃ z : Int64, r88.toInt64 = z := ⟨_, rfl⟩
                        refine lv_i2l (v := w96) hx hb dX9_goOn_188 e_w96 ?_
                        refine lv_lor hx hb dX9_goOn_189 ?_
                        refine h_nml (fun w97 e_w97 => ?_)
                        refine h_putl hx hb hts iX9_goOn_X9 tyX9 tyX9_ok nmX9 hown hK hI g_y (by decide) rfl rfl 10 (by decide) rfl (hts (.fieldLink RX9 213 "CatLeasesModel" "name" "J") (List.mem_of_getElem? (i := 5) rfl)) (fun _ h9 => h9) rfl (by decide +kernel) dX9_goOn_190 (fun N98 H locs e_N98 hI => ?_)
                        obtain ⟨v99, e_v99⟩ : ∃ z : Int32, z = v2_156 + Int32.ofInt 1 := ⟨_, rfl⟩
                        have i_v99 : iv v99 1 1601 := by rw [e_v99]; exact iv_add i78 (ki_1) (by decide) (by decide) (by decide) (by decide)
                        refine lv_iinc (v := v99) (lv' := [(2, .int v99), (0, .ref y)]) hx hb dX9_goOn_193 hl (k := 1) rfl e_v99.symm (by decide) rfl (fun ls hl => ?_)
                        refine lv_goto (tgt := 156) hx hb dX9_goOn_196 (by decide) ?_
                        exact ih156 N98 v99 H locs ls hI (lv_sub hl [1, 0] rfl) (iv_w (lo' := 0) (hi' := 1601) i_v99 (by decide) (by decide)) (by have h9 := (h_inc e_v99 i78 ki_1 (by decide) (by decide)); omega)
                refine lv_istore_n (lv' := [(2, .int u6_8), (0, .ref y)]) hx hb dX9_goOn_155 rfl hl (by decide) rfl (fun ls hl => ?_)
                exact J156 1602 N52 u6_8 H locs ls hI (lv_sub hl [1, 0] rfl) (iv_w (lo' := 0) (hi' := 1601) i24 (by decide) (by decide)) (by have h9 := i24; simp only [iv] at h9; omega)
              · have i100 : iv r35 97 122 := z48 c50
                have c101 : ¬ r35 = 0 := iv_ne i100 kc_0 (by decide)
                have i102 : iv u7_119 0 1599 := z40 c101
                have i103 : iv r43 1 1 := iv_neL c50 i_r43 (by decide) (by decide)
                refine lv_aload_n hx hb dX9_goOn_133 rfl (lv_at hl 0 rfl) ?_
                refine lv_dup hx hb dX9_goOn_134 rfl ?_
                refine h_geti (lo := 0) (hi := 1601) hx hb hts iX9_goOn_X9 hown hK hI g_y (by decide) rfl rfl 7 (by decide) rfl rfl (hts (.fieldLink RX9 196 "CatLeasesModel" "end" "I") (List.mem_of_getElem? (i := 1) rfl)) (fun _ h9 => h9) dX9_goOn_135 (fun v104 e_v104 i_v104 => ?_)
                have q105 : u7_119 = v104 := (e_u7_119).trans e_v104.symm
                subst q105
                refine lv_iconst (v := 1) hx hb dX9_goOn_138 (by decide) ?_
                refine lv_iadd hx hb dX9_goOn_139 ?_
                refine h_nm (lo := 1) (hi := 1600) (iv_add i102 kc_1 (by decide) (by decide) (by decide) (by decide)) (fun v106 e_v106 i_v106 => ?_)
                refine h_puti hx hb hts iX9_goOn_X9 tyX9 tyX9_ok nmX9 hown hK hI g_y (by decide) rfl rfl 7 (by decide) rfl (hts (.fieldLink RX9 196 "CatLeasesModel" "end" "I") (List.mem_of_getElem? (i := 1) rfl)) (fun _ h9 => h9) rfl .int (by decide +kernel) rfl rfl (iv_w (lo' := 0) (hi' := 1601) i_v106 (by decide) (by decide)) rfl dX9_goOn_140 (fun M107 H locs e_M107 hI => ?_)
                refine lv_goto (tgt := 119) hx hb dX9_goOn_143 (by decide) ?_
                have m108 : hAd σ [(9, 3), (9, 4), (101, 999)] M M107 := (AGT_ag hI.2.1 g_y m_AG3_119 (hAd.put e_M107 g_y rfl))
                exact ih119 M107 v106 H locs ls hI hl ((k0_119).trans (u2_st (a := y) (k := 3) e_M107 (u2_k (by decide))).symm) ((k1_119).trans (u2_st (a := y) (k := 6) e_M107 (u2_k (by decide))).symm) m108 ((u2_wr e_M107)) (iv_w (lo' := 1) (hi' := 1601) i_v106 (by decide) (by decide)) (by have h9 := (h_inc e_v106 i102 kc_1 (by decide) (by decide)); have h8 := (z41 c101); rw [m_AG3_119 y 9 3 g_y rfl] at h8; omega) (by have h9 := (h_inc e_v106 i102 kc_1 (by decide) (by decide)); omega)
          refine lv_if_eq (tgt := 239) hx hb dX9_goOn_116 (by decide) (fun c109 => ?_) (fun c109 => ?_)
          · have i110 : iv r26 0 0 := iv_eq1 c109 i_r26 kc_0
            refine lv_iload_n hx hb dX9_goOn_239 rfl (lv_at hl 0 rfl) ?_
            refine h_goi hI (by decide) (va_runS (As := [.int r7]) (rest := []) ⟨hx, hb, hml, hown, hts⟩ (h_isDigit_X9 l D g σ Z hZ0 M18 N R r7) (va_cwS 1 hts gX9_goOn_X9_isDigit rfl rfl rfl (by decide +kernel) ⟨Nat.le_of_ble_eq_true rfl, Nat.le_of_ble_eq_true rfl⟩) (h_preS hZ0 hK hE hI) rfl rfl hl.1 rfl (lv_room (Nat.le_of_ble_eq_true rfl)) dX9_goOn_240 ⟨Nat.le_of_ble_eq_true rfl, Nat.le_of_ble_eq_true rfl⟩) (fun r111 M112 N113 R114 H locs q115 z_M112 hI => ?_)
            obtain ⟨rfl, rfl, rfl, i_r111, z116, z117⟩ := q115
            refine lv_if_eq (tgt := 361) hx hb dX9_goOn_243 (by decide) (fun c118 => ?_) (fun c118 => ?_)
            · have i119 : iv r111 0 0 := iv_eq1 c118 i_r111 kc_0
              refine lv_aload_n hx hb dX9_goOn_361 rfl (lv_at hl 1 rfl) ?_
              refine lv_iload_n hx hb dX9_goOn_362 rfl (lv_at hl 0 rfl) ?_
              refine h_goi hI (by decide) (va_runS (As := [.int r7]) (rest := [.ref y]) ⟨hx, hb, hml, hown, hts⟩ (h_isSign_X9 l D g σ Z hZ0 M18 N R r7) (va_cwS 1 hts gX9_goOn_X9_isSign rfl rfl rfl (by decide +kernel) ⟨Nat.le_of_ble_eq_true rfl, Nat.le_of_ble_eq_true rfl⟩) (h_preS hZ0 hK hE hI) rfl rfl hl.1 rfl (lv_room (Nat.le_of_ble_eq_true rfl)) dX9_goOn_363 ⟨Nat.le_of_ble_eq_true rfl, Nat.le_of_ble_eq_true rfl⟩) (fun r120 M121 N122 R123 H locs q124 z_M121 hI => ?_)
              obtain ⟨rfl, rfl, rfl, i_r120⟩ := q124
              have J374 : ∀ (t1_374 : Int32) (H : Heap) (locs : List Loc) (ls : Array Slot), kI D g σ e_h_goOn_X9 M s.heap M18 N R H locs → lv_has ls 3 [] → iv t1_374 1 5 → W p l e (headSpec wsX9_goOn ({ frames := 1, cells := 0, slots := 0, locals := 22 })).room s m ar below meth c H locs 0 0 Q (F0 m 374 ls [.int t1_374, .ref y]) := by
                intro t1_374 H locs ls hI hl i_t1_374
                refine h_puti hx hb hts iX9_goOn_X9 tyX9 tyX9_ok nmX9 hown hK hI g_y (by decide) rfl rfl 8 (by decide) rfl (hts (.fieldLink RX9 206 "CatLeasesModel" "token" "I") (List.mem_of_getElem? (i := 4) rfl)) (fun _ h9 => h9) rfl .int (by decide +kernel) rfl rfl (iv_w (lo' := (-2147483648)) (hi' := 2147483647) i_t1_374 (by decide) (by decide)) rfl dX9_goOn_374 (fun M125 H locs e_M125 hI => ?_)
                have m126 : hAd σ [(9, 3), (9, 4), (101, 999)] M M125 := (AGT_ag hI.2.1 g_y (AGT_ag hI.2.1 g_y m_AG3_8 (hAd.put e_M18 g_y rfl)) (hAd.put e_M125 g_y rfl))
                have lt9 : u6_8.toInt < v17.toInt := by have h9 := (h_inc e_v17 i_u6_8 kc_1 (by decide) (by decide)); omega
                have le9 : v17.toInt ≤ (M y 3).toInt := by have h9 := (h_inc e_v17 i_u6_8 kc_1 (by decide) (by decide)); have h8 := Int32.lt_iff_toInt_lt.mp c23; rw [(show v4 = M y 3 from e_v4.trans (m_AG3_8 y 9 3 g_y rfl))] at h8; omega
                have go9 : GO M M125 y := Or.inr ⟨fun h9 => iv_ne i_t1_374 kc_0 (by decide) (((u2_wr e_M125)).trans h9), by rw [← (((u2_wr e_M18)).trans (u2_st (a := y) (k := 7) e_M125 (u2_k (by decide))).symm)]; have h9 := lt9; have h8 := h_8.1; omega⟩
                have pi9 : PI M125 y := by unfold PI; rw [← (((u2_wr e_M18)).trans (u2_st (a := y) (k := 7) e_M125 (u2_k (by decide))).symm), m126 y 9 3 g_y rfl]; exact le9
                have pn9 : PN M M125 y := GO_PN go9 (m126 y 9 3 g_y rfl) (m126 y 9 4 g_y rfl) m0_PI pi9
                exact h_vret hQ hx hb hr hlocks hK hI ⟨rfl, pi9, pn9, go9⟩ dX9_goOn_377
              refine lv_if_eq (tgt := 373) hx hb dX9_goOn_366 (by decide) (fun c127 => ?_) (fun c127 => ?_)
              · have i128 : iv r120 0 0 := iv_eq1 c127 i_r120 kc_0
                refine lv_iconst (v := 1) hx hb dX9_goOn_373 (by decide) ?_
                exact J374 (1 : Int32) H locs ls hI (lv_sub hl [] rfl) (iv_w (lo' := 1) (hi' := 5) kc_1 (by decide) (by decide))
              · have i129 : iv r120 1 1 := iv_neL c127 i_r120 (by decide) (by decide)
                refine lv_iconst (v := 5) hx hb dX9_goOn_369 (by decide) ?_
                refine lv_goto (tgt := 374) hx hb dX9_goOn_370 (by decide) ?_
                exact J374 (5 : Int32) H locs ls hI (lv_sub hl [] rfl) (iv_w (lo' := 1) (hi' := 5) kc_5 (by decide) (by decide))
            · have i130 : iv r7 48 57 := z116 c118
              have c131 : ¬ r7 = 0 := iv_ne i130 kc_0 (by decide)
              have i132 : iv r111 1 1 := iv_neL c118 i_r111 (by decide) (by decide)
              refine lv_aload_n hx hb dX9_goOn_246 rfl (lv_at hl 1 rfl) ?_
              refine lv_iconst (v := 0) hx hb dX9_goOn_247 (by decide) ?_
              refine h_puti hx hb hts iX9_goOn_X9 tyX9 tyX9_ok nmX9 hown hK hI g_y (by decide) rfl rfl 9 (by decide) rfl (hts (.fieldLink RX9 224 "CatLeasesModel" "number" "I") (List.mem_of_getElem? (i := 6) rfl)) (fun _ h9 => h9) rfl .int (by decide +kernel) rfl rfl (iv_w (lo' := (-2147483648)) (hi' := 2147483647) kc_0 (by decide) (by decide)) rfl dX9_goOn_248 (fun M133 H locs e_M133 hI => ?_)
              refine lv_aload_n hx hb dX9_goOn_251 rfl (lv_at hl 1 rfl) ?_
              refine lv_aload_n hx hb dX9_goOn_252 rfl (lv_at hl 1 rfl) ?_
              refine h_geti (lo := 0) (hi := 1600) hx hb hts iX9_goOn_X9 hown hK hI g_y (by decide) rfl rfl 6 (by decide) rfl rfl (hts (.fieldLink RX9 199 "CatLeasesModel" "at" "I") (List.mem_of_getElem? (i := 2) rfl)) (fun _ h9 => h9) dX9_goOn_253 (fun v134 e_v134 i_v134 => ?_)
              have q135 : u6_8 = v134 := (((e_u6_8).trans (u2_st (a := y) (k := 6) e_M18 (u2_k (by decide))).symm).trans (u2_st (a := y) (k := 6) e_M133 (u2_k (by decide))).symm).trans e_v134.symm
              subst q135
              have J259 : ∀ (n : Nat) (M_259 : hM) (u7_259 : Int32) (H : Heap) (locs : List Loc) (ls : Array Slot), kI D g σ e_h_goOn_X9 M s.heap M_259 N R H locs → lv_has ls 3 [(0, .ref y)] → v4 = M_259 y 3 → u6_8 = M_259 y 6 → hAd σ [(9, 3), (9, 4), (101, 999)] M M_259 → u7_259 = M_259 y 7 → iv u7_259 0 1600 → (u6_8.toInt ≤ u7_259.toInt ∧ u7_259.toInt ≤ (M y 3).toInt ∧ (u7_259.toInt = u6_8.toInt → iv (SG M R y u6_8) 48 57)) → 1601 ≤ u7_259.toInt + (n : Int) → W p l e (headSpec wsX9_goOn ({ frames := 1, cells := 0, slots := 0, locals := 22 })).room s m ar below meth c H locs 0 0 Q (F0 m 259 ls []) := by
                intro n
                induction n with
                | zero => intro M_259 u7_259 H locs ls hI hl k0_259 k1_259 m_AG3_259 e_u7_259 i_u7_259 h_259 hn; exfalso; have hz := i_u7_259; simp only [iv] at hz; omega
                | succ n ih259 =>
                  intro M_259 u7_259 H locs ls hI hl k0_259 k1_259 m_AG3_259 e_u7_259 i_u7_259 h_259 hn259
                  refine lv_aload_n hx hb dX9_goOn_259 rfl (lv_at hl 0 rfl) ?_
                  refine lv_aload_n hx hb dX9_goOn_260 rfl (lv_at hl 0 rfl) ?_
                  refine h_geti (lo := 0) (hi := 1601) hx hb hts iX9_goOn_X9 hown hK hI g_y (by decide) rfl rfl 7 (by decide) rfl rfl (hts (.fieldLink RX9 196 "CatLeasesModel" "end" "I") (List.mem_of_getElem? (i := 1) rfl)) (fun _ h9 => h9) dX9_goOn_261 (fun v136 e_v136 i_v136 => ?_)
                  have q137 : u7_259 = v136 := (e_u7_259).trans e_v136.symm
                  subst q137
                  refine h_goi hI (by decide) (va_runV (As := [.int u7_259]) (rest := []) ⟨hx, hb, hml, hown, hts⟩ (h_sign_X9 l D g σ Z hZ0 M_259 N R y g_y u7_259 (iv_w (lo' := 0) (hi' := 1700) i_u7_259 (by decide) (by decide))) (cwV 1 hts gX9_goOn_X9_sign rfl rfl rfl (by decide +kernel) ⟨Nat.le_of_ble_eq_true rfl, Nat.le_of_ble_eq_true rfl⟩) (h_preV hZ0 hK hE hI g_y (by decide) rfl) rfl rfl hl.1 rfl (lv_room (Nat.le_of_ble_eq_true rfl)) dX9_goOn_264 ⟨Nat.le_of_ble_eq_true rfl, Nat.le_of_ble_eq_true rfl⟩) (fun r138 M139 N140 R141 H locs q142 z_M139 hI => ?_)
                  obtain ⟨rfl, rfl, rfl, i_r138, z143, z144, z145⟩ := q142
                  refine h_goi hI (by decide) (va_runS (As := [.int r138]) (rest := []) ⟨hx, hb, hml, hown, hts⟩ (h_isDigit_X9 l D g σ Z hZ0 M_259 N R r138) (va_cwS 1 hts gX9_goOn_X9_isDigit rfl rfl rfl (by decide +kernel) ⟨Nat.le_of_ble_eq_true rfl, Nat.le_of_ble_eq_true rfl⟩) (h_preS hZ0 hK hE hI) rfl rfl hl.1 rfl (lv_room (Nat.le_of_ble_eq_true rfl)) dX9_goOn_267 ⟨Nat.le_of_ble_eq_true rfl, Nat.le_of_ble_eq_true rfl⟩) (fun r146 M147 N148 R149 H locs q150 z_M147 hI => ?_)
                  obtain ⟨rfl, rfl, rfl, i_r146, z151, z152⟩ := q150
                  refine lv_if_eq (tgt := 322) hx hb dX9_goOn_270 (by decide) (fun c153 => ?_) (fun c153 => ?_)
                  · have i154 : iv r146 0 0 := iv_eq1 c153 i_r146 kc_0
                    have dg9 : u6_8.toInt < u7_259.toInt := by
                      have h9 := h_259.1
                      by_cases h8 : u7_259.toInt = u6_8.toInt
                      · exfalso; have h7 := h_259.2.2 h8; have h6 := Int32.toInt_inj.mp h8; exact (z152 c153) (by rw [z145, SG_ag hI.2.1 g_y (m_AG3_259.sub (by decide)), h6]; exact h7)
                      · omega
                    refine lv_aload_n hx hb dX9_goOn_322 rfl (lv_at hl 0 rfl) ?_
                    refine lv_aload_n hx hb dX9_goOn_323 rfl (lv_at hl 0 rfl) ?_
                    refine h_geti (lo := 0) (hi := 1601) hx hb hts iX9_goOn_X9 hown hK hI g_y (by decide) rfl rfl 7 (by decide) rfl rfl (hts (.fieldLink RX9 196 "CatLeasesModel" "end" "I") (List.mem_of_getElem? (i := 1) rfl)) (fun _ h9 => h9) dX9_goOn_324 (fun v155 e_v155 i_v155 => ?_)
                    have q156 : u7_259 = v155 := (e_u7_259).trans e_v155.symm
                    subst q156
                    refine lv_aload_n hx hb dX9_goOn_327 rfl (lv_at hl 0 rfl) ?_
                    refine h_geti (lo := 0) (hi := 1600) hx hb hts iX9_goOn_X9 hown hK hI g_y (by decide) rfl rfl 6 (by decide) rfl rfl (hts (.fieldLink RX9 199 "CatLeasesModel" "at" "I") (List.mem_of_getElem? (i := 2) rfl)) (fun _ h9 => h9) dX9_goOn_328 (fun v157 e_v157 i_v157 => ?_)
                    have q158 : u6_8 = v157 := (k1_259).trans e_v157.symm
                    subst q158
                    refine lv_isub hx hb dX9_goOn_331 ?_
                    refine h_nm (lo := (-1599)) (hi := 1600) (iv_sub i_u7_259 i24 (by decide) (by decide) (by decide) (by decide)) (fun v159 e_v159 i_v159 => ?_)
                    refine lv_iconst (v := 4) hx hb dX9_goOn_332 (by decide) ?_
                    have J355 : ∀ (t1_355 : Int32) (H : Heap) (locs : List Loc) (ls : Array Slot), kI D g σ e_h_goOn_X9 M s.heap M_259 N R H locs → lv_has ls 3 [] → iv t1_355 1 4 → W p l e (headSpec wsX9_goOn ({ frames := 1, cells := 0, slots := 0, locals := 22 })).room s m ar below meth c H locs 0 0 Q (F0 m 355 ls [.int t1_355, .ref y]) := by
                      intro t1_355 H locs ls hI hl i_t1_355
                      refine h_puti hx hb hts iX9_goOn_X9 tyX9 tyX9_ok nmX9 hown hK hI g_y (by decide) rfl rfl 8 (by decide) rfl (hts (.fieldLink RX9 206 "CatLeasesModel" "token" "I") (List.mem_of_getElem? (i := 4) rfl)) (fun _ h9 => h9) rfl .int (by decide +kernel) rfl rfl (iv_w (lo' := (-2147483648)) (hi' := 2147483647) i_t1_355 (by decide) (by decide)) rfl dX9_goOn_355 (fun M160 H locs e_M160 hI => ?_)
                      refine lv_goto (tgt := 377) hx hb dX9_goOn_358 (by decide) ?_
                      have m161 : hAd σ [(9, 3), (9, 4), (101, 999)] M M160 := (AGT_ag hI.2.1 g_y m_AG3_259 (hAd.put e_M160 g_y rfl))
                      have go9 : GO M M160 y := Or.inr ⟨fun h9 => iv_ne i_t1_355 kc_0 (by decide) (((u2_wr e_M160)).trans h9), by rw [← ((e_u7_259).trans (u2_st (a := y) (k := 7) e_M160 (u2_k (by decide))).symm)]; have h9 := dg9; have h8 := h_8.1; omega⟩
                      have pi9 : PI M160 y := by unfold PI; rw [← ((e_u7_259).trans (u2_st (a := y) (k := 7) e_M160 (u2_k (by decide))).symm), m161 y 9 3 g_y rfl]; exact h_259.2.1
                      have pn9 : PN M M160 y := GO_PN go9 (m161 y 9 3 g_y rfl) (m161 y 9 4 g_y rfl) m0_PI pi9
                      exact h_vret hQ hx hb hr hlocks hK hI ⟨rfl, pi9, pn9, go9⟩ dX9_goOn_377
                    have J350 : ∀ (H : Heap) (locs : List Loc) (ls : Array Slot), kI D g σ e_h_goOn_X9 M s.heap M_259 N R H locs → lv_has ls 3 [] → W p l e (headSpec wsX9_goOn ({ frames := 1, cells := 0, slots := 0, locals := 22 })).room s m ar below meth c H locs 0 0 Q (F0 m 350 ls [.ref y]) := by
                      intro H locs ls hI hl
                      refine lv_iconst (v := 1) hx hb dX9_goOn_350 (by decide) ?_
                      refine lv_goto (tgt := 355) hx hb dX9_goOn_351 (by decide) ?_
                      exact J355 (1 : Int32) H locs ls hI hl (iv_w (lo' := 1) (hi' := 4) kc_1 (by decide) (by decide))
                    refine lv_icmp_gt (tgt := 350) hx hb dX9_goOn_333 (by decide) (fun c162 => ?_) (fun c162 => ?_)
                    · have i163 : iv v159 5 1600 := iv_lt2 c162 kc_4 i_v159 (by decide)
                      exact J350 H locs ls hI (lv_sub hl [] rfl)
                    · have i164 : iv v159 (-1599) 4 := iv_nlt2 c162 kc_4 i_v159 (by decide)
                      refine lv_aload_n hx hb dX9_goOn_336 rfl (lv_at hl 0 rfl) ?_
                      refine lv_aload_n hx hb dX9_goOn_337 rfl (lv_at hl 0 rfl) ?_
                      refine h_geti (lo := 0) (hi := 1601) hx hb hts iX9_goOn_X9 hown hK hI g_y (by decide) rfl rfl 7 (by decide) rfl rfl (hts (.fieldLink RX9 196 "CatLeasesModel" "end" "I") (List.mem_of_getElem? (i := 1) rfl)) (fun _ h9 => h9) dX9_goOn_338 (fun v165 e_v165 i_v165 => ?_)
                      have q166 : u7_259 = v165 := (e_u7_259).trans e_v165.symm
                      subst q166
                      refine h_goi hI (by decide) (va_runV (As := [.int u7_259]) (rest := [.ref y]) ⟨hx, hb, hml, hown, hts⟩ (h_sign_X9 l D g σ Z hZ0 M_259 N R y g_y u7_259 (iv_w (lo' := 0) (hi' := 1700) i_u7_259 (by decide) (by decide))) (cwV 1 hts gX9_goOn_X9_sign rfl rfl rfl (by decide +kernel) ⟨Nat.le_of_ble_eq_true rfl, Nat.le_of_ble_eq_true rfl⟩) (h_preV hZ0 hK hE hI g_y (by decide) rfl) rfl rfl hl.1 rfl (lv_room (Nat.le_of_ble_eq_true rfl)) dX9_goOn_341 ⟨Nat.le_of_ble_eq_true rfl, Nat.le_of_ble_eq_true rfl⟩) (fun r167 M168 N169 R170 H locs q171 z_M168 hI => ?_)
                      obtain ⟨rfl, rfl, rfl, i_r167, z172, z173, z174⟩ := q171
                      refine h_goi hI (by decide) (va_runS (As := [.int r167]) (rest := [.ref y]) ⟨hx, hb, hml, hown, hts⟩ (h_isLetter_X9 l D g σ Z hZ0 M_259 N R r167) (va_cwS 1 hts gX9_goOn_X9_isLetter rfl rfl rfl (by decide +kernel) ⟨Nat.le_of_ble_eq_true rfl, Nat.le_of_ble_eq_true rfl⟩) (h_preS hZ0 hK hE hI) rfl rfl hl.1 rfl (lv_room (Nat.le_of_ble_eq_true rfl)) dX9_goOn_344 ⟨Nat.le_of_ble_eq_true rfl, Nat.le_of_ble_eq_true rfl⟩) (fun r175 M176 N177 R178 H locs q179 z_M176 hI => ?_)
                      obtain ⟨rfl, rfl, rfl, i_r175, z180, z181⟩ := q179
                      refine lv_if_eq (tgt := 354) hx hb dX9_goOn_347 (by decide) (fun c182 => ?_) (fun c182 => ?_)
                      · have i183 : iv r175 0 0 := iv_eq1 c182 i_r175 kc_0
                        refine lv_iconst (v := 4) hx hb dX9_goOn_354 (by decide) ?_
                        exact J355 (4 : Int32) H locs ls hI (lv_sub hl [] rfl) (iv_w (lo' := 1) (hi' := 4) kc_4 (by decide) (by decide))
                      · have i184 : iv r167 97 122 := z180 c182
                        have c185 : ¬ r167 = 0 := iv_ne i184 kc_0 (by decide)
                        have i186 : iv u7_259 0 1599 := z172 c185
                        have i187 : iv r175 1 1 := iv_neL c182 i_r175 (by decide) (by decide)
                        exact J350 H locs ls hI (lv_sub hl [] rfl)
                  · have i188 : iv r138 48 57 := z151 c153
                    have c189 : ¬ r138 = 0 := iv_ne i188 kc_0 (by decide)
                    have i190 : iv u7_259 0 1599 := z143 c189
                    have i191 : iv r146 1 1 := iv_neL c153 i_r146 (by decide) (by decide)
                    refine lv_aload_n hx hb dX9_goOn_273 rfl (lv_at hl 0 rfl) ?_
                    refine h_geti (lo := 0) (hi := 1601) hx hb hts iX9_goOn_X9 hown hK hI g_y (by decide) rfl rfl 7 (by decide) rfl rfl (hts (.fieldLink RX9 196 "CatLeasesModel" "end" "I") (List.mem_of_getElem? (i := 1) rfl)) (fun _ h9 => h9) dX9_goOn_274 (fun v192 e_v192 i_v192 => ?_)
                    have q193 : u7_259 = v192 := (e_u7_259).trans e_v192.symm
                    subst q193
                    refine lv_aload_n hx hb dX9_goOn_277 rfl (lv_at hl 0 rfl) ?_
                    refine h_geti (lo := 0) (hi := 1600) hx hb hts iX9_goOn_X9 hown hK hI g_y (by decide) rfl rfl 6 (by decide) rfl rfl (hts (.fieldLink RX9 199 "CatLeasesModel" "at" "I") (List.mem_of_getElem? (i := 2) rfl)) (fun _ h9 => h9) dX9_goOn_278 (fun v194 e_v194 i_v194 => ?_)
                    have q195 : u6_8 = v194 := (k1_259).trans e_v194.symm
                    subst q195
                    refine lv_isub hx hb dX9_goOn_281 ?_
                    refine h_nm (lo := (-1599)) (hi := 1599) (iv_sub i190 i24 (by decide) (by decide) (by decide) (by decide)) (fun v196 e_v196 i_v196 => ?_)
                    refine lv_iconst (v := 4) hx hb dX9_goOn_282 (by decide) ?_
                    have J309 : ∀ (M_309 : hM) (H : Heap) (locs : List Loc) (ls : Array Slot), kI D g σ e_h_goOn_X9 M s.heap M_309 N R H locs → lv_has ls 3 [(0, .ref y)] → v4 = M_309 y 3 → u6_8 = M_309 y 6 → u7_259 = M_309 y 7 → hAd σ [(9, 3), (9, 4), (101, 999)] M M_309 → W p l e (headSpec wsX9_goOn ({ frames := 1, cells := 0, slots := 0, locals := 22 })).room s m ar below meth c H locs 0 0 Q (F0 m 309 ls []) := by
                      intro M_309 H locs ls hI hl k0_309 k1_309 k2_309 m_AG3_309
                      refine lv_aload_n hx hb dX9_goOn_309 rfl (lv_at hl 0 rfl) ?_
                      refine lv_dup hx hb dX9_goOn_310 rfl ?_
                      refine h_geti (lo := 0) (hi := 1601) hx hb hts iX9_goOn_X9 hown hK hI g_y (by decide) rfl rfl 7 (by decide) rfl rfl (hts (.fieldLink RX9 196 "CatLeasesModel" "end" "I") (List.mem_of_getElem? (i := 1) rfl)) (fun _ h9 => h9) dX9_goOn_311 (fun v197 e_v197 i_v197 => ?_)
                      have q198 : u7_259 = v197 := (k2_309).trans e_v197.symm
                      subst q198
                      refine lv_iconst (v := 1) hx hb dX9_goOn_314 (by decide) ?_
                      refine lv_iadd hx hb dX9_goOn_315 ?_
                      refine h_nm (lo := 1) (hi := 1600) (iv_add i190 kc_1 (by decide) (by decide) (by decide) (by decide)) (fun v199 e_v199 i_v199 => ?_)
                      refine h_puti hx hb hts iX9_goOn_X9 tyX9 tyX9_ok nmX9 hown hK hI g_y (by decide) rfl rfl 7 (by decide) rfl (hts (.fieldLink RX9 196 "CatLeasesModel" "end" "I") (List.mem_of_getElem? (i := 1) rfl)) (fun _ h9 => h9) rfl .int (by decide +kernel) rfl rfl (iv_w (lo' := 0) (hi' := 1601) i_v199 (by decide) (by decide)) rfl dX9_goOn_316 (fun M200 H locs e_M200 hI => ?_)
                      refine lv_goto (tgt := 259) hx hb dX9_goOn_319 (by decide) ?_
                      have m201 : hAd σ [(9, 3), (9, 4), (101, 999)] M M200 := (AGT_ag hI.2.1 g_y m_AG3_309 (hAd.put e_M200 g_y rfl))
                      exact ih259 M200 v199 H locs ls hI hl ((k0_309).trans (u2_st (a := y) (k := 3) e_M200 (u2_k (by decide))).symm) ((k1_309).trans (u2_st (a := y) (k := 6) e_M200 (u2_k (by decide))).symm) m201 ((u2_wr e_M200)) (iv_w (lo' := 0) (hi' := 1600) i_v199 (by decide) (by decide)) (by have h9 := (h_inc e_v199 i190 kc_1 (by decide) (by decide)); have h8 := (z144 c189); rw [m_AG3_259 y 9 3 g_y rfl] at h8; exact ⟨by omega, by omega, fun h7 => by omega⟩) (by have h9 := (h_inc e_v199 i190 kc_1 (by decide) (by decide)); omega)
                    refine lv_icmp_ge (tgt := 309) hx hb dX9_goOn_283 (by decide) (fun c202 => ?_) (fun c202 => ?_)
                    · have i203 : iv v196 4 1599 := iv_le2 c202 kc_4 i_v196 (by decide)
                      exact J309 M_259 H locs ls hI hl (k0_259) (k1_259) (e_u7_259) m_AG3_259
                    · have i204 : iv v196 (-1599) 3 := iv_nle2 c202 kc_4 i_v196 (by decide)
                      refine lv_aload_n hx hb dX9_goOn_286 rfl (lv_at hl 0 rfl) ?_
                      refine lv_bipush (v := 10) hx hb dX9_goOn_287 (by decide) ?_
                      refine lv_aload_n hx hb dX9_goOn_289 rfl (lv_at hl 0 rfl) ?_
                      refine h_geti (lo := (-2147483648)) (hi := 2147483647) hx hb hts iX9_goOn_X9 hown hK hI g_y (by decide) rfl rfl 9 (by decide) rfl rfl (hts (.fieldLink RX9 224 "CatLeasesModel" "number" "I") (List.mem_of_getElem? (i := 6) rfl)) (fun _ h9 => h9) dX9_goOn_290 (fun v205 e_v205 i_v205 => ?_)
                      refine lv_imul hx hb dX9_goOn_293 ?_
                      refine h_nm (lo := (-2147483648)) (hi := 2147483647) (iv_any _) (fun v206 e_v206 i_v206 => ?_)
                      refine lv_aload_n hx hb dX9_goOn_294 rfl (lv_at hl 0 rfl) ?_
                      refine lv_aload_n hx hb dX9_goOn_295 rfl (lv_at hl 0 rfl) ?_
                      refine h_geti (lo := 0) (hi := 1601) hx hb hts iX9_goOn_X9 hown hK hI g_y (by decide) rfl rfl 7 (by decide) rfl rfl (hts (.fieldLink RX9 196 "CatLeasesModel" "end" "I") (List.mem_of_getElem? (i := 1) rfl)) (fun _ h9 => h9) dX9_goOn_296 (fun v207 e_v207 i_v207 => ?_)
                      have q208 : u7_259 = v207 := (e_u7_259).trans e_v207.symm
                      subst q208
                      refine h_goi hI (by decide) (va_runV (As := [.int u7_259]) (rest := [.int v206, .ref y]) ⟨hx, hb, hml, hown, hts⟩ (h_sign_X9 l D g σ Z hZ0 M_259 N R y g_y u7_259 (iv_w (lo' := 0) (hi' := 1700) i190 (by decide) (by decide))) (cwV 1 hts gX9_goOn_X9_sign rfl rfl rfl (by decide +kernel) ⟨Nat.le_of_ble_eq_true rfl, Nat.le_of_ble_eq_true rfl⟩) (h_preV hZ0 hK hE hI g_y (by decide) rfl) rfl rfl hl.1 rfl (lv_room (Nat.le_of_ble_eq_true rfl)) dX9_goOn_299 ⟨Nat.le_of_ble_eq_true rfl, Nat.le_of_ble_eq_true rfl⟩) (fun r209 M210 N211 R212 H locs q213 z_M210 hI => ?_)
                      obtain ⟨rfl, rfl, rfl, i_r209, z214, z215, z216⟩ := q213
                      refine lv_iadd hx hb dX9_goOn_302 ?_
                      refine h_nm (lo := (-2147483648)) (hi := 2147483647) (iv_any _) (fun v217 e_v217 i_v217 => ?_)
                      refine lv_bipush (v := 48) hx hb dX9_goOn_303 (by decide) ?_
                      refine lv_isub hx hb dX9_goOn_305 ?_
                      refine h_nm (lo := (-2147483648)) (hi := 2147483647) (iv_any _) (fun v218 e_v218 i_v218 => ?_)
                      refine h_puti hx hb hts iX9_goOn_X9 tyX9 tyX9_ok nmX9 hown hK hI g_y (by decide) rfl rfl 9 (by decide) rfl (hts (.fieldLink RX9 224 "CatLeasesModel" "number" "I") (List.mem_of_getElem? (i := 6) rfl)) (fun _ h9 => h9) rfl .int (by decide +kernel) rfl rfl i_v218 rfl dX9_goOn_306 (fun M219 H locs e_M219 hI => ?_)
                      have m220 : hAd σ [(9, 3), (9, 4), (101, 999)] M M219 := (AGT_ag hI.2.1 g_y m_AG3_259 (hAd.put e_M219 g_y rfl))
                      exact J309 M219 H locs ls hI hl ((k0_259).trans (u2_st (a := y) (k := 3) e_M219 (u2_k (by decide))).symm) ((k1_259).trans (u2_st (a := y) (k := 6) e_M219 (u2_k (by decide))).symm) ((e_u7_259).trans (u2_st (a := y) (k := 7) e_M219 (u2_k (by decide))).symm) m220
              refine h_puti hx hb hts iX9_goOn_X9 tyX9 tyX9_ok nmX9 hown hK hI g_y (by decide) rfl rfl 7 (by decide) rfl (hts (.fieldLink RX9 196 "CatLeasesModel" "end" "I") (List.mem_of_getElem? (i := 1) rfl)) (fun _ h9 => h9) rfl .int (by decide +kernel) rfl rfl (iv_w (lo' := 0) (hi' := 1601) i24 (by decide) (by decide)) rfl dX9_goOn_256 (fun M221 H locs e_M221 hI => ?_)
              have m222 : hAd σ [(9, 3), (9, 4), (101, 999)] M M221 := (AGT_ag hI.2.1 g_y (AGT_ag hI.2.1 g_y (AGT_ag hI.2.1 g_y m_AG3_8 (hAd.put e_M18 g_y rfl)) (hAd.put e_M133 g_y rfl)) (hAd.put e_M221 g_y rfl))
              exact J259 1601 M221 u6_8 H locs ls hI (lv_sub hl [1] rfl) ((((e_v4).trans (u2_st (a := y) (k := 3) e_M18 (u2_k (by decide))).symm).trans (u2_st (a := y) (k := 3) e_M133 (u2_k (by decide))).symm).trans (u2_st (a := y) (k := 3) e_M221 (u2_k (by decide))).symm) ((((e_u6_8).trans (u2_st (a := y) (k := 6) e_M18 (u2_k (by decide))).symm).trans (u2_st (a := y) (k := 6) e_M133 (u2_k (by decide))).symm).trans (u2_st (a := y) (k := 6) e_M221 (u2_k (by decide))).symm) m222 ((u2_wr e_M221)) (iv_w (lo' := 0) (hi' := 1600) i24 (by decide) (by decide)) ⟨by omega, by have h8 := Int32.lt_iff_toInt_lt.mp c23; rw [(show v4 = M y 3 from e_v4.trans (m_AG3_8 y 9 3 g_y rfl))] at h8; omega, fun _ => by rw [← SG_ag hI.2.1 g_y (m_AG3_8.sub (by decide)), ← z14]; exact i130⟩ (by have h9 := i24; simp only [iv] at h9; omega)
          · have i223 : iv r7 97 122 := z31 c109
            have c224 : ¬ r7 = 0 := iv_ne i223 kc_0 (by decide)
            have i225 : iv r26 1 1 := iv_neL c109 i_r26 (by decide) (by decide)
            have m226 : hAd σ [(9, 3), (9, 4), (101, 999)] M M18 := (AGT_ag hI.2.1 g_y m_AG3_8 (hAd.put e_M18 g_y rfl))
            exact J119 1601 M18 v17 H locs ls hI (lv_sub hl [1] rfl) ((e_v4).trans (u2_st (a := y) (k := 3) e_M18 (u2_k (by decide))).symm) ((e_u6_8).trans (u2_st (a := y) (k := 6) e_M18 (u2_k (by decide))).symm) m226 ((u2_wr e_M18)) i_v17 (by have h9 := (h_inc e_v17 i_u6_8 kc_1 (by decide) (by decide)); have h8 := Int32.lt_iff_toInt_lt.mp c23; rw [(show v4 = M y 3 from e_v4.trans (m_AG3_8 y 9 3 g_y rfl))] at h8; omega) (by have h9 := i_v17; simp only [iv] at h9; omega)
        · refine lv_aload_n hx hb dX9_goOn_88 rfl (lv_at hl 1 rfl) ?_
          refine lv_iconst (v := 0) hx hb dX9_goOn_89 (by decide) ?_
          refine h_puti hx hb hts iX9_goOn_X9 tyX9 tyX9_ok nmX9 hown hK hI g_y (by decide) rfl rfl 8 (by decide) rfl (hts (.fieldLink RX9 206 "CatLeasesModel" "token" "I") (List.mem_of_getElem? (i := 4) rfl)) (fun _ h9 => h9) rfl .int (by decide +kernel) rfl rfl (iv_w (lo' := (-2147483648)) (hi' := 2147483647) kc_0 (by decide) (by decide)) rfl dX9_goOn_90 (fun M227 H locs e_M227 hI => ?_)
          refine lv_aload_n hx hb dX9_goOn_93 rfl (lv_at hl 1 rfl) ?_
          refine lv_aload_n hx hb dX9_goOn_94 rfl (lv_at hl 1 rfl) ?_
          refine h_geti (lo := 0) (hi := 1600) hx hb hts iX9_goOn_X9 hown hK hI g_y (by decide) rfl rfl 3 (by decide) rfl rfl (hts (.fieldLink RX9 152 "CatLeasesModel" "size" "I") (List.mem_of_getElem? (i := 3) rfl)) (fun _ h9 => h9) dX9_goOn_95 (fun v228 e_v228 i_v228 => ?_)
          have q229 : v4 = v228 := (((e_v4).trans (u2_st (a := y) (k := 3) e_M18 (u2_k (by decide))).symm).trans (u2_st (a := y) (k := 3) e_M227 (u2_k (by decide))).symm).trans e_v228.symm
          subst q229
          refine h_puti hx hb hts iX9_goOn_X9 tyX9 tyX9_ok nmX9 hown hK hI g_y (by decide) rfl rfl 6 (by decide) rfl (hts (.fieldLink RX9 199 "CatLeasesModel" "at" "I") (List.mem_of_getElem? (i := 2) rfl)) (fun _ h9 => h9) rfl .int (by decide +kernel) rfl rfl i_v4 rfl dX9_goOn_98 (fun M230 H locs e_M230 hI => ?_)
          refine lv_aload_n hx hb dX9_goOn_101 rfl (lv_at hl 1 rfl) ?_
          refine lv_aload_n hx hb dX9_goOn_102 rfl (lv_at hl 1 rfl) ?_
          refine h_geti (lo := 0) (hi := 1600) hx hb hts iX9_goOn_X9 hown hK hI g_y (by decide) rfl rfl 3 (by decide) rfl rfl (hts (.fieldLink RX9 152 "CatLeasesModel" "size" "I") (List.mem_of_getElem? (i := 3) rfl)) (fun _ h9 => h9) dX9_goOn_103 (fun v231 e_v231 i_v231 => ?_)
          have q232 : v4 = v231 := ((((e_v4).trans (u2_st (a := y) (k := 3) e_M18 (u2_k (by decide))).symm).trans (u2_st (a := y) (k := 3) e_M227 (u2_k (by decide))).symm).trans (u2_st (a := y) (k := 3) e_M230 (u2_k (by decide))).symm).trans e_v231.symm
          subst q232
          refine h_puti hx hb hts iX9_goOn_X9 tyX9 tyX9_ok nmX9 hown hK hI g_y (by decide) rfl rfl 7 (by decide) rfl (hts (.fieldLink RX9 196 "CatLeasesModel" "end" "I") (List.mem_of_getElem? (i := 1) rfl)) (fun _ h9 => h9) rfl .int (by decide +kernel) rfl rfl (iv_w (lo' := 0) (hi' := 1601) i_v4 (by decide) (by decide)) rfl dX9_goOn_106 (fun M233 H locs e_M233 hI => ?_)
          refine lv_goto (tgt := 377) hx hb dX9_goOn_109 (by decide) ?_
          have m234 : hAd σ [(9, 3), (9, 4), (101, 999)] M M233 := (AGT_ag hI.2.1 g_y (AGT_ag hI.2.1 g_y (AGT_ag hI.2.1 g_y (AGT_ag hI.2.1 g_y m_AG3_8 (hAd.put e_M18 g_y rfl)) (hAd.put e_M227 g_y rfl)) (hAd.put e_M230 g_y rfl)) (hAd.put e_M233 g_y rfl))
          have go9 : GO M M233 y := Or.inl ⟨((((u2_wr e_M227)).trans (u2_st (a := y) (k := 8) e_M230 (u2_k (by decide))).symm).trans (u2_st (a := y) (k := 8) e_M233 (u2_k (by decide))).symm).symm, (((u2_wr e_M233))).symm.trans (((((e_v4).trans (u2_st (a := y) (k := 3) e_M18 (u2_k (by decide))).symm).trans (u2_st (a := y) (k := 3) e_M227 (u2_k (by decide))).symm).trans (u2_st (a := y) (k := 3) e_M230 (u2_k (by decide))).symm).trans (u2_st (a := y) (k := 3) e_M233 (u2_k (by decide))).symm)⟩
          have pi9 : PI M233 y := by unfold PI; rw [← ((u2_wr e_M233)), ← (((((e_v4).trans (u2_st (a := y) (k := 3) e_M18 (u2_k (by decide))).symm).trans (u2_st (a := y) (k := 3) e_M227 (u2_k (by decide))).symm).trans (u2_st (a := y) (k := 3) e_M230 (u2_k (by decide))).symm).trans (u2_st (a := y) (k := 3) e_M233 (u2_k (by decide))).symm)]; omega
          have pn9 : PN M M233 y := GO_PN go9 (m234 y 9 3 g_y rfl) (m234 y 9 4 g_y rfl) m0_PI pi9
          exact h_vret hQ hx hb hr hlocks hK hI ⟨rfl, pi9, pn9, go9⟩ dX9_goOn_377
      refine lv_icmp_ge (tgt := 58) hx hb dX9_goOn_16 (by decide) (fun c235 => ?_) (fun c235 => ?_)
      · exact J58 H locs ls hI hl
      · have i236 : iv v4 1 1600 := iv_nle1 c235 i_v4 i_u6_8 (by decide)
        have i237 : iv u6_8 0 1599 := iv_nle2 c235 i_v4 i_u6_8 (by decide)
        refine lv_aload_n hx hb dX9_goOn_19 rfl (lv_at hl 0 rfl) ?_
        refine lv_aload_n hx hb dX9_goOn_20 rfl (lv_at hl 0 rfl) ?_
        refine h_geti (lo := 0) (hi := 1600) hx hb hts iX9_goOn_X9 hown hK hI g_y (by decide) rfl rfl 6 (by decide) rfl rfl (hts (.fieldLink RX9 199 "CatLeasesModel" "at" "I") (List.mem_of_getElem? (i := 2) rfl)) (fun _ h9 => h9) dX9_goOn_21 (fun v238 e_v238 i_v238 => ?_)
        have q239 : u6_8 = v238 := (e_u6_8).trans e_v238.symm
        subst q239
        refine h_goi hI (by decide) (va_runV (As := [.int u6_8]) (rest := []) ⟨hx, hb, hml, hown, hts⟩ (h_sign_X9 l D g σ Z hZ0 M_8 N R y g_y u6_8 (iv_w (lo' := 0) (hi' := 1700) i237 (by decide) (by decide))) (cwV 1 hts gX9_goOn_X9_sign rfl rfl rfl (by decide +kernel) ⟨Nat.le_of_ble_eq_true rfl, Nat.le_of_ble_eq_true rfl⟩) (h_preV hZ0 hK hE hI g_y (by decide) rfl) rfl rfl hl.1 rfl (lv_room (Nat.le_of_ble_eq_true rfl)) dX9_goOn_24 ⟨Nat.le_of_ble_eq_true rfl, Nat.le_of_ble_eq_true rfl⟩) (fun r240 M241 N242 R243 H locs q244 z_M241 hI => ?_)
        obtain ⟨rfl, rfl, rfl, i_r240, z245, z246, z247⟩ := q244
        refine lv_bipush (v := 32) hx hb dX9_goOn_27 (by decide) ?_
        have J45 : ∀ (H : Heap) (locs : List Loc) (ls : Array Slot), kI D g σ e_h_goOn_X9 M s.heap M_8 N R H locs → lv_has ls 3 [(0, .ref y)] → W p l e (headSpec wsX9_goOn ({ frames := 1, cells := 0, slots := 0, locals := 22 })).room s m ar below meth c H locs 0 0 Q (F0 m 45 ls []) := by
          intro H locs ls hI hl
          refine lv_aload_n hx hb dX9_goOn_45 rfl (lv_at hl 0 rfl) ?_
          refine lv_dup hx hb dX9_goOn_46 rfl ?_
          refine h_geti (lo := 0) (hi := 1600) hx hb hts iX9_goOn_X9 hown hK hI g_y (by decide) rfl rfl 6 (by decide) rfl rfl (hts (.fieldLink RX9 199 "CatLeasesModel" "at" "I") (List.mem_of_getElem? (i := 2) rfl)) (fun _ h9 => h9) dX9_goOn_47 (fun v248 e_v248 i_v248 => ?_)
          have q249 : u6_8 = v248 := (e_u6_8).trans e_v248.symm
          subst q249
          refine lv_iconst (v := 1) hx hb dX9_goOn_50 (by decide) ?_
          refine lv_iadd hx hb dX9_goOn_51 ?_
          refine h_nm (lo := 1) (hi := 1600) (iv_add i237 kc_1 (by decide) (by decide) (by decide) (by decide)) (fun v250 e_v250 i_v250 => ?_)
          refine h_puti hx hb hts iX9_goOn_X9 tyX9 tyX9_ok nmX9 hown hK hI g_y (by decide) rfl rfl 6 (by decide) rfl (hts (.fieldLink RX9 199 "CatLeasesModel" "at" "I") (List.mem_of_getElem? (i := 2) rfl)) (fun _ h9 => h9) rfl .int (by decide +kernel) rfl rfl (iv_w (lo' := 0) (hi' := 1600) i_v250 (by decide) (by decide)) rfl dX9_goOn_52 (fun M251 H locs e_M251 hI => ?_)
          refine lv_goto (tgt := 8) hx hb dX9_goOn_55 (by decide) ?_
          have m252 : hAd σ [(9, 3), (9, 4), (101, 999)] M M251 := (AGT_ag hI.2.1 g_y m_AG3_8 (hAd.put e_M251 g_y rfl))
          exact ih8 M251 v250 H locs ls hI hl ((k0_8).trans (u2_st (a := y) (k := 7) e_M251 (u2_k (by decide))).symm) m252 ((u2_wr e_M251)) (iv_w (lo' := 0) (hi' := 1600) i_v250 (by decide) (by decide)) (by have h9 := (h_inc e_v250 i237 kc_1 (by decide) (by decide)); have h8 := Int32.lt_iff_toInt_lt.mp (Int32.not_le.mp c235); rw [(show v4 = M y 3 from e_v4.trans (m_AG3_8 y 9 3 g_y rfl))] at h8; omega) (by have h9 := (h_inc e_v250 i237 kc_1 (by decide) (by decide)); omega)
        refine lv_icmp_eq (tgt := 45) hx hb dX9_goOn_29 (by decide) (fun c253 => ?_) (fun c253 => ?_)
        · have i254 : iv r240 32 32 := iv_eq1 c253 i_r240 kc_32
          have c255 : ¬ r240 = 0 := iv_ne i254 kc_0 (by decide)
          exact J45 H locs ls hI hl
        · refine lv_aload_n hx hb dX9_goOn_32 rfl (lv_at hl 0 rfl) ?_
          refine lv_aload_n hx hb dX9_goOn_33 rfl (lv_at hl 0 rfl) ?_
          refine h_geti (lo := 0) (hi := 1600) hx hb hts iX9_goOn_X9 hown hK hI g_y (by decide) rfl rfl 6 (by decide) rfl rfl (hts (.fieldLink RX9 199 "CatLeasesModel" "at" "I") (List.mem_of_getElem? (i := 2) rfl)) (fun _ h9 => h9) dX9_goOn_34 (fun v256 e_v256 i_v256 => ?_)
          have q257 : u6_8 = v256 := (e_u6_8).trans e_v256.symm
          subst q257
          refine h_goi hI (by decide) (va_runV (As := [.int u6_8]) (rest := []) ⟨hx, hb, hml, hown, hts⟩ (h_sign_X9 l D g σ Z hZ0 M_8 N R y g_y u6_8 (iv_w (lo' := 0) (hi' := 1700) i237 (by decide) (by decide))) (cwV 1 hts gX9_goOn_X9_sign rfl rfl rfl (by decide +kernel) ⟨Nat.le_of_ble_eq_true rfl, Nat.le_of_ble_eq_true rfl⟩) (h_preV hZ0 hK hE hI g_y (by decide) rfl) rfl rfl hl.1 rfl (lv_room (Nat.le_of_ble_eq_true rfl)) dX9_goOn_37 ⟨Nat.le_of_ble_eq_true rfl, Nat.le_of_ble_eq_true rfl⟩) (fun r258 M259 N260 R261 H locs q262 z_M259 hI => ?_)
          obtain ⟨rfl, rfl, rfl, i_r258, z263, z264, z265⟩ := q262
          refine lv_bipush (v := 10) hx hb dX9_goOn_40 (by decide) ?_
          refine lv_icmp_ne (tgt := 58) hx hb dX9_goOn_42 (by decide) (fun c266 => ?_) (fun c266 => ?_)
          · exact J58 H locs ls hI hl
          · have i267 : iv r258 10 10 := iv_eq1 c266 i_r258 kc_10
            have c268 : ¬ r258 = 0 := iv_ne i267 kc_0 (by decide)
            exact J45 H locs ls hI hl
  refine h_puti hx hb hts iX9_goOn_X9 tyX9 tyX9_ok nmX9 hown hK hI g_y (by decide) rfl rfl 6 (by decide) rfl (hts (.fieldLink RX9 199 "CatLeasesModel" "at" "I") (List.mem_of_getElem? (i := 2) rfl)) (fun _ h9 => h9) rfl .int (by decide +kernel) rfl rfl ie9 rfl dX9_goOn_5 (fun M269 H locs e_M269 hI => ?_)
  have m270 : hAd σ [(9, 3), (9, 4), (101, 999)] M M269 := (AGT_ag hI.2.1 g_y (hAd.rf (dl := [(9, 3), (9, 4), (101, 999)])) (hAd.put e_M269 g_y rfl))
  exact J8 1601 M269 v1 H locs ls hI hl ((e_v1).trans (u2_st (a := y) (k := 7) e_M269 (u2_k (by decide))).symm) m270 ((u2_wr e_M269)) ie9 (by have h9 := m0_PI; unfold PI at h9; rw [← e_v1] at h9 ⊢; omega) (by have h9 := ie9; simp only [iv] at h9; omega)
