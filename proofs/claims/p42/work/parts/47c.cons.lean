abbrev e_h_readCat_X9 : List (Nat × Nat) := [(9, 4), (9, 5), (9, 6), (9, 7), (9, 8), (9, 9), (111, 999), (118, 999), (119, 999)]
set_option maxHeartbeats 4000000 in
set_option maxRecDepth 100000 in
theorem h_readCat_X9 (l : Launch) (D : va_G) (g : Nat → ClassId) (σ : Nat → Option Nat) (Z : State → Heap → Prop) (hZ0 : hZ σ Z) (M : hM) (N : hN) (R : hR) (y : Nat) (g_y : σ y = some 9) (m0_PI : PI M y) (m0_PH : PH M R y) (m0_RB : RB M y) (hn9 : (M (R y 11) (rbN M y)).toInt < 6) : Met l yX9_readCat wsX9_readCat ({ frames := 4, cells := 0, slots := 0, locals := 91 }) (va_Pc [.ref y] (hPre D g σ Z M N R)) (hQv D g σ e_h_readCat_X9 M (fun (M1 : hM) (N1 : hN) (R1 : hR) => R = R1 ∧ (PI M1 y) ∧ (PN M M1 y) ∧ (PBx M M1 R y) ∧ (PH M1 R y))) 0 0 (hA σ) := by
  refine h_head (cc := cX9_readCat) (maxL := 2) (ret := none) (by decide) rfl (Nat.le_of_ble_eq_true rfl) e_h_readCat_X9 ?_
  intro p e s m below meth c ls Q ar hQ hx hb hr hlocks hml hown hts hK hE H locs hI hl
  have hown : s.vm.findClass RX9 = some m.cls := hown
  have hl : lv_has ls 2 [(0, .ref y)] := hl
  obtain ⟨v1, e_v1⟩ : ∃ z : Int32, z = M y 36 := ⟨_, rfl⟩
  have i_v1 : iv v1 0 1 := by rw [e_v1]; exact hI.iv1 (n := 67) g_y rfl (by decide) rfl
  have nb9 : v1.toNatClampNeg ≠ bk M y := rb_ne2 m0_RB e_v1 (hI.iv1 (a := y) (j := 35) (lo := 0) (hi := 1) (n := 67) g_y rfl (by decide) rfl)
  refine lv_bipush (v := 6) hx hb dX9_readCat_0 (by decide) ?_
  refine lv_aload_n hx hb dX9_readCat_2 rfl (lv_at hl 0 rfl) ?_
  refine h_geti (lo := 0) (hi := 1) hx hb hts iX9_readCat_X9 hown hK hI g_y (by decide) rfl rfl 36 (by decide) rfl rfl (hts (.fieldLink RX9 259 "CatLeasesModel" "rb" "I") (List.mem_of_getElem? (i := 1) rfl)) (fun _ h9 => h9) dX9_readCat_3 (fun v2 e_v2 i_v2 => ?_)
  have q3 : v1 = v2 := (e_v1).trans e_v2.symm
  subst q3
  refine lv_imul hx hb dX9_readCat_6 ?_
  refine h_nm (lo := 0) (hi := 6) (iv_mul kc_6 i_v1 (by decide) (by decide) (by decide) (by decide) (by decide)) (fun v4 e_v4 i_v4 => ?_)
  refine lv_aload_n hx hb dX9_readCat_7 rfl (lv_at hl 0 rfl) ?_
  refine h_getr hx hb hts iX9_readCat_X9 hown hK hI g_y (by decide) rfl rfl 11 (by decide) rfl 111 rfl (hts (.fieldLink RX9 20 "CatLeasesModel" "cats" "[I") (List.mem_of_getElem? (i := 2) rfl)) (fun _ h9 => h9) dX9_readCat_8 (fun a5 e_a5 g_a5 => ?_)
  refine lv_aload_n hx hb dX9_readCat_11 rfl (lv_at hl 0 rfl) ?_
  refine h_geti (lo := 0) (hi := 1) hx hb hts iX9_readCat_X9 hown hK hI g_y (by decide) rfl rfl 36 (by decide) rfl rfl (hts (.fieldLink RX9 259 "CatLeasesModel" "rb" "I") (List.mem_of_getElem? (i := 1) rfl)) (fun _ h9 => h9) dX9_readCat_12 (fun v6 e_v6 i_v6 => ?_)
  have q7 : v1 = v6 := (e_v1).trans e_v6.symm
  subst q7
  refine h_iald (j := v1.toNatClampNeg) (lo := 0) (hi := 6) hx hb hK hI g_a5 (by decide) rfl (iv_in (n := 2) i_v1 (by decide) (by decide)) rfl (hI.iv1 (n := 2) g_a5 rfl (in_lt (iv_in (n := 2) i_v1 (by decide) (by decide))) rfl) dX9_readCat_15 (fun v8 e_v8 i_v8 => ?_)
  have i9 : iv v8 0 5 := ⟨(i_v8).1, by have h9 := hn9; rw [← (show v8 = M (R y 11) (rbN M y) by rw [e_v8, e_a5, rbN, ← (show v1 = M y 36 from e_v1)])] at h9; omega⟩
  refine lv_iadd hx hb dX9_readCat_16 ?_
  refine h_nm (lo := 0) (hi := 11) (iv_add i_v4 i9 (by decide) (by decide) (by decide) (by decide)) (fun v10 e_v10 i_v10 => ?_)
  refine lv_istore_n (lv' := [(1, .int v10), (0, .ref y)]) hx hb dX9_readCat_17 rfl hl (by decide) rfl (fun ls hl => ?_)
  refine lv_aload_n hx hb dX9_readCat_18 rfl (lv_at hl 1 rfl) ?_
  refine h_getr hx hb hts iX9_readCat_X9 hown hK hI g_y (by decide) rfl rfl 27 (by decide) rfl 127 rfl (hts (.fieldLink RX9 69 "CatLeasesModel" "cName" "[J") (List.mem_of_getElem? (i := 3) rfl)) (fun _ h9 => h9) dX9_readCat_19 (fun a11 e_a11 g_a11 => ?_)
  refine lv_iload_n hx hb dX9_readCat_22 rfl (lv_at hl 0 rfl) ?_
  refine lv_aload_n hx hb dX9_readCat_23 rfl (lv_at hl 1 rfl) ?_
  refine lv_aload_n hx hb dX9_readCat_24 rfl (lv_at hl 1 rfl) ?_
  refine h_goi hI (by decide) (va_runV (As := []) (rest := [.ref y, .int v10, .ref a11]) ⟨hx, hb, hml, hown, hts⟩ (h_catHere_X9 l D g σ Z hZ0 M N R y g_y) (cwV 0 hts gX9_readCat_X9_catHere rfl rfl rfl (by decide +kernel) ⟨Nat.le_of_ble_eq_true rfl, Nat.le_of_ble_eq_true rfl⟩) (h_preV hZ0 hK hE hI g_y (by decide) rfl) rfl rfl hl.1 rfl (lv_room (Nat.le_of_ble_eq_true rfl)) dX9_readCat_25 ⟨Nat.le_of_ble_eq_true rfl, Nat.le_of_ble_eq_true rfl⟩) (fun r12 M13 N14 R15 H locs q16 z_M13 hI => ?_)
  obtain ⟨rfl, rfl, rfl, i_r12, z17⟩ := q16
  refine h_gol hI (by decide) (va_runV (As := [.int r12]) (rest := [.int v10, .ref a11]) ⟨hx, hb, hml, hown, hts⟩ (h_fresh_X9 l D g σ Z hZ0 M N R y g_y r12 (iv_w (lo' := (-1)) (hi' := 7) i_r12 (by decide) (by decide)) m0_PI) (cwV 1 hts gX9_readCat_X9_fresh rfl rfl rfl (by decide +kernel) ⟨Nat.le_of_ble_eq_true rfl, Nat.le_of_ble_eq_true rfl⟩) (h_preV hZ0 hK hE hI g_y (by decide) rfl) rfl rfl hl.1 rfl (lv_room (Nat.le_of_ble_eq_true rfl)) dX9_readCat_28 ⟨Nat.le_of_ble_eq_true rfl, Nat.le_of_ble_eq_true rfl⟩) (fun w18 M19 N20 R21 H locs q22 z_M19 hI => ?_)
  obtain ⟨rfl, m23, m24⟩ := q22
  refine h_last (j := v10.toNatClampNeg) hx hb hK hI g_a11 (by decide) rfl (iv_in (n := 12) i_v10 (by decide) (by decide)) rfl dX9_readCat_31 (fun N25 H locs e_N25 hI => ?_)
  refine lv_aload_n hx hb dX9_readCat_32 rfl (lv_at hl 1 rfl) ?_
  refine h_getr hx hb hts iX9_readCat_X9 hown hK hI g_y (by decide) rfl rfl 18 (by decide) rfl 118 rfl (hts (.fieldLink RX9 42 "CatLeasesModel" "wants" "[I") (List.mem_of_getElem? (i := 4) rfl)) (fun _ h9 => h9) dX9_readCat_33 (fun a26 e_a26 g_a26 => ?_)
  refine lv_iload_n hx hb dX9_readCat_36 rfl (lv_at hl 0 rfl) ?_
  refine lv_aload_n hx hb dX9_readCat_37 rfl (lv_at hl 1 rfl) ?_
  refine lv_ldc2 (v := 512735736947) hx hb hown (hts (.constantLong RX9 160 (512735736947)) (List.mem_of_getElem? (i := 5) rfl)) dX9_readCat_38 ?_
  refine lv_iconst (v := 0) hx hb dX9_readCat_41 (by decide) ?_
  refine lv_bipush (v := 99) hx hb dX9_readCat_42 (by decide) ?_
  refine h_goi hI (by decide) (va_runV (As := [.long (512735736947 : Int64), .int (0 : Int32), .int (99 : Int32)]) (rest := [.int v10, .ref a26]) ⟨hx, hb, hml, hown, hts⟩ (h_after_X9 l D g σ Z hZ0 M19 N25 R y g_y (512735736947 : Int64) (0 : Int32) (99 : Int32) m23) (cwV 3 hts gX9_readCat_X9_after rfl rfl rfl (by decide +kernel) ⟨Nat.le_of_ble_eq_true rfl, Nat.le_of_ble_eq_true rfl⟩) (h_preV hZ0 hK hE hI g_y (by decide) rfl) rfl rfl hl.1 rfl (lv_room (Nat.le_of_ble_eq_true rfl)) dX9_readCat_44 ⟨Nat.le_of_ble_eq_true rfl, Nat.le_of_ble_eq_true rfl⟩) (fun r27 M28 N29 R30 H locs q31 z_M28 hI => ?_)
  obtain ⟨rfl, m32, m33⟩ := q31
  refine h_iast (j := v10.toNatClampNeg) hx hb hK hI g_a26 (by decide) rfl (iv_in (n := 12) i_v10 (by decide) (by decide)) rfl (iv_any _) rfl dX9_readCat_47 (fun M34 H locs e_M34 hI => ?_)
  refine lv_aload_n hx hb dX9_readCat_48 rfl (lv_at hl 1 rfl) ?_
  refine h_getr hx hb hts iX9_readCat_X9 hown hK hI g_y (by decide) rfl rfl 19 (by decide) rfl 119 rfl (hts (.fieldLink RX9 45 "CatLeasesModel" "heir" "[I") (List.mem_of_getElem? (i := 6) rfl)) (fun _ h9 => h9) dX9_readCat_49 (fun a35 e_a35 g_a35 => ?_)
  refine lv_iload_n hx hb dX9_readCat_52 rfl (lv_at hl 0 rfl) ?_
  refine lv_aload_n hx hb dX9_readCat_53 rfl (lv_at hl 1 rfl) ?_
  refine lv_ldc2 (v := 1751476594) hx hb hown (hts (.constantLong RX9 162 (1751476594)) (List.mem_of_getElem? (i := 7) rfl)) dX9_readCat_54 ?_
  have m36 : PI M34 y := (PI_ag hI.2.1 g_y m32 (hAd.put e_M34 g_a26 rfl))
  refine h_goi hI (by decide) (va_runV (As := [.long (1751476594 : Int64)]) (rest := [.int v10, .ref a35]) ⟨hx, hb, hml, hown, hts⟩ (h_passes_X9 l D g σ Z hZ0 M34 N29 R y g_y (1751476594 : Int64) m36) (cwV 1 hts gX9_readCat_X9_passes rfl rfl rfl (by decide +kernel) ⟨Nat.le_of_ble_eq_true rfl, Nat.le_of_ble_eq_true rfl⟩) (h_preV hZ0 hK hE hI g_y (by decide) rfl) rfl rfl hl.1 rfl (lv_room (Nat.le_of_ble_eq_true rfl)) dX9_readCat_57 ⟨Nat.le_of_ble_eq_true rfl, Nat.le_of_ble_eq_true rfl⟩) (fun r37 M38 N39 R40 H locs q41 z_M38 hI => ?_)
  obtain ⟨rfl, i_r37, m42, m43⟩ := q41
  refine lv_if_eq (tgt := 74) hx hb dX9_readCat_60 (by decide) (fun c44 => ?_) (fun c44 => ?_)
  · have i45 : iv r37 0 0 := iv_eq1 c44 i_r37 kc_0
    refine lv_iconst (v := (-1)) hx hb dX9_readCat_74 (by decide) ?_
    have m46 : PH M38 R y := (PH_call9 hI.2.1 g_y m43 z_M38 (by decide) (PH_ag hI.2.1 g_y (PH_call9 hI.2.1 g_y m33 z_M28 (by decide) (PH_call9 hI.2.1 g_y m24 z_M19 (by decide) m0_PH)) (hAd.put e_M34 g_a26 rfl)))
    have c09 : 0 ≤ (M38 (R y 11) (rbN M38 y)).toInt := (hI.iv1 (a := R y 11) (j := rbN M38 y) (lo := 0) (hi := 6) (n := 2) (hI.2.1.r1 g_y 11 111 (by decide) rfl) rfl (iv_nat2 (hI.iv1 (a := y) (j := 36) (lo := 0) (hi := 1) (n := 67) g_y rfl (by decide) rfl) (by decide) (by decide)) rfl).1
    refine h_iast (j := v10.toNatClampNeg) hx hb hK hI g_a35 (by decide) rfl (iv_in (n := 12) i_v10 (by decide) (by decide)) rfl (iv_w (lo' := (-1)) (hi' := 5) kc_m1 (by decide) (by decide)) rfl dX9_readCat_75 (fun M47 H locs e_M47 hI => ?_)
    refine lv_aload_n hx hb dX9_readCat_76 rfl (lv_at hl 1 rfl) ?_
    refine h_getr hx hb hts iX9_readCat_X9 hown hK hI g_y (by decide) rfl rfl 11 (by decide) rfl 111 rfl (hts (.fieldLink RX9 20 "CatLeasesModel" "cats" "[I") (List.mem_of_getElem? (i := 2) rfl)) (fun _ h9 => h9) dX9_readCat_77 (fun a48 e_a48 g_a48 => ?_)
    have q49 : a5 = a48 := (e_a5).trans e_a48.symm
    subst q49
    refine lv_aload_n hx hb dX9_readCat_80 rfl (lv_at hl 1 rfl) ?_
    refine h_geti (lo := 0) (hi := 1) hx hb hts iX9_readCat_X9 hown hK hI g_y (by decide) rfl rfl 36 (by decide) rfl rfl (hts (.fieldLink RX9 259 "CatLeasesModel" "rb" "I") (List.mem_of_getElem? (i := 1) rfl)) (fun _ h9 => h9) dX9_readCat_81 (fun v50 e_v50 i_v50 => ?_)
    have q51 : v1 = v50 := ((((((e_v1).trans (z_M19 y 9 36 g_y rfl).symm).trans (z_M28 y 9 36 g_y rfl).symm).trans (u2_st (a := y) (k := 36) e_M34 (u2_a (so_ne g_y g_a26 (by decide)))).symm).trans (z_M38 y 9 36 g_y rfl).symm).trans (u2_st (a := y) (k := 36) e_M47 (u2_a (so_ne g_y g_a35 (by decide)))).symm).trans e_v50.symm
    subst q51
    refine lv_dup2_11 hx hb dX9_readCat_84 rfl rfl ?_
    refine h_iald (j := v1.toNatClampNeg) (lo := 0) (hi := 6) hx hb hK hI g_a5 (by decide) rfl (iv_in (n := 2) i_v1 (by decide) (by decide)) rfl (hI.iv1 (n := 2) g_a5 rfl (in_lt (iv_in (n := 2) i_v1 (by decide) (by decide))) rfl) dX9_readCat_85 (fun v52 e_v52 i_v52 => ?_)
    have q53 : v8 = v52 := ((((((e_v8).trans (z_M19 a5 111 v1.toNatClampNeg g_a5 rfl).symm).trans (z_M28 a5 111 v1.toNatClampNeg g_a5 rfl).symm).trans (u2_st (a := a5) (k := v1.toNatClampNeg) e_M34 (u2_a (so_ne g_a5 g_a26 (by decide)))).symm).trans (z_M38 a5 111 v1.toNatClampNeg g_a5 rfl).symm).trans (u2_st (a := a5) (k := v1.toNatClampNeg) e_M47 (u2_a (so_ne g_a5 g_a35 (by decide)))).symm).trans e_v52.symm
    subst q53
    refine lv_iconst (v := 1) hx hb dX9_readCat_86 (by decide) ?_
    refine lv_iadd hx hb dX9_readCat_87 ?_
    refine h_nm (lo := 1) (hi := 6) (iv_add i9 kc_1 (by decide) (by decide) (by decide) (by decide)) (fun v54 e_v54 i_v54 => ?_)
    refine h_iast (j := v1.toNatClampNeg) hx hb hK hI g_a5 (by decide) rfl (iv_in (n := 2) i_v1 (by decide) (by decide)) rfl (iv_w (lo' := 0) (hi' := 6) i_v54 (by decide) (by decide)) rfl dX9_readCat_88 (fun M55 H locs e_M55 hI => ?_)
    have m56 : PH M55 R y := PH_cat (M := M38) (M1 := M47) (i := v10.toNatClampNeg) (n := v8.toNatClampNeg) (v := (-1 : Int32)) (v2 := v54) hI.2.1 g_y m46 (by rw [e_M47, e_a35]) (by rw [rbN, ((z_M38 y 9 36 g_y rfl).trans ((u2_st (a := y) (k := 36) e_M34 (u2_a (so_ne g_y g_a26 (by decide)))).trans ((z_M28 y 9 36 g_y rfl).trans (z_M19 y 9 36 g_y rfl)))), ← e_v1]; exact bank_N (n := 6) (by decide) i_v1 e_v4 e_v10 i9 (by decide)) (by rw [(show (M38 (R y 11) (rbN M38 y)) = v8 by rw [rbN, ((z_M38 y 9 36 g_y rfl).trans ((u2_st (a := y) (k := 36) e_M34 (u2_a (so_ne g_y g_a26 (by decide)))).trans ((z_M28 y 9 36 g_y rfl).trans (z_M19 y 9 36 g_y rfl)))), ((hAg.row z_M38 (hI.2.1.r1 g_y 11 111 (by decide) rfl) (fun _ => rfl)).trans ((u2_row e_M34 (so_ne (hI.2.1.r1 g_y 11 111 (by decide) rfl) g_a26 (by decide))).trans ((hAg.row z_M28 (hI.2.1.r1 g_y 11 111 (by decide) rfl) (fun _ => rfl)).trans (hAg.row z_M19 (hI.2.1.r1 g_y 11 111 (by decide) rfl) (fun _ => rfl)))))]; exact (show _ = _ from ((show v8 = M (R y 11) (rbN M y) from (show v8 = M (R y 11) (rbN M y) by rw [e_v8, e_a5, rbN, ← (show v1 = M y 36 from e_v1)]))).symm))]; exact iv_nN i9 (by decide)) (by rw [e_M55, e_a5, rbN, ((z_M38 y 9 36 g_y rfl).trans ((u2_st (a := y) (k := 36) e_M34 (u2_a (so_ne g_y g_a26 (by decide)))).trans ((z_M28 y 9 36 g_y rfl).trans (z_M19 y 9 36 g_y rfl)))), ← e_v1]) (by have h9 := (h_inc e_v54 i9 kc_1 (by decide) (by decide)); have h8 := iv_nN i9 (by decide); omega) (fun _ => by rw [show (-1 : Int32).toInt = -1 by decide]; omega)
    have m57 : PI M55 y := (PI_ag hI.2.1 g_y (PI_ag hI.2.1 g_y m42 (hAd.put e_M47 g_a35 rfl)) (hAd.put e_M55 g_a5 rfl))
    have m58 : PN M M55 y := (PN_ag hI.2.1 g_y (PN_ag hI.2.1 g_y (PN_tr (PN_ag hI.2.1 g_y (PN_tr (PN_tr PN_rf m24) m33) (hAd.put e_M34 g_a26 rfl)) m43) (hAd.put e_M47 g_a35 rfl)) (hAd.put e_M55 g_a5 rfl))
    have m59 : PBx M M55 R y := (PBx_put hI.2.1 g_y (PBx_put hI.2.1 g_y (PBx_ag hI.2.1 g_y (PBx_ag hI.2.1 g_y (PBx_ag hI.2.1 g_y (PBx_ag hI.2.1 g_y PBx_rf (hAd.ag z_M19 (by decide))) (hAd.ag z_M28 (by decide))) (hAd.put e_M34 g_a26 rfl)) (hAd.ag z_M38 (by decide))) e_M47 g_a35 (Or.inr ⟨rfl, rb_ne6 nb9 i_v1 e_v4 e_v10 i9⟩)) e_M55 g_a5 (Or.inl ⟨by decide, nb9⟩))
    exact h_vret hQ hx hb hr hlocks hK hI ⟨rfl, m57, m58, m59, m56⟩ dX9_readCat_89
  · have i60 : iv r37 1 1 := iv_neL c44 i_r37 (by decide) (by decide)
    refine lv_aload_n hx hb dX9_readCat_63 rfl (lv_at hl 1 rfl) ?_
    refine lv_aload_n hx hb dX9_readCat_64 rfl (lv_at hl 1 rfl) ?_
    refine h_goi hI (by decide) (va_runV (As := []) (rest := [.ref y, .int v10, .ref a35]) ⟨hx, hb, hml, hown, hts⟩ (h_catHere_X9 l D g σ Z hZ0 M38 N39 R y g_y) (cwV 0 hts gX9_readCat_X9_catHere rfl rfl rfl (by decide +kernel) ⟨Nat.le_of_ble_eq_true rfl, Nat.le_of_ble_eq_true rfl⟩) (h_preV hZ0 hK hE hI g_y (by decide) rfl) rfl rfl hl.1 rfl (lv_room (Nat.le_of_ble_eq_true rfl)) dX9_readCat_65 ⟨Nat.le_of_ble_eq_true rfl, Nat.le_of_ble_eq_true rfl⟩) (fun r61 M62 N63 R64 H locs q65 z_M62 hI => ?_)
    obtain ⟨rfl, rfl, rfl, i_r61, z66⟩ := q65
    refine h_goi hI (by decide) (va_runV (As := [.int r61]) (rest := [.int v10, .ref a35]) ⟨hx, hb, hml, hown, hts⟩ (h_known_5 l D g σ Z hZ0 M38 N39 R y g_y r61 i_r61 m42) (cwV 1 hts gX9_readCat_X9_known rfl rfl rfl (by decide +kernel) ⟨Nat.le_of_ble_eq_true rfl, Nat.le_of_ble_eq_true rfl⟩) (h_preV hZ0 hK hE hI g_y (by decide) rfl) rfl rfl hl.1 rfl (lv_room (Nat.le_of_ble_eq_true rfl)) dX9_readCat_68 ⟨Nat.le_of_ble_eq_true rfl, Nat.le_of_ble_eq_true rfl⟩) (fun r67 M68 N69 R70 H locs q71 z_M68 hI => ?_)
    obtain ⟨rfl, i_r67, m72, m73, z74⟩ := q71
    refine lv_goto (tgt := 75) hx hb dX9_readCat_71 (by decide) ?_
    have m75 : PH M68 R y := (PH_call9 hI.2.1 g_y m73 z_M68 (by decide) (PH_call9 hI.2.1 g_y m43 z_M38 (by decide) (PH_ag hI.2.1 g_y (PH_call9 hI.2.1 g_y m33 z_M28 (by decide) (PH_call9 hI.2.1 g_y m24 z_M19 (by decide) m0_PH)) (hAd.put e_M34 g_a26 rfl))))
    have c09 : 0 ≤ (M68 (R y 11) (rbN M68 y)).toInt := (hI.iv1 (a := R y 11) (j := rbN M68 y) (lo := 0) (hi := 6) (n := 2) (hI.2.1.r1 g_y 11 111 (by decide) rfl) rfl (iv_nat2 (hI.iv1 (a := y) (j := 36) (lo := 0) (hi := 1) (n := 67) g_y rfl (by decide) rfl) (by decide) (by decide)) rfl).1
    refine h_iast (j := v10.toNatClampNeg) hx hb hK hI g_a35 (by decide) rfl (iv_in (n := 12) i_v10 (by decide) (by decide)) rfl (iv_w (lo' := (-1)) (hi' := 5) i_r67 (by decide) (by decide)) rfl dX9_readCat_75 (fun M76 H locs e_M76 hI => ?_)
    refine lv_aload_n hx hb dX9_readCat_76 rfl (lv_at hl 1 rfl) ?_
    refine h_getr hx hb hts iX9_readCat_X9 hown hK hI g_y (by decide) rfl rfl 11 (by decide) rfl 111 rfl (hts (.fieldLink RX9 20 "CatLeasesModel" "cats" "[I") (List.mem_of_getElem? (i := 2) rfl)) (fun _ h9 => h9) dX9_readCat_77 (fun a77 e_a77 g_a77 => ?_)
    have q78 : a5 = a77 := (e_a5).trans e_a77.symm
    subst q78
    refine lv_aload_n hx hb dX9_readCat_80 rfl (lv_at hl 1 rfl) ?_
    refine h_geti (lo := 0) (hi := 1) hx hb hts iX9_readCat_X9 hown hK hI g_y (by decide) rfl rfl 36 (by decide) rfl rfl (hts (.fieldLink RX9 259 "CatLeasesModel" "rb" "I") (List.mem_of_getElem? (i := 1) rfl)) (fun _ h9 => h9) dX9_readCat_81 (fun v79 e_v79 i_v79 => ?_)
    have q80 : v1 = v79 := (((((((e_v1).trans (z_M19 y 9 36 g_y rfl).symm).trans (z_M28 y 9 36 g_y rfl).symm).trans (u2_st (a := y) (k := 36) e_M34 (u2_a (so_ne g_y g_a26 (by decide)))).symm).trans (z_M38 y 9 36 g_y rfl).symm).trans (z_M68 y 9 36 g_y rfl).symm).trans (u2_st (a := y) (k := 36) e_M76 (u2_a (so_ne g_y g_a35 (by decide)))).symm).trans e_v79.symm
    subst q80
    refine lv_dup2_11 hx hb dX9_readCat_84 rfl rfl ?_
    refine h_iald (j := v1.toNatClampNeg) (lo := 0) (hi := 6) hx hb hK hI g_a5 (by decide) rfl (iv_in (n := 2) i_v1 (by decide) (by decide)) rfl (hI.iv1 (n := 2) g_a5 rfl (in_lt (iv_in (n := 2) i_v1 (by decide) (by decide))) rfl) dX9_readCat_85 (fun v81 e_v81 i_v81 => ?_)
    have q82 : v8 = v81 := (((((((e_v8).trans (z_M19 a5 111 v1.toNatClampNeg g_a5 rfl).symm).trans (z_M28 a5 111 v1.toNatClampNeg g_a5 rfl).symm).trans (u2_st (a := a5) (k := v1.toNatClampNeg) e_M34 (u2_a (so_ne g_a5 g_a26 (by decide)))).symm).trans (z_M38 a5 111 v1.toNatClampNeg g_a5 rfl).symm).trans (z_M68 a5 111 v1.toNatClampNeg g_a5 rfl).symm).trans (u2_st (a := a5) (k := v1.toNatClampNeg) e_M76 (u2_a (so_ne g_a5 g_a35 (by decide)))).symm).trans e_v81.symm
    subst q82
    refine lv_iconst (v := 1) hx hb dX9_readCat_86 (by decide) ?_
    refine lv_iadd hx hb dX9_readCat_87 ?_
    refine h_nm (lo := 1) (hi := 6) (iv_add i9 kc_1 (by decide) (by decide) (by decide) (by decide)) (fun v83 e_v83 i_v83 => ?_)
    refine h_iast (j := v1.toNatClampNeg) hx hb hK hI g_a5 (by decide) rfl (iv_in (n := 2) i_v1 (by decide) (by decide)) rfl (iv_w (lo' := 0) (hi' := 6) i_v83 (by decide) (by decide)) rfl dX9_readCat_88 (fun M84 H locs e_M84 hI => ?_)
    have m85 : PH M84 R y := PH_cat (M := M68) (M1 := M76) (i := v10.toNatClampNeg) (n := v8.toNatClampNeg) (v := r67) (v2 := v83) hI.2.1 g_y m75 (by rw [e_M76, e_a35]) (by rw [rbN, ((z_M68 y 9 36 g_y rfl).trans ((z_M38 y 9 36 g_y rfl).trans ((u2_st (a := y) (k := 36) e_M34 (u2_a (so_ne g_y g_a26 (by decide)))).trans ((z_M28 y 9 36 g_y rfl).trans (z_M19 y 9 36 g_y rfl))))), ← e_v1]; exact bank_N (n := 6) (by decide) i_v1 e_v4 e_v10 i9 (by decide)) (by rw [(show (M68 (R y 11) (rbN M68 y)) = v8 by rw [rbN, ((z_M68 y 9 36 g_y rfl).trans ((z_M38 y 9 36 g_y rfl).trans ((u2_st (a := y) (k := 36) e_M34 (u2_a (so_ne g_y g_a26 (by decide)))).trans ((z_M28 y 9 36 g_y rfl).trans (z_M19 y 9 36 g_y rfl))))), ((hAg.row z_M68 (hI.2.1.r1 g_y 11 111 (by decide) rfl) (fun _ => rfl)).trans ((hAg.row z_M38 (hI.2.1.r1 g_y 11 111 (by decide) rfl) (fun _ => rfl)).trans ((u2_row e_M34 (so_ne (hI.2.1.r1 g_y 11 111 (by decide) rfl) g_a26 (by decide))).trans ((hAg.row z_M28 (hI.2.1.r1 g_y 11 111 (by decide) rfl) (fun _ => rfl)).trans (hAg.row z_M19 (hI.2.1.r1 g_y 11 111 (by decide) rfl) (fun _ => rfl))))))]; exact (show _ = _ from ((show v8 = M (R y 11) (rbN M y) from (show v8 = M (R y 11) (rbN M y) by rw [e_v8, e_a5, rbN, ← (show v1 = M y 36 from e_v1)]))).symm))]; exact iv_nN i9 (by decide)) (by rw [e_M84, e_a5, rbN, ((z_M68 y 9 36 g_y rfl).trans ((z_M38 y 9 36 g_y rfl).trans ((u2_st (a := y) (k := 36) e_M34 (u2_a (so_ne g_y g_a26 (by decide)))).trans ((z_M28 y 9 36 g_y rfl).trans (z_M19 y 9 36 g_y rfl))))), ← e_v1]) (by have h9 := (h_inc e_v83 i9 kc_1 (by decide) (by decide)); have h8 := iv_nN i9 (by decide); omega) (fun h9 => by rw [(z74 h9).2]; have h8 := z66; rw [show (M38 (R y 11) (rbN M38 y)) = v8 by rw [rbN, ((z_M38 y 9 36 g_y rfl).trans ((u2_st (a := y) (k := 36) e_M34 (u2_a (so_ne g_y g_a26 (by decide)))).trans ((z_M28 y 9 36 g_y rfl).trans (z_M19 y 9 36 g_y rfl)))), ((hAg.row z_M38 (hI.2.1.r1 g_y 11 111 (by decide) rfl) (fun _ => rfl)).trans ((u2_row e_M34 (so_ne (hI.2.1.r1 g_y 11 111 (by decide) rfl) g_a26 (by decide))).trans ((hAg.row z_M28 (hI.2.1.r1 g_y 11 111 (by decide) rfl) (fun _ => rfl)).trans (hAg.row z_M19 (hI.2.1.r1 g_y 11 111 (by decide) rfl) (fun _ => rfl)))))]; exact (show _ = _ from ((show v8 = M (R y 11) (rbN M y) from (show v8 = M (R y 11) (rbN M y) by rw [e_v8, e_a5, rbN, ← (show v1 = M y 36 from e_v1)]))).symm)] at h8; have h7 := iv_nN i9 (by decide); omega)
    have m86 : PI M84 y := (PI_ag hI.2.1 g_y (PI_ag hI.2.1 g_y m72 (hAd.put e_M76 g_a35 rfl)) (hAd.put e_M84 g_a5 rfl))
    have m87 : PN M M84 y := (PN_ag hI.2.1 g_y (PN_ag hI.2.1 g_y (PN_tr (PN_tr (PN_ag hI.2.1 g_y (PN_tr (PN_tr PN_rf m24) m33) (hAd.put e_M34 g_a26 rfl)) m43) m73) (hAd.put e_M76 g_a35 rfl)) (hAd.put e_M84 g_a5 rfl))
    have m88 : PBx M M84 R y := (PBx_put hI.2.1 g_y (PBx_put hI.2.1 g_y (PBx_ag hI.2.1 g_y (PBx_ag hI.2.1 g_y (PBx_ag hI.2.1 g_y (PBx_ag hI.2.1 g_y (PBx_ag hI.2.1 g_y PBx_rf (hAd.ag z_M19 (by decide))) (hAd.ag z_M28 (by decide))) (hAd.put e_M34 g_a26 rfl)) (hAd.ag z_M38 (by decide))) (hAd.ag z_M68 (by decide))) e_M76 g_a35 (Or.inr ⟨rfl, rb_ne6 nb9 i_v1 e_v4 e_v10 i9⟩)) e_M84 g_a5 (Or.inl ⟨by decide, nb9⟩))
    exact h_vret hQ hx hb hr hlocks hK hI ⟨rfl, m86, m87, m88, m85⟩ dX9_readCat_89
abbrev e_h_readRoom_X9 : List (Nat × Nat) := [(9, 4), (9, 5), (9, 6), (9, 7), (9, 8), (9, 9), (112, 999), (120, 999)]
set_option maxHeartbeats 4000000 in
set_option maxRecDepth 100000 in
theorem h_readRoom_X9 (l : Launch) (D : va_G) (g : Nat → ClassId) (σ : Nat → Option Nat) (Z : State → Heap → Prop) (hZ0 : hZ σ Z) (M : hM) (N : hN) (R : hR) (y : Nat) (g_y : σ y = some 9) (m0_PI : PI M y) (m0_PH : PH M R y) (m0_RB : RB M y) (hn9 : (M (R y 12) (rbN M y)).toInt < 8) : Met l yX9_readRoom wsX9_readRoom ({ frames := 3, cells := 0, slots := 0, locals := 67 }) (va_Pc [.ref y] (hPre D g σ Z M N R)) (hQv D g σ e_h_readRoom_X9 M (fun (M1 : hM) (N1 : hN) (R1 : hR) => R = R1 ∧ (PI M1 y) ∧ (PN M M1 y) ∧ (PBx M M1 R y) ∧ (PH M1 R y))) 0 0 (hA σ) := by
  refine h_head (cc := cX9_readRoom) (maxL := 2) (ret := none) (by decide) rfl (Nat.le_of_ble_eq_true rfl) e_h_readRoom_X9 ?_
  intro p e s m below meth c ls Q ar hQ hx hb hr hlocks hml hown hts hK hE H locs hI hl
  have hown : s.vm.findClass RX9 = some m.cls := hown
  have hl : lv_has ls 2 [(0, .ref y)] := hl
  obtain ⟨v1, e_v1⟩ : ∃ z : Int32, z = M y 36 := ⟨_, rfl⟩
  have i_v1 : iv v1 0 1 := by rw [e_v1]; exact hI.iv1 (n := 67) g_y rfl (by decide) rfl
  have nb9 : v1.toNatClampNeg ≠ bk M y := rb_ne2 m0_RB e_v1 (hI.iv1 (a := y) (j := 35) (lo := 0) (hi := 1) (n := 67) g_y rfl (by decide) rfl)
  refine lv_bipush (v := 8) hx hb dX9_readRoom_0 (by decide) ?_
  refine lv_aload_n hx hb dX9_readRoom_2 rfl (lv_at hl 0 rfl) ?_
  refine h_geti (lo := 0) (hi := 1) hx hb hts iX9_readRoom_X9 hown hK hI g_y (by decide) rfl rfl 36 (by decide) rfl rfl (hts (.fieldLink RX9 259 "CatLeasesModel" "rb" "I") (List.mem_of_getElem? (i := 1) rfl)) (fun _ h9 => h9) dX9_readRoom_3 (fun v2 e_v2 i_v2 => ?_)
  have q3 : v1 = v2 := (e_v1).trans e_v2.symm
  subst q3
  refine lv_imul hx hb dX9_readRoom_6 ?_
  refine h_nm (lo := 0) (hi := 8) (iv_mul kc_8 i_v1 (by decide) (by decide) (by decide) (by decide) (by decide)) (fun v4 e_v4 i_v4 => ?_)
  refine lv_aload_n hx hb dX9_readRoom_7 rfl (lv_at hl 0 rfl) ?_
  refine h_getr hx hb hts iX9_readRoom_X9 hown hK hI g_y (by decide) rfl rfl 12 (by decide) rfl 112 rfl (hts (.fieldLink RX9 24 "CatLeasesModel" "rooms" "[I") (List.mem_of_getElem? (i := 2) rfl)) (fun _ h9 => h9) dX9_readRoom_8 (fun a5 e_a5 g_a5 => ?_)
  refine lv_aload_n hx hb dX9_readRoom_11 rfl (lv_at hl 0 rfl) ?_
  refine h_geti (lo := 0) (hi := 1) hx hb hts iX9_readRoom_X9 hown hK hI g_y (by decide) rfl rfl 36 (by decide) rfl rfl (hts (.fieldLink RX9 259 "CatLeasesModel" "rb" "I") (List.mem_of_getElem? (i := 1) rfl)) (fun _ h9 => h9) dX9_readRoom_12 (fun v6 e_v6 i_v6 => ?_)
  have q7 : v1 = v6 := (e_v1).trans e_v6.symm
  subst q7
  refine h_iald (j := v1.toNatClampNeg) (lo := 0) (hi := 8) hx hb hK hI g_a5 (by decide) rfl (iv_in (n := 2) i_v1 (by decide) (by decide)) rfl (hI.iv1 (n := 2) g_a5 rfl (in_lt (iv_in (n := 2) i_v1 (by decide) (by decide))) rfl) dX9_readRoom_15 (fun v8 e_v8 i_v8 => ?_)
  have i9 : iv v8 0 7 := ⟨(i_v8).1, by have h9 := hn9; rw [← (show v8 = M (R y 12) (rbN M y) by rw [e_v8, e_a5, rbN, ← (show v1 = M y 36 from e_v1)])] at h9; omega⟩
  refine lv_iadd hx hb dX9_readRoom_16 ?_
  refine h_nm (lo := 0) (hi := 15) (iv_add i_v4 i9 (by decide) (by decide) (by decide) (by decide)) (fun v10 e_v10 i_v10 => ?_)
  refine lv_istore_n (lv' := [(1, .int v10), (0, .ref y)]) hx hb dX9_readRoom_17 rfl hl (by decide) rfl (fun ls hl => ?_)
  refine lv_aload_n hx hb dX9_readRoom_18 rfl (lv_at hl 1 rfl) ?_
  refine h_getr hx hb hts iX9_readRoom_X9 hown hK hI g_y (by decide) rfl rfl 28 (by decide) rfl 128 rfl (hts (.fieldLink RX9 73 "CatLeasesModel" "rName" "[J") (List.mem_of_getElem? (i := 3) rfl)) (fun _ h9 => h9) dX9_readRoom_19 (fun a11 e_a11 g_a11 => ?_)
  refine lv_iload_n hx hb dX9_readRoom_22 rfl (lv_at hl 0 rfl) ?_
  refine lv_aload_n hx hb dX9_readRoom_23 rfl (lv_at hl 1 rfl) ?_
  refine lv_aload_n hx hb dX9_readRoom_24 rfl (lv_at hl 1 rfl) ?_
  refine h_goi hI (by decide) (va_runV (As := []) (rest := [.ref y, .int v10, .ref a11]) ⟨hx, hb, hml, hown, hts⟩ (h_roomHere_X9 l D g σ Z hZ0 M N R y g_y) (cwV 0 hts gX9_readRoom_X9_roomHere rfl rfl rfl (by decide +kernel) ⟨Nat.le_of_ble_eq_true rfl, Nat.le_of_ble_eq_true rfl⟩) (h_preV hZ0 hK hE hI g_y (by decide) rfl) rfl rfl hl.1 rfl (lv_room (Nat.le_of_ble_eq_true rfl)) dX9_readRoom_25 ⟨Nat.le_of_ble_eq_true rfl, Nat.le_of_ble_eq_true rfl⟩) (fun r12 M13 N14 R15 H locs q16 z_M13 hI => ?_)
  obtain ⟨rfl, rfl, rfl, i_r12, z17⟩ := q16
  refine h_gol hI (by decide) (va_runV (As := [.int r12]) (rest := [.int v10, .ref a11]) ⟨hx, hb, hml, hown, hts⟩ (h_fresh_X9 l D g σ Z hZ0 M N R y g_y r12 i_r12 m0_PI) (cwV 1 hts gX9_readRoom_X9_fresh rfl rfl rfl (by decide +kernel) ⟨Nat.le_of_ble_eq_true rfl, Nat.le_of_ble_eq_true rfl⟩) (h_preV hZ0 hK hE hI g_y (by decide) rfl) rfl rfl hl.1 rfl (lv_room (Nat.le_of_ble_eq_true rfl)) dX9_readRoom_28 ⟨Nat.le_of_ble_eq_true rfl, Nat.le_of_ble_eq_true rfl⟩) (fun w18 M19 N20 R21 H locs q22 z_M19 hI => ?_)
  obtain ⟨rfl, m23, m24⟩ := q22
  refine h_last (j := v10.toNatClampNeg) hx hb hK hI g_a11 (by decide) rfl (iv_in (n := 16) i_v10 (by decide) (by decide)) rfl dX9_readRoom_31 (fun N25 H locs e_N25 hI => ?_)
  refine lv_aload_n hx hb dX9_readRoom_32 rfl (lv_at hl 1 rfl) ?_
  refine h_getr hx hb hts iX9_readRoom_X9 hown hK hI g_y (by decide) rfl rfl 20 (by decide) rfl 120 rfl (hts (.fieldLink RX9 48 "CatLeasesModel" "keptBy" "[I") (List.mem_of_getElem? (i := 4) rfl)) (fun _ h9 => h9) dX9_readRoom_33 (fun a26 e_a26 g_a26 => ?_)
  refine lv_iload_n hx hb dX9_readRoom_36 rfl (lv_at hl 0 rfl) ?_
  refine lv_aload_n hx hb dX9_readRoom_37 rfl (lv_at hl 1 rfl) ?_
  refine lv_ldc2 (v := 28518) hx hb hown (hts (.constantLong RX9 166 (28518)) (List.mem_of_getElem? (i := 5) rfl)) dX9_readRoom_38 ?_
  refine h_goi hI (by decide) (va_runV (As := [.long (28518 : Int64)]) (rest := [.int v10, .ref a26]) ⟨hx, hb, hml, hown, hts⟩ (h_passes_X9 l D g σ Z hZ0 M19 N25 R y g_y (28518 : Int64) m23) (cwV 1 hts gX9_readRoom_X9_passes rfl rfl rfl (by decide +kernel) ⟨Nat.le_of_ble_eq_true rfl, Nat.le_of_ble_eq_true rfl⟩) (h_preV hZ0 hK hE hI g_y (by decide) rfl) rfl rfl hl.1 rfl (lv_room (Nat.le_of_ble_eq_true rfl)) dX9_readRoom_41 ⟨Nat.le_of_ble_eq_true rfl, Nat.le_of_ble_eq_true rfl⟩) (fun r27 M28 N29 R30 H locs q31 z_M28 hI => ?_)
  obtain ⟨rfl, i_r27, m32, m33⟩ := q31
  refine lv_if_eq (tgt := 58) hx hb dX9_readRoom_44 (by decide) (fun c34 => ?_) (fun c34 => ?_)
  · have i35 : iv r27 0 0 := iv_eq1 c34 i_r27 kc_0
    refine lv_iconst (v := (-1)) hx hb dX9_readRoom_58 (by decide) ?_
    have m36 : PH M28 R y := (PH_call9 hI.2.1 g_y m33 z_M28 (by decide) (PH_call9 hI.2.1 g_y m24 z_M19 (by decide) m0_PH))
    have c09 : 0 ≤ (M28 (R y 11) (rbN M28 y)).toInt := (hI.iv1 (a := R y 11) (j := rbN M28 y) (lo := 0) (hi := 6) (n := 2) (hI.2.1.r1 g_y 11 111 (by decide) rfl) rfl (iv_nat2 (hI.iv1 (a := y) (j := 36) (lo := 0) (hi := 1) (n := 67) g_y rfl (by decide) rfl) (by decide) (by decide)) rfl).1
    refine h_iast (j := v10.toNatClampNeg) hx hb hK hI g_a26 (by decide) rfl (iv_in (n := 16) i_v10 (by decide) (by decide)) rfl (iv_w (lo' := (-1)) (hi' := 5) kc_m1 (by decide) (by decide)) rfl dX9_readRoom_59 (fun M37 H locs e_M37 hI => ?_)
    refine lv_aload_n hx hb dX9_readRoom_60 rfl (lv_at hl 1 rfl) ?_
    refine h_getr hx hb hts iX9_readRoom_X9 hown hK hI g_y (by decide) rfl rfl 12 (by decide) rfl 112 rfl (hts (.fieldLink RX9 24 "CatLeasesModel" "rooms" "[I") (List.mem_of_getElem? (i := 2) rfl)) (fun _ h9 => h9) dX9_readRoom_61 (fun a38 e_a38 g_a38 => ?_)
    have q39 : a5 = a38 := (e_a5).trans e_a38.symm
    subst q39
    refine lv_aload_n hx hb dX9_readRoom_64 rfl (lv_at hl 1 rfl) ?_
    refine h_geti (lo := 0) (hi := 1) hx hb hts iX9_readRoom_X9 hown hK hI g_y (by decide) rfl rfl 36 (by decide) rfl rfl (hts (.fieldLink RX9 259 "CatLeasesModel" "rb" "I") (List.mem_of_getElem? (i := 1) rfl)) (fun _ h9 => h9) dX9_readRoom_65 (fun v40 e_v40 i_v40 => ?_)
    have q41 : v1 = v40 := ((((e_v1).trans (z_M19 y 9 36 g_y rfl).symm).trans (z_M28 y 9 36 g_y rfl).symm).trans (u2_st (a := y) (k := 36) e_M37 (u2_a (so_ne g_y g_a26 (by decide)))).symm).trans e_v40.symm
    subst q41
    refine lv_dup2_11 hx hb dX9_readRoom_68 rfl rfl ?_
    refine h_iald (j := v1.toNatClampNeg) (lo := 0) (hi := 8) hx hb hK hI g_a5 (by decide) rfl (iv_in (n := 2) i_v1 (by decide) (by decide)) rfl (hI.iv1 (n := 2) g_a5 rfl (in_lt (iv_in (n := 2) i_v1 (by decide) (by decide))) rfl) dX9_readRoom_69 (fun v42 e_v42 i_v42 => ?_)
    have q43 : v8 = v42 := ((((e_v8).trans (z_M19 a5 112 v1.toNatClampNeg g_a5 rfl).symm).trans (z_M28 a5 112 v1.toNatClampNeg g_a5 rfl).symm).trans (u2_st (a := a5) (k := v1.toNatClampNeg) e_M37 (u2_a (so_ne g_a5 g_a26 (by decide)))).symm).trans e_v42.symm
    subst q43
    refine lv_iconst (v := 1) hx hb dX9_readRoom_70 (by decide) ?_
    refine lv_iadd hx hb dX9_readRoom_71 ?_
    refine h_nm (lo := 1) (hi := 8) (iv_add i9 kc_1 (by decide) (by decide) (by decide) (by decide)) (fun v44 e_v44 i_v44 => ?_)
    refine h_iast (j := v1.toNatClampNeg) hx hb hK hI g_a5 (by decide) rfl (iv_in (n := 2) i_v1 (by decide) (by decide)) rfl (iv_w (lo' := 0) (hi' := 8) i_v44 (by decide) (by decide)) rfl dX9_readRoom_72 (fun M45 H locs e_M45 hI => ?_)
    have m46 : PH M45 R y := PH_room (M := M28) (M1 := M37) (i := v10.toNatClampNeg) (n := v8.toNatClampNeg) (v := (-1 : Int32)) (v2 := v44) hI.2.1 g_y m36 (by rw [e_M37, e_a26]) (by rw [rbN, ((z_M28 y 9 36 g_y rfl).trans (z_M19 y 9 36 g_y rfl)), ← e_v1]; exact bank_N (n := 8) (by decide) i_v1 e_v4 e_v10 i9 (by decide)) (by rw [(show (M28 (R y 12) (rbN M28 y)) = v8 by rw [rbN, ((z_M28 y 9 36 g_y rfl).trans (z_M19 y 9 36 g_y rfl)), ((hAg.row z_M28 (hI.2.1.r1 g_y 12 112 (by decide) rfl) (fun _ => rfl)).trans (hAg.row z_M19 (hI.2.1.r1 g_y 12 112 (by decide) rfl) (fun _ => rfl)))]; exact (show _ = _ from ((show v8 = M (R y 12) (rbN M y) from (show v8 = M (R y 12) (rbN M y) by rw [e_v8, e_a5, rbN, ← (show v1 = M y 36 from e_v1)]))).symm))]; exact iv_nN i9 (by decide)) (by rw [e_M45, e_a5, rbN, ((z_M28 y 9 36 g_y rfl).trans (z_M19 y 9 36 g_y rfl)), ← e_v1]) (by have h9 := (h_inc e_v44 i9 kc_1 (by decide) (by decide)); have h8 := iv_nN i9 (by decide); omega) (fun _ => by rw [show (-1 : Int32).toInt = -1 by decide]; omega)
    have m47 : PI M45 y := (PI_ag hI.2.1 g_y (PI_ag hI.2.1 g_y m32 (hAd.put e_M37 g_a26 rfl)) (hAd.put e_M45 g_a5 rfl))
    have m48 : PN M M45 y := (PN_ag hI.2.1 g_y (PN_ag hI.2.1 g_y (PN_tr (PN_tr PN_rf m24) m33) (hAd.put e_M37 g_a26 rfl)) (hAd.put e_M45 g_a5 rfl))
    have m49 : PBx M M45 R y := (PBx_ag hI.2.1 g_y (PBx_ag hI.2.1 g_y (PBx_ag hI.2.1 g_y (PBx_ag hI.2.1 g_y PBx_rf (hAd.ag z_M19 (by decide))) (hAd.ag z_M28 (by decide))) (hAd.put e_M37 g_a26 rfl)) (hAd.put e_M45 g_a5 rfl))
    exact h_vret hQ hx hb hr hlocks hK hI ⟨rfl, m47, m48, m49, m46⟩ dX9_readRoom_73
  · have i50 : iv r27 1 1 := iv_neL c34 i_r27 (by decide) (by decide)
    refine lv_aload_n hx hb dX9_readRoom_47 rfl (lv_at hl 1 rfl) ?_
    refine lv_aload_n hx hb dX9_readRoom_48 rfl (lv_at hl 1 rfl) ?_
    refine h_goi hI (by decide) (va_runV (As := []) (rest := [.ref y, .int v10, .ref a26]) ⟨hx, hb, hml, hown, hts⟩ (h_catHere_X9 l D g σ Z hZ0 M28 N29 R y g_y) (cwV 0 hts gX9_readRoom_X9_catHere rfl rfl rfl (by decide +kernel) ⟨Nat.le_of_ble_eq_true rfl, Nat.le_of_ble_eq_true rfl⟩) (h_preV hZ0 hK hE hI g_y (by decide) rfl) rfl rfl hl.1 rfl (lv_room (Nat.le_of_ble_eq_true rfl)) dX9_readRoom_49 ⟨Nat.le_of_ble_eq_true rfl, Nat.le_of_ble_eq_true rfl⟩) (fun r51 M52 N53 R54 H locs q55 z_M52 hI => ?_)
    obtain ⟨rfl, rfl, rfl, i_r51, z56⟩ := q55
    refine h_goi hI (by decide) (va_runV (As := [.int r51]) (rest := [.int v10, .ref a26]) ⟨hx, hb, hml, hown, hts⟩ (h_known_5 l D g σ Z hZ0 M28 N29 R y g_y r51 i_r51 m32) (cwV 1 hts gX9_readRoom_X9_known rfl rfl rfl (by decide +kernel) ⟨Nat.le_of_ble_eq_true rfl, Nat.le_of_ble_eq_true rfl⟩) (h_preV hZ0 hK hE hI g_y (by decide) rfl) rfl rfl hl.1 rfl (lv_room (Nat.le_of_ble_eq_true rfl)) dX9_readRoom_52 ⟨Nat.le_of_ble_eq_true rfl, Nat.le_of_ble_eq_true rfl⟩) (fun r57 M58 N59 R60 H locs q61 z_M58 hI => ?_)
    obtain ⟨rfl, i_r57, m62, m63, z64⟩ := q61
    refine lv_goto (tgt := 59) hx hb dX9_readRoom_55 (by decide) ?_
    have m65 : PH M58 R y := (PH_call9 hI.2.1 g_y m63 z_M58 (by decide) (PH_call9 hI.2.1 g_y m33 z_M28 (by decide) (PH_call9 hI.2.1 g_y m24 z_M19 (by decide) m0_PH)))
    have c09 : 0 ≤ (M58 (R y 11) (rbN M58 y)).toInt := (hI.iv1 (a := R y 11) (j := rbN M58 y) (lo := 0) (hi := 6) (n := 2) (hI.2.1.r1 g_y 11 111 (by decide) rfl) rfl (iv_nat2 (hI.iv1 (a := y) (j := 36) (lo := 0) (hi := 1) (n := 67) g_y rfl (by decide) rfl) (by decide) (by decide)) rfl).1
    refine h_iast (j := v10.toNatClampNeg) hx hb hK hI g_a26 (by decide) rfl (iv_in (n := 16) i_v10 (by decide) (by decide)) rfl (iv_w (lo' := (-1)) (hi' := 5) i_r57 (by decide) (by decide)) rfl dX9_readRoom_59 (fun M66 H locs e_M66 hI => ?_)
    refine lv_aload_n hx hb dX9_readRoom_60 rfl (lv_at hl 1 rfl) ?_
    refine h_getr hx hb hts iX9_readRoom_X9 hown hK hI g_y (by decide) rfl rfl 12 (by decide) rfl 112 rfl (hts (.fieldLink RX9 24 "CatLeasesModel" "rooms" "[I") (List.mem_of_getElem? (i := 2) rfl)) (fun _ h9 => h9) dX9_readRoom_61 (fun a67 e_a67 g_a67 => ?_)
    have q68 : a5 = a67 := (e_a5).trans e_a67.symm
    subst q68
    refine lv_aload_n hx hb dX9_readRoom_64 rfl (lv_at hl 1 rfl) ?_
    refine h_geti (lo := 0) (hi := 1) hx hb hts iX9_readRoom_X9 hown hK hI g_y (by decide) rfl rfl 36 (by decide) rfl rfl (hts (.fieldLink RX9 259 "CatLeasesModel" "rb" "I") (List.mem_of_getElem? (i := 1) rfl)) (fun _ h9 => h9) dX9_readRoom_65 (fun v69 e_v69 i_v69 => ?_)
    have q70 : v1 = v69 := (((((e_v1).trans (z_M19 y 9 36 g_y rfl).symm).trans (z_M28 y 9 36 g_y rfl).symm).trans (z_M58 y 9 36 g_y rfl).symm).trans (u2_st (a := y) (k := 36) e_M66 (u2_a (so_ne g_y g_a26 (by decide)))).symm).trans e_v69.symm
    subst q70
    refine lv_dup2_11 hx hb dX9_readRoom_68 rfl rfl ?_
    refine h_iald (j := v1.toNatClampNeg) (lo := 0) (hi := 8) hx hb hK hI g_a5 (by decide) rfl (iv_in (n := 2) i_v1 (by decide) (by decide)) rfl (hI.iv1 (n := 2) g_a5 rfl (in_lt (iv_in (n := 2) i_v1 (by decide) (by decide))) rfl) dX9_readRoom_69 (fun v71 e_v71 i_v71 => ?_)
    have q72 : v8 = v71 := (((((e_v8).trans (z_M19 a5 112 v1.toNatClampNeg g_a5 rfl).symm).trans (z_M28 a5 112 v1.toNatClampNeg g_a5 rfl).symm).trans (z_M58 a5 112 v1.toNatClampNeg g_a5 rfl).symm).trans (u2_st (a := a5) (k := v1.toNatClampNeg) e_M66 (u2_a (so_ne g_a5 g_a26 (by decide)))).symm).trans e_v71.symm
    subst q72
    refine lv_iconst (v := 1) hx hb dX9_readRoom_70 (by decide) ?_
    refine lv_iadd hx hb dX9_readRoom_71 ?_
    refine h_nm (lo := 1) (hi := 8) (iv_add i9 kc_1 (by decide) (by decide) (by decide) (by decide)) (fun v73 e_v73 i_v73 => ?_)
    refine h_iast (j := v1.toNatClampNeg) hx hb hK hI g_a5 (by decide) rfl (iv_in (n := 2) i_v1 (by decide) (by decide)) rfl (iv_w (lo' := 0) (hi' := 8) i_v73 (by decide) (by decide)) rfl dX9_readRoom_72 (fun M74 H locs e_M74 hI => ?_)
    have m75 : PH M74 R y := PH_room (M := M58) (M1 := M66) (i := v10.toNatClampNeg) (n := v8.toNatClampNeg) (v := r57) (v2 := v73) hI.2.1 g_y m65 (by rw [e_M66, e_a26]) (by rw [rbN, ((z_M58 y 9 36 g_y rfl).trans ((z_M28 y 9 36 g_y rfl).trans (z_M19 y 9 36 g_y rfl))), ← e_v1]; exact bank_N (n := 8) (by decide) i_v1 e_v4 e_v10 i9 (by decide)) (by rw [(show (M58 (R y 12) (rbN M58 y)) = v8 by rw [rbN, ((z_M58 y 9 36 g_y rfl).trans ((z_M28 y 9 36 g_y rfl).trans (z_M19 y 9 36 g_y rfl))), ((hAg.row z_M58 (hI.2.1.r1 g_y 12 112 (by decide) rfl) (fun _ => rfl)).trans ((hAg.row z_M28 (hI.2.1.r1 g_y 12 112 (by decide) rfl) (fun _ => rfl)).trans (hAg.row z_M19 (hI.2.1.r1 g_y 12 112 (by decide) rfl) (fun _ => rfl))))]; exact (show _ = _ from ((show v8 = M (R y 12) (rbN M y) from (show v8 = M (R y 12) (rbN M y) by rw [e_v8, e_a5, rbN, ← (show v1 = M y 36 from e_v1)]))).symm))]; exact iv_nN i9 (by decide)) (by rw [e_M74, e_a5, rbN, ((z_M58 y 9 36 g_y rfl).trans ((z_M28 y 9 36 g_y rfl).trans (z_M19 y 9 36 g_y rfl))), ← e_v1]) (by have h9 := (h_inc e_v73 i9 kc_1 (by decide) (by decide)); have h8 := iv_nN i9 (by decide); omega) (fun h9 => by rw [(z64 h9).2]; have h8 := z56; rw [show (M28 (R y 11) (rbN M28 y)) = M58 (R y 11) (rbN M58 y) by rw [rbN, rbN, ((z_M28 y 9 36 g_y rfl).trans (z_M19 y 9 36 g_y rfl)), ((hAg.row z_M28 (hI.2.1.r1 g_y 11 111 (by decide) rfl) (fun _ => rfl)).trans (hAg.row z_M19 (hI.2.1.r1 g_y 11 111 (by decide) rfl) (fun _ => rfl))), ((z_M58 y 9 36 g_y rfl).trans ((z_M28 y 9 36 g_y rfl).trans (z_M19 y 9 36 g_y rfl))), ((hAg.row z_M58 (hI.2.1.r1 g_y 11 111 (by decide) rfl) (fun _ => rfl)).trans ((hAg.row z_M28 (hI.2.1.r1 g_y 11 111 (by decide) rfl) (fun _ => rfl)).trans (hAg.row z_M19 (hI.2.1.r1 g_y 11 111 (by decide) rfl) (fun _ => rfl))))]] at h8; exact h8)
    have m76 : PI M74 y := (PI_ag hI.2.1 g_y (PI_ag hI.2.1 g_y m62 (hAd.put e_M66 g_a26 rfl)) (hAd.put e_M74 g_a5 rfl))
    have m77 : PN M M74 y := (PN_ag hI.2.1 g_y (PN_ag hI.2.1 g_y (PN_tr (PN_tr (PN_tr PN_rf m24) m33) m63) (hAd.put e_M66 g_a26 rfl)) (hAd.put e_M74 g_a5 rfl))
    have m78 : PBx M M74 R y := (PBx_ag hI.2.1 g_y (PBx_ag hI.2.1 g_y (PBx_ag hI.2.1 g_y (PBx_ag hI.2.1 g_y (PBx_ag hI.2.1 g_y PBx_rf (hAd.ag z_M19 (by decide))) (hAd.ag z_M28 (by decide))) (hAd.ag z_M58 (by decide))) (hAd.put e_M66 g_a26 rfl)) (hAd.put e_M74 g_a5 rfl))
    exact h_vret hQ hx hb hr hlocks hK hI ⟨rfl, m76, m77, m78, m75⟩ dX9_readRoom_73
