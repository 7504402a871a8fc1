abbrev e_h_clearRB_X9 : List (Nat × Nat) := [(9, 37), (111, 999), (112, 999), (113, 999), (114, 999), (115, 999), (116, 999), (117, 999)]
set_option maxHeartbeats 4000000 in
set_option maxRecDepth 100000 in
theorem h_clearRB_X9 (l : Launch) (D : va_G) (g : Nat → ClassId) (σ : Nat → Option Nat) (Z : State → Heap → Prop) (hZ0 : hZ σ Z) (M : hM) (N : hN) (R : hR) (y : Nat) (g_y : σ y = some 9) (m0_RB : RB M y) : Met l yX9_clearBank wsX9_clearBank ({ frames := 0, cells := 0, slots := 0, locals := 0 }) (va_Pc [.ref y] (hPre D g σ Z M N R)) (hQv D g σ e_h_clearRB_X9 M (fun (M1 : hM) (N1 : hN) (R1 : hR) => N = N1 ∧ R = R1 ∧ (PBx M M1 R y) ∧ (PH M1 R y))) 0 0 (hA σ) := by
  refine h_head (cc := cX9_clearBank) (maxL := 1) (ret := none) (by decide) rfl (Nat.le_of_ble_eq_true rfl) e_h_clearRB_X9 ?_
  intro p e s m below meth c ls Q ar hQ hx hb hr hlocks hml hown hts hK hE H locs hI hl
  have hown : s.vm.findClass RX9 = some m.cls := hown
  have hl : lv_has ls 1 [(0, .ref y)] := hl
  obtain ⟨v1, e_v1⟩ : ∃ z : Int32, z = M y 36 := ⟨_, rfl⟩
  have i_v1 : iv v1 0 1 := by rw [e_v1]; exact hI.iv1 (n := 67) g_y rfl (by decide) rfl
  have nb9 : v1.toNatClampNeg ≠ bk M y := rb_ne2 m0_RB e_v1 (hI.iv1 (a := y) (j := 35) (lo := 0) (hi := 1) (n := 67) g_y rfl (by decide) rfl)
  refine lv_aload_n hx hb dX9_clearBank_0 rfl (lv_at hl 0 rfl) ?_
  refine h_getr hx hb hts iX9_clearBank_X9 hown hK hI g_y (by decide) rfl rfl 11 (by decide) rfl 111 rfl (hts (.fieldLink RX9 20 "CatLeasesModel" "cats" "[I") (List.mem_of_getElem? (i := 1) rfl)) (fun _ h9 => h9) dX9_clearBank_1 (fun a2 e_a2 g_a2 => ?_)
  refine lv_aload_n hx hb dX9_clearBank_4 rfl (lv_at hl 0 rfl) ?_
  refine h_geti (lo := 0) (hi := 1) hx hb hts iX9_clearBank_X9 hown hK hI g_y (by decide) rfl rfl 36 (by decide) rfl rfl (hts (.fieldLink RX9 259 "CatLeasesModel" "rb" "I") (List.mem_of_getElem? (i := 2) rfl)) (fun _ h9 => h9) dX9_clearBank_5 (fun v3 e_v3 i_v3 => ?_)
  have q4 : v1 = v3 := (e_v1).trans e_v3.symm
  subst q4
  refine lv_iconst (v := 0) hx hb dX9_clearBank_8 (by decide) ?_
  refine h_iast (j := v1.toNatClampNeg) hx hb hK hI g_a2 (by decide) rfl (iv_in (n := 2) i_v1 (by decide) (by decide)) rfl (iv_w (lo' := 0) (hi' := 6) kc_0 (by decide) (by decide)) rfl dX9_clearBank_9 (fun M5 H locs e_M5 hI => ?_)
  refine lv_aload_n hx hb dX9_clearBank_10 rfl (lv_at hl 0 rfl) ?_
  refine h_getr hx hb hts iX9_clearBank_X9 hown hK hI g_y (by decide) rfl rfl 12 (by decide) rfl 112 rfl (hts (.fieldLink RX9 24 "CatLeasesModel" "rooms" "[I") (List.mem_of_getElem? (i := 3) rfl)) (fun _ h9 => h9) dX9_clearBank_11 (fun a6 e_a6 g_a6 => ?_)
  refine lv_aload_n hx hb dX9_clearBank_14 rfl (lv_at hl 0 rfl) ?_
  refine h_geti (lo := 0) (hi := 1) hx hb hts iX9_clearBank_X9 hown hK hI g_y (by decide) rfl rfl 36 (by decide) rfl rfl (hts (.fieldLink RX9 259 "CatLeasesModel" "rb" "I") (List.mem_of_getElem? (i := 2) rfl)) (fun _ h9 => h9) dX9_clearBank_15 (fun v7 e_v7 i_v7 => ?_)
  have q8 : v1 = v7 := ((e_v1).trans (u2_st (a := y) (k := 36) e_M5 (u2_a (so_ne g_y g_a2 (by decide)))).symm).trans e_v7.symm
  subst q8
  refine lv_iconst (v := 0) hx hb dX9_clearBank_18 (by decide) ?_
  refine h_iast (j := v1.toNatClampNeg) hx hb hK hI g_a6 (by decide) rfl (iv_in (n := 2) i_v1 (by decide) (by decide)) rfl (iv_w (lo' := 0) (hi' := 8) kc_0 (by decide) (by decide)) rfl dX9_clearBank_19 (fun M9 H locs e_M9 hI => ?_)
  refine lv_aload_n hx hb dX9_clearBank_20 rfl (lv_at hl 0 rfl) ?_
  refine h_getr hx hb hts iX9_clearBank_X9 hown hK hI g_y (by decide) rfl rfl 13 (by decide) rfl 113 rfl (hts (.fieldLink RX9 27 "CatLeasesModel" "tenants" "[I") (List.mem_of_getElem? (i := 4) rfl)) (fun _ h9 => h9) dX9_clearBank_21 (fun a10 e_a10 g_a10 => ?_)
  refine lv_aload_n hx hb dX9_clearBank_24 rfl (lv_at hl 0 rfl) ?_
  refine h_geti (lo := 0) (hi := 1) hx hb hts iX9_clearBank_X9 hown hK hI g_y (by decide) rfl rfl 36 (by decide) rfl rfl (hts (.fieldLink RX9 259 "CatLeasesModel" "rb" "I") (List.mem_of_getElem? (i := 2) rfl)) (fun _ h9 => h9) dX9_clearBank_25 (fun v11 e_v11 i_v11 => ?_)
  have q12 : v1 = v11 := (((e_v1).trans (u2_st (a := y) (k := 36) e_M5 (u2_a (so_ne g_y g_a2 (by decide)))).symm).trans (u2_st (a := y) (k := 36) e_M9 (u2_a (so_ne g_y g_a6 (by decide)))).symm).trans e_v11.symm
  subst q12
  refine lv_iconst (v := 0) hx hb dX9_clearBank_28 (by decide) ?_
  refine h_iast (j := v1.toNatClampNeg) hx hb hK hI g_a10 (by decide) rfl (iv_in (n := 2) i_v1 (by decide) (by decide)) rfl (iv_w (lo' := 0) (hi' := 7) kc_0 (by decide) (by decide)) rfl dX9_clearBank_29 (fun M13 H locs e_M13 hI => ?_)
  refine lv_aload_n hx hb dX9_clearBank_30 rfl (lv_at hl 0 rfl) ?_
  refine h_getr hx hb hts iX9_clearBank_X9 hown hK hI g_y (by decide) rfl rfl 14 (by decide) rfl 114 rfl (hts (.fieldLink RX9 30 "CatLeasesModel" "units" "[I") (List.mem_of_getElem? (i := 5) rfl)) (fun _ h9 => h9) dX9_clearBank_31 (fun a14 e_a14 g_a14 => ?_)
  refine lv_aload_n hx hb dX9_clearBank_34 rfl (lv_at hl 0 rfl) ?_
  refine h_geti (lo := 0) (hi := 1) hx hb hts iX9_clearBank_X9 hown hK hI g_y (by decide) rfl rfl 36 (by decide) rfl rfl (hts (.fieldLink RX9 259 "CatLeasesModel" "rb" "I") (List.mem_of_getElem? (i := 2) rfl)) (fun _ h9 => h9) dX9_clearBank_35 (fun v15 e_v15 i_v15 => ?_)
  have q16 : v1 = v15 := ((((e_v1).trans (u2_st (a := y) (k := 36) e_M5 (u2_a (so_ne g_y g_a2 (by decide)))).symm).trans (u2_st (a := y) (k := 36) e_M9 (u2_a (so_ne g_y g_a6 (by decide)))).symm).trans (u2_st (a := y) (k := 36) e_M13 (u2_a (so_ne g_y g_a10 (by decide)))).symm).trans e_v15.symm
  subst q16
  refine lv_iconst (v := 0) hx hb dX9_clearBank_38 (by decide) ?_
  refine h_iast (j := v1.toNatClampNeg) hx hb hK hI g_a14 (by decide) rfl (iv_in (n := 2) i_v1 (by decide) (by decide)) rfl (iv_any _) rfl dX9_clearBank_39 (fun M17 H locs e_M17 hI => ?_)
  refine lv_aload_n hx hb dX9_clearBank_40 rfl (lv_at hl 0 rfl) ?_
  refine h_getr hx hb hts iX9_clearBank_X9 hown hK hI g_y (by decide) rfl rfl 15 (by decide) rfl 115 rfl (hts (.fieldLink RX9 33 "CatLeasesModel" "dies" "[I") (List.mem_of_getElem? (i := 6) rfl)) (fun _ h9 => h9) dX9_clearBank_41 (fun a18 e_a18 g_a18 => ?_)
  refine lv_aload_n hx hb dX9_clearBank_44 rfl (lv_at hl 0 rfl) ?_
  refine h_geti (lo := 0) (hi := 1) hx hb hts iX9_clearBank_X9 hown hK hI g_y (by decide) rfl rfl 36 (by decide) rfl rfl (hts (.fieldLink RX9 259 "CatLeasesModel" "rb" "I") (List.mem_of_getElem? (i := 2) rfl)) (fun _ h9 => h9) dX9_clearBank_45 (fun v19 e_v19 i_v19 => ?_)
  have q20 : v1 = v19 := (((((e_v1).trans (u2_st (a := y) (k := 36) e_M5 (u2_a (so_ne g_y g_a2 (by decide)))).symm).trans (u2_st (a := y) (k := 36) e_M9 (u2_a (so_ne g_y g_a6 (by decide)))).symm).trans (u2_st (a := y) (k := 36) e_M13 (u2_a (so_ne g_y g_a10 (by decide)))).symm).trans (u2_st (a := y) (k := 36) e_M17 (u2_a (so_ne g_y g_a14 (by decide)))).symm).trans e_v19.symm
  subst q20
  refine lv_iconst (v := 0) hx hb dX9_clearBank_48 (by decide) ?_
  refine h_iast (j := v1.toNatClampNeg) hx hb hK hI g_a18 (by decide) rfl (iv_in (n := 2) i_v1 (by decide) (by decide)) rfl (iv_any _) rfl dX9_clearBank_49 (fun M21 H locs e_M21 hI => ?_)
  refine lv_aload_n hx hb dX9_clearBank_50 rfl (lv_at hl 0 rfl) ?_
  refine h_getr hx hb hts iX9_clearBank_X9 hown hK hI g_y (by decide) rfl rfl 16 (by decide) rfl 116 rfl (hts (.fieldLink RX9 36 "CatLeasesModel" "draw" "[I") (List.mem_of_getElem? (i := 7) rfl)) (fun _ h9 => h9) dX9_clearBank_51 (fun a22 e_a22 g_a22 => ?_)
  refine lv_aload_n hx hb dX9_clearBank_54 rfl (lv_at hl 0 rfl) ?_
  refine h_geti (lo := 0) (hi := 1) hx hb hts iX9_clearBank_X9 hown hK hI g_y (by decide) rfl rfl 36 (by decide) rfl rfl (hts (.fieldLink RX9 259 "CatLeasesModel" "rb" "I") (List.mem_of_getElem? (i := 2) rfl)) (fun _ h9 => h9) dX9_clearBank_55 (fun v23 e_v23 i_v23 => ?_)
  have q24 : v1 = v23 := ((((((e_v1).trans (u2_st (a := y) (k := 36) e_M5 (u2_a (so_ne g_y g_a2 (by decide)))).symm).trans (u2_st (a := y) (k := 36) e_M9 (u2_a (so_ne g_y g_a6 (by decide)))).symm).trans (u2_st (a := y) (k := 36) e_M13 (u2_a (so_ne g_y g_a10 (by decide)))).symm).trans (u2_st (a := y) (k := 36) e_M17 (u2_a (so_ne g_y g_a14 (by decide)))).symm).trans (u2_st (a := y) (k := 36) e_M21 (u2_a (so_ne g_y g_a18 (by decide)))).symm).trans e_v23.symm
  subst q24
  refine lv_iconst (v := 0) hx hb dX9_clearBank_58 (by decide) ?_
  refine h_iast (j := v1.toNatClampNeg) hx hb hK hI g_a22 (by decide) rfl (iv_in (n := 2) i_v1 (by decide) (by decide)) rfl (iv_any _) rfl dX9_clearBank_59 (fun M25 H locs e_M25 hI => ?_)
  refine lv_aload_n hx hb dX9_clearBank_60 rfl (lv_at hl 0 rfl) ?_
  refine h_getr hx hb hts iX9_clearBank_X9 hown hK hI g_y (by decide) rfl rfl 17 (by decide) rfl 117 rfl (hts (.fieldLink RX9 39 "CatLeasesModel" "told" "[I") (List.mem_of_getElem? (i := 8) rfl)) (fun _ h9 => h9) dX9_clearBank_61 (fun a26 e_a26 g_a26 => ?_)
  refine lv_aload_n hx hb dX9_clearBank_64 rfl (lv_at hl 0 rfl) ?_
  refine h_geti (lo := 0) (hi := 1) hx hb hts iX9_clearBank_X9 hown hK hI g_y (by decide) rfl rfl 36 (by decide) rfl rfl (hts (.fieldLink RX9 259 "CatLeasesModel" "rb" "I") (List.mem_of_getElem? (i := 2) rfl)) (fun _ h9 => h9) dX9_clearBank_65 (fun v27 e_v27 i_v27 => ?_)
  have q28 : v1 = v27 := (((((((e_v1).trans (u2_st (a := y) (k := 36) e_M5 (u2_a (so_ne g_y g_a2 (by decide)))).symm).trans (u2_st (a := y) (k := 36) e_M9 (u2_a (so_ne g_y g_a6 (by decide)))).symm).trans (u2_st (a := y) (k := 36) e_M13 (u2_a (so_ne g_y g_a10 (by decide)))).symm).trans (u2_st (a := y) (k := 36) e_M17 (u2_a (so_ne g_y g_a14 (by decide)))).symm).trans (u2_st (a := y) (k := 36) e_M21 (u2_a (so_ne g_y g_a18 (by decide)))).symm).trans (u2_st (a := y) (k := 36) e_M25 (u2_a (so_ne g_y g_a22 (by decide)))).symm).trans e_v27.symm
  subst q28
  refine lv_iconst (v := 0) hx hb dX9_clearBank_68 (by decide) ?_
  refine h_iast (j := v1.toNatClampNeg) hx hb hK hI g_a26 (by decide) rfl (iv_in (n := 2) i_v1 (by decide) (by decide)) rfl (iv_any _) rfl dX9_clearBank_69 (fun M29 H locs e_M29 hI => ?_)
  refine lv_aload_n hx hb dX9_clearBank_70 rfl (lv_at hl 0 rfl) ?_
  refine lv_sipush (v := 560) hx hb dX9_clearBank_71 (by decide) ?_
  refine lv_aload_n hx hb dX9_clearBank_74 rfl (lv_at hl 0 rfl) ?_
  refine h_geti (lo := 0) (hi := 1) hx hb hts iX9_clearBank_X9 hown hK hI g_y (by decide) rfl rfl 36 (by decide) rfl rfl (hts (.fieldLink RX9 259 "CatLeasesModel" "rb" "I") (List.mem_of_getElem? (i := 2) rfl)) (fun _ h9 => h9) dX9_clearBank_75 (fun v30 e_v30 i_v30 => ?_)
  have q31 : v1 = v30 := ((((((((e_v1).trans (u2_st (a := y) (k := 36) e_M5 (u2_a (so_ne g_y g_a2 (by decide)))).symm).trans (u2_st (a := y) (k := 36) e_M9 (u2_a (so_ne g_y g_a6 (by decide)))).symm).trans (u2_st (a := y) (k := 36) e_M13 (u2_a (so_ne g_y g_a10 (by decide)))).symm).trans (u2_st (a := y) (k := 36) e_M17 (u2_a (so_ne g_y g_a14 (by decide)))).symm).trans (u2_st (a := y) (k := 36) e_M21 (u2_a (so_ne g_y g_a18 (by decide)))).symm).trans (u2_st (a := y) (k := 36) e_M25 (u2_a (so_ne g_y g_a22 (by decide)))).symm).trans (u2_st (a := y) (k := 36) e_M29 (u2_a (so_ne g_y g_a26 (by decide)))).symm).trans e_v30.symm
  subst q31
  refine lv_imul hx hb dX9_clearBank_78 ?_
  refine h_nm (lo := 0) (hi := 560) (iv_mul kc_560 i_v1 (by decide) (by decide) (by decide) (by decide) (by decide)) (fun v32 e_v32 i_v32 => ?_)
  refine h_puti hx hb hts iX9_clearBank_X9 tyX9 tyX9_ok nmX9 hown hK hI g_y (by decide) rfl rfl 37 (by decide) rfl (hts (.fieldLink RX9 262 "CatLeasesModel" "codes" "I") (List.mem_of_getElem? (i := 9) rfl)) (fun _ h9 => h9) rfl .int (by decide +kernel) rfl rfl (iv_w (lo' := 0) (hi' := 1120) i_v32 (by decide) (by decide)) rfl dX9_clearBank_79 (fun M33 H locs e_M33 hI => ?_)
  have m34 : PBx M M33 R y := (PBx_ag hI.2.1 g_y (PBx_put hI.2.1 g_y (PBx_ag hI.2.1 g_y (PBx_ag hI.2.1 g_y (PBx_ag hI.2.1 g_y (PBx_ag hI.2.1 g_y (PBx_ag hI.2.1 g_y (PBx_put hI.2.1 g_y PBx_rf e_M5 g_a2 (Or.inl ⟨by decide, nb9⟩)) (hAd.put e_M9 g_a6 rfl)) (hAd.put e_M13 g_a10 rfl)) (hAd.put e_M17 g_a14 rfl)) (hAd.put e_M21 g_a18 rfl)) (hAd.put e_M25 g_a22 rfl)) e_M29 g_a26 (Or.inl ⟨by decide, nb9⟩)) (hAd.put e_M33 g_y rfl))
  exact h_vret hQ hx hb hr hlocks hK hI ⟨rfl, rfl, m34, (PH_clear (show (0 : Int32) = M33 (R y 11) (rbN M33 y) by rw [rbN, ((u2_st (a := y) (k := 36) e_M33 (u2_k (by decide))).trans ((u2_st (a := y) (k := 36) e_M29 (u2_a (so_ne g_y g_a26 (by decide)))).trans ((u2_st (a := y) (k := 36) e_M25 (u2_a (so_ne g_y g_a22 (by decide)))).trans ((u2_st (a := y) (k := 36) e_M21 (u2_a (so_ne g_y g_a18 (by decide)))).trans ((u2_st (a := y) (k := 36) e_M17 (u2_a (so_ne g_y g_a14 (by decide)))).trans ((u2_st (a := y) (k := 36) e_M13 (u2_a (so_ne g_y g_a10 (by decide)))).trans ((u2_st (a := y) (k := 36) e_M9 (u2_a (so_ne g_y g_a6 (by decide)))).trans (u2_st (a := y) (k := 36) e_M5 (u2_a (so_ne g_y g_a2 (by decide))))))))))), ← e_v1, ((u2_row e_M33 (so_ne (hI.2.1.r1 g_y 11 111 (by decide) rfl) g_y (by decide))).trans ((u2_row e_M29 (so_ne (hI.2.1.r1 g_y 11 111 (by decide) rfl) g_a26 (by decide))).trans ((u2_row e_M25 (so_ne (hI.2.1.r1 g_y 11 111 (by decide) rfl) g_a22 (by decide))).trans ((u2_row e_M21 (so_ne (hI.2.1.r1 g_y 11 111 (by decide) rfl) g_a18 (by decide))).trans ((u2_row e_M17 (so_ne (hI.2.1.r1 g_y 11 111 (by decide) rfl) g_a14 (by decide))).trans ((u2_row e_M13 (so_ne (hI.2.1.r1 g_y 11 111 (by decide) rfl) g_a10 (by decide))).trans (u2_row e_M9 (so_ne (hI.2.1.r1 g_y 11 111 (by decide) rfl) g_a6 (by decide))))))))), e_M5, e_a2, u2_s]).symm (show (0 : Int32) = M33 (R y 12) (rbN M33 y) by rw [rbN, ((u2_st (a := y) (k := 36) e_M33 (u2_k (by decide))).trans ((u2_st (a := y) (k := 36) e_M29 (u2_a (so_ne g_y g_a26 (by decide)))).trans ((u2_st (a := y) (k := 36) e_M25 (u2_a (so_ne g_y g_a22 (by decide)))).trans ((u2_st (a := y) (k := 36) e_M21 (u2_a (so_ne g_y g_a18 (by decide)))).trans ((u2_st (a := y) (k := 36) e_M17 (u2_a (so_ne g_y g_a14 (by decide)))).trans ((u2_st (a := y) (k := 36) e_M13 (u2_a (so_ne g_y g_a10 (by decide)))).trans ((u2_st (a := y) (k := 36) e_M9 (u2_a (so_ne g_y g_a6 (by decide)))).trans (u2_st (a := y) (k := 36) e_M5 (u2_a (so_ne g_y g_a2 (by decide))))))))))), ← e_v1, ((u2_row e_M33 (so_ne (hI.2.1.r1 g_y 12 112 (by decide) rfl) g_y (by decide))).trans ((u2_row e_M29 (so_ne (hI.2.1.r1 g_y 12 112 (by decide) rfl) g_a26 (by decide))).trans ((u2_row e_M25 (so_ne (hI.2.1.r1 g_y 12 112 (by decide) rfl) g_a22 (by decide))).trans ((u2_row e_M21 (so_ne (hI.2.1.r1 g_y 12 112 (by decide) rfl) g_a18 (by decide))).trans ((u2_row e_M17 (so_ne (hI.2.1.r1 g_y 12 112 (by decide) rfl) g_a14 (by decide))).trans (u2_row e_M13 (so_ne (hI.2.1.r1 g_y 12 112 (by decide) rfl) g_a10 (by decide)))))))), e_M9, e_a6, u2_s]).symm (show (0 : Int32) = M33 (R y 17) (rbN M33 y) by rw [rbN, ((u2_st (a := y) (k := 36) e_M33 (u2_k (by decide))).trans ((u2_st (a := y) (k := 36) e_M29 (u2_a (so_ne g_y g_a26 (by decide)))).trans ((u2_st (a := y) (k := 36) e_M25 (u2_a (so_ne g_y g_a22 (by decide)))).trans ((u2_st (a := y) (k := 36) e_M21 (u2_a (so_ne g_y g_a18 (by decide)))).trans ((u2_st (a := y) (k := 36) e_M17 (u2_a (so_ne g_y g_a14 (by decide)))).trans ((u2_st (a := y) (k := 36) e_M13 (u2_a (so_ne g_y g_a10 (by decide)))).trans ((u2_st (a := y) (k := 36) e_M9 (u2_a (so_ne g_y g_a6 (by decide)))).trans (u2_st (a := y) (k := 36) e_M5 (u2_a (so_ne g_y g_a2 (by decide))))))))))), ← e_v1, (u2_row e_M33 (so_ne (hI.2.1.r1 g_y 17 117 (by decide) rfl) g_y (by decide))), e_M29, e_a26, u2_s]).symm (by rw [← ((u2_wr e_M33)), e_v32, iv_mulE (x := 560) (y := v1) kc_560 i_v1 (by decide) (by decide) (by decide), show (560 : Int32).toInt = 560 by decide, ((u2_st (a := y) (k := 36) e_M33 (u2_k (by decide))).trans ((u2_st (a := y) (k := 36) e_M29 (u2_a (so_ne g_y g_a26 (by decide)))).trans ((u2_st (a := y) (k := 36) e_M25 (u2_a (so_ne g_y g_a22 (by decide)))).trans ((u2_st (a := y) (k := 36) e_M21 (u2_a (so_ne g_y g_a18 (by decide)))).trans ((u2_st (a := y) (k := 36) e_M17 (u2_a (so_ne g_y g_a14 (by decide)))).trans ((u2_st (a := y) (k := 36) e_M13 (u2_a (so_ne g_y g_a10 (by decide)))).trans ((u2_st (a := y) (k := 36) e_M9 (u2_a (so_ne g_y g_a6 (by decide)))).trans (u2_st (a := y) (k := 36) e_M5 (u2_a (so_ne g_y g_a2 (by decide))))))))))), ← e_v1]))⟩ dX9_clearBank_82
abbrev e_h_mews_X9 : List (Nat × Nat) := [(9, 2), (9, 3), (9, 4), (9, 5), (9, 6), (9, 7), (9, 8), (9, 9), (9, 35), (9, 36), (9, 37), (9, 38), (9, 39), (9, 40), (9, 50), (9, 51), (9, 54), (9, 63), (101, 999), (111, 999), (112, 999), (113, 999), (114, 999), (115, 999), (116, 999), (117, 999), (118, 999), (119, 999), (120, 999), (121, 999), (122, 999), (123, 999), (124, 999), (125, 999), (126, 999), (130, 999), (131, 999), (132, 999), (133, 999), (145, 999), (166, 999)]
set_option maxHeartbeats 4000000 in
set_option maxRecDepth 100000 in
theorem h_mews_X9 (l : Launch) (D : va_G) (g : Nat → ClassId) (σ : Nat → Option Nat) (Z : State → Heap → Prop) (hZ0 : hZ σ Z) (M : hM) (N : hN) (R : hR) (y : Nat) (g_y : σ y = some 9) (m0_KV : KV M R y) (m0_HV : HV M R y) (m0_CW : CW M R y) (m0_WV : WV M R y) (m0_BV : BV M R y) : Met l yX9_mews wsX9_mews ({ frames := 7, cells := 0, slots := 0, locals := 159 }) (va_Pc [.ref y] (hPre D g σ Z M N R)) (hQi D g σ e_h_mews_X9 M (fun (r : Int32) (M1 : hM) (N1 : hN) (R1 : hR) => R = R1 ∧ iv r (-1) 7 ∧ (KV M1 R y) ∧ (HV M1 R y) ∧ (CW M1 R y) ∧ (WV M1 R y) ∧ (BV M1 R y))) 0 0 (hA σ) := by
  refine h_head (cc := cX9_mews) (maxL := 2) (ret := (some .int)) (by decide) rfl (Nat.le_of_ble_eq_true rfl) e_h_mews_X9 ?_
  intro p e s m below meth c ls Q ar hQ hx hb hr hlocks hml hown hts hK hE H locs hI hl
  have hown : s.vm.findClass RX9 = some m.cls := hown
  have hl : lv_has ls 2 [(0, .ref y)] := hl
  have hT0 := hI.2.1
  refine lv_aload_n hx hb dX9_mews_0 rfl (lv_at hl 0 rfl) ?_
  refine lv_iconst (v := 0) hx hb dX9_mews_1 (by decide) ?_
  refine h_puti hx hb hts iX9_mews_X9 tyX9 tyX9_ok nmX9 hown hK hI g_y (by decide) rfl rfl 4 (by decide) rfl (hts (.fieldLink RX9 155 "CatLeasesModel" "faultKind" "I") (List.mem_of_getElem? (i := 1) rfl)) (fun _ h9 => h9) rfl .int (by decide +kernel) rfl rfl (iv_w (lo' := 0) (hi' := 5) kc_0 (by decide) (by decide)) rfl dX9_mews_2 (fun M1 H locs e_M1 hI => ?_)
  refine lv_aload_n hx hb dX9_mews_5 rfl (lv_at hl 0 rfl) ?_
  refine lv_iconst (v := (-1)) hx hb dX9_mews_6 (by decide) ?_
  refine h_puti hx hb hts iX9_mews_X9 tyX9 tyX9_ok nmX9 hown hK hI g_y (by decide) rfl rfl 5 (by decide) rfl (hts (.fieldLink RX9 16 "CatLeasesModel" "faultPlace" "I") (List.mem_of_getElem? (i := 2) rfl)) (fun _ h9 => h9) rfl .int (by decide +kernel) rfl rfl (iv_w (lo' := (-2147483648)) (hi' := 2147483647) kc_m1 (by decide) (by decide)) rfl dX9_mews_7 (fun M2 H locs e_M2 hI => ?_)
  refine lv_aload_n hx hb dX9_mews_10 rfl (lv_at hl 0 rfl) ?_
  refine lv_aload_n hx hb dX9_mews_11 rfl (lv_at hl 0 rfl) ?_
  refine h_geti (lo := 0) (hi := 1600) hx hb hts iX9_mews_X9 hown hK hI g_y (by decide) rfl rfl 2 (by decide) rfl rfl (hts (.fieldLink RX9 265 "CatLeasesModel" "taped" "I") (List.mem_of_getElem? (i := 3) rfl)) (fun _ h9 => h9) dX9_mews_12 (fun v3 e_v3 i_v3 => ?_)
  refine h_puti hx hb hts iX9_mews_X9 tyX9 tyX9_ok nmX9 hown hK hI g_y (by decide) rfl rfl 3 (by decide) rfl (hts (.fieldLink RX9 152 "CatLeasesModel" "size" "I") (List.mem_of_getElem? (i := 4) rfl)) (fun _ h9 => h9) rfl .int (by decide +kernel) rfl rfl i_v3 rfl dX9_mews_15 (fun M4 H locs e_M4 hI => ?_)
  refine lv_iconst (v := 0) hx hb dX9_mews_18 (by decide) ?_
  have J20 : ∀ (n : Nat) (M_20 : hM) (v1_20 : Int32) (H : Heap) (locs : List Loc) (ls : Array Slot), kI D g σ e_h_mews_X9 M s.heap M_20 N R H locs → lv_has ls 2 [(0, .ref y), (1, .int v1_20)] → v3 = M_20 y 2 → v3 = M_20 y 3 → (0 : Int32) = M_20 y 4 → (-1 : Int32) = M_20 y 5 → PBx M M_20 R y → iv v1_20 0 1600 → 1601 ≤ v1_20.toInt + (n : Int) → W p l e (headSpec wsX9_mews ({ frames := 7, cells := 0, slots := 0, locals := 159 })).room s m ar below meth c H locs 0 0 Q (F0 m 20 ls []) := by
    intro n
    induction n with
    | zero => intro M_20 v1_20 H locs ls hI hl k0_20 k1_20 k2_20 k3_20 m_PB_20 i_v1_20 hn; exfalso; have hz := i_v1_20; simp only [iv] at hz; omega
    | succ n ih20 =>
      intro M_20 v1_20 H locs ls hI hl k0_20 k1_20 k2_20 k3_20 m_PB_20 i_v1_20 hn20
      refine lv_iload_n hx hb dX9_mews_20 rfl (lv_at hl 1 rfl) ?_
      refine lv_aload_n hx hb dX9_mews_21 rfl (lv_at hl 0 rfl) ?_
      refine h_geti (lo := 0) (hi := 1600) hx hb hts iX9_mews_X9 hown hK hI g_y (by decide) rfl rfl 3 (by decide) rfl rfl (hts (.fieldLink RX9 152 "CatLeasesModel" "size" "I") (List.mem_of_getElem? (i := 4) rfl)) (fun _ h9 => h9) dX9_mews_22 (fun v5 e_v5 i_v5 => ?_)
      have q6 : v3 = v5 := (k1_20).trans e_v5.symm
      subst q6
      refine lv_icmp_ge (tgt := 46) hx hb dX9_mews_25 (by decide) (fun c7 => ?_) (fun c7 => ?_)
      · refine lv_aload_n hx hb dX9_mews_46 rfl (lv_at hl 0 rfl) ?_
        refine lv_iconst (v := 0) hx hb dX9_mews_47 (by decide) ?_
        refine h_puti hx hb hts iX9_mews_X9 tyX9 tyX9_ok nmX9 hown hK hI g_y (by decide) rfl rfl 2 (by decide) rfl (hts (.fieldLink RX9 265 "CatLeasesModel" "taped" "I") (List.mem_of_getElem? (i := 3) rfl)) (fun _ h9 => h9) rfl .int (by decide +kernel) rfl rfl (iv_w (lo' := 0) (hi' := 1600) kc_0 (by decide) (by decide)) rfl dX9_mews_48 (fun M8 H locs e_M8 hI => ?_)
        refine lv_aload_n hx hb dX9_mews_51 rfl (lv_at hl 0 rfl) ?_
        refine lv_iconst (v := 0) hx hb dX9_mews_52 (by decide) ?_
        have s39 : iv (M8 y 3) 0 1600 := hI.iv1 (a := y) (j := 3) (lo := 0) (hi := 1600) (n := 67) g_y rfl (by decide) rfl
        refine h_puti hx hb hts iX9_mews_X9 tyX9 tyX9_ok nmX9 hown hK hI g_y (by decide) rfl rfl 7 (by decide) rfl (hts (.fieldLink RX9 196 "CatLeasesModel" "end" "I") (List.mem_of_getElem? (i := 7) rfl)) (fun _ h9 => h9) rfl .int (by decide +kernel) rfl rfl (iv_w (lo' := 0) (hi' := 1601) kc_0 (by decide) (by decide)) rfl dX9_mews_53 (fun M9 H locs e_M9 hI => ?_)
        have m10 : PI M9 y := PI_0 e_M9 rfl s39
        refine lv_aload_n hx hb dX9_mews_56 rfl (lv_at hl 0 rfl) ?_
        refine lv_iconst (v := 1) hx hb dX9_mews_57 (by decide) ?_
        refine lv_aload_n hx hb dX9_mews_58 rfl (lv_at hl 0 rfl) ?_
        refine h_geti (lo := 0) (hi := 1) hx hb hts iX9_mews_X9 hown hK hI g_y (by decide) rfl rfl 35 (by decide) rfl rfl (hts (.fieldLink RX9 268 "CatLeasesModel" "bank" "I") (List.mem_of_getElem? (i := 8) rfl)) (fun _ h9 => h9) dX9_mews_59 (fun v11 e_v11 i_v11 => ?_)
        refine lv_isub hx hb dX9_mews_62 ?_
        refine h_nm (lo := 0) (hi := 1) (iv_sub kc_1 i_v11 (by decide) (by decide) (by decide) (by decide)) (fun v12 e_v12 i_v12 => ?_)
        refine h_puti hx hb hts iX9_mews_X9 tyX9 tyX9_ok nmX9 hown hK hI g_y (by decide) rfl rfl 36 (by decide) rfl (hts (.fieldLink RX9 259 "CatLeasesModel" "rb" "I") (List.mem_of_getElem? (i := 9) rfl)) (fun _ h9 => h9) rfl .int (by decide +kernel) rfl rfl i_v12 rfl dX9_mews_63 (fun M13 H locs e_M13 hI => ?_)
        have m14 : RB M13 y := RB_put e_M13 e_v12 (e_v11) i_v11
        refine lv_aload_n hx hb dX9_mews_66 rfl (lv_at hl 0 rfl) ?_
        refine h_gov hI (by decide) (va_runV (As := []) (rest := []) ⟨hx, hb, hml, hown, hts⟩ (h_clearRB_X9 l D g σ Z hZ0 M13 N R y g_y m14) (cwV 0 hts gX9_mews_X9_clearBank rfl rfl rfl (by decide +kernel) ⟨Nat.le_of_ble_eq_true rfl, Nat.le_of_ble_eq_true rfl⟩) (h_preV hZ0 hK hE hI g_y (by decide) rfl) rfl rfl hl.1 rfl (lv_room (Nat.le_of_ble_eq_true rfl)) dX9_mews_67 ⟨Nat.le_of_ble_eq_true rfl, Nat.le_of_ble_eq_true rfl⟩) (fun M16 N17 R18 H locs q19 z_M16 hI => ?_)
        obtain ⟨rfl, rfl, m20, z21⟩ := q19
        refine lv_aload_n hx hb dX9_mews_70 rfl (lv_at hl 0 rfl) ?_
        have J74 : ∀ (n : Nat) (M_74 : hM) (N_74 : hN) (H : Heap) (locs : List Loc) (ls : Array Slot), kI D g σ e_h_mews_X9 M s.heap M_74 N_74 R H locs → lv_has ls 2 [(0, .ref y)] → (0 : Int32) = M_74 y 2 → v3 = M_74 y 3 → v11 = M_74 y 35 → v12 = M_74 y 36 → PBx M M_74 R y → PI M_74 y → PH M_74 R y → RB M_74 y → gn M_74 y < (n : Int) → W p l e (headSpec wsX9_mews ({ frames := 7, cells := 0, slots := 0, locals := 159 })).room s m ar below meth c H locs 0 0 Q (F0 m 74 ls []) := by
          intro n
          induction n with
          | zero => intro M_74 N_74 H locs ls hI hl k0_74 k1_74 k2_74 k3_74 m_PB_74 m_PI_74 m_PH_74 m_RB_74 hn; exfalso; have hz := gn_nn m_PI_74; omega
          | succ n ih74 =>
            intro M_74 N_74 H locs ls hI hl k0_74 k1_74 k2_74 k3_74 m_PB_74 m_PI_74 m_PH_74 m_RB_74 hn74
            refine lv_aload_n hx hb dX9_mews_74 rfl (lv_at hl 0 rfl) ?_
            refine h_goi hI (by decide) (va_runV (As := []) (rest := []) ⟨hx, hb, hml, hown, hts⟩ (h_isGood_X9 l D g σ Z hZ0 M_74 N_74 R y g_y) (cwV 0 hts gX9_mews_X9_isGood rfl rfl rfl (by decide +kernel) ⟨Nat.le_of_ble_eq_true rfl, Nat.le_of_ble_eq_true rfl⟩) (h_preV hZ0 hK hE hI g_y (by decide) rfl) rfl rfl hl.1 rfl (lv_room (Nat.le_of_ble_eq_true rfl)) dX9_mews_75 ⟨Nat.le_of_ble_eq_true rfl, Nat.le_of_ble_eq_true rfl⟩) (fun r22 M23 N24 R25 H locs q26 z_M23 hI => ?_)
            obtain ⟨rfl, rfl, rfl, i_r22, z27, z28⟩ := q26
            refine lv_if_eq (tgt := 95) hx hb dX9_mews_78 (by decide) (fun c29 => ?_) (fun c29 => ?_)
            · obtain ⟨v30, e_v30⟩ : ∃ z : Int32, z = M_74 y 4 := ⟨_, rfl⟩
              have i_v30 : iv v30 0 5 := by rw [e_v30]; exact hI.iv1 (n := 67) g_y rfl (by decide) rfl
              have i31 : iv v30 1 5 := iv_neL (fun h9 => z28 c29 (e_v30.symm.trans h9)) i_v30 (by decide) (by decide)
              have i32 : iv r22 0 0 := iv_eq1 c29 i_r22 kc_0
              refine lv_aload_n hx hb dX9_mews_95 rfl (lv_at hl 0 rfl) ?_
              refine h_goi hI (by decide) (va_runV (As := []) (rest := []) ⟨hx, hb, hml, hown, hts⟩ (h_isGood_X9 l D g σ Z hZ0 M_74 N_74 R y g_y) (cwV 0 hts gX9_mews_X9_isGood rfl rfl rfl (by decide +kernel) ⟨Nat.le_of_ble_eq_true rfl, Nat.le_of_ble_eq_true rfl⟩) (h_preV hZ0 hK hE hI g_y (by decide) rfl) rfl rfl hl.1 rfl (lv_room (Nat.le_of_ble_eq_true rfl)) dX9_mews_96 ⟨Nat.le_of_ble_eq_true rfl, Nat.le_of_ble_eq_true rfl⟩) (fun r33 M34 N35 R36 H locs q37 z_M34 hI => ?_)
              obtain ⟨rfl, rfl, rfl, i_r33, z38, z39⟩ := q37
              refine lv_if_ne (tgt := 104) hx hb dX9_mews_99 (by decide) (fun c40 => ?_) (fun c40 => ?_)
              · exact absurd ((e_v30).trans (z38 c40)) (iv_ne i31 kc_0 (by decide))
              · have i41 : iv r33 0 0 := iv_eq1 c40 i_r33 kc_0
                refine lv_iconst (v := (-1)) hx hb dX9_mews_102 (by decide) ?_
                exact h_iret hQ hx hb hr hlocks rfl hK hI ⟨rfl, (iv_w (lo' := (-1)) (hi' := 7) kc_m1 (by decide) (by decide)), (KV_px m0_KV m_PB_74), (HV_px hT0 g_y m0_HV m_PB_74), (CW_px m0_CW m_PB_74), (WV_px m0_WV m_PB_74), (BV_px m0_BV m_PB_74)⟩ dX9_mews_103
            · obtain ⟨v42, e_v42⟩ : ∃ z : Int32, z = M_74 y 4 := ⟨_, rfl⟩
              have i_v42 : iv v42 0 5 := by rw [e_v42]; exact hI.iv1 (n := 67) g_y rfl (by decide) rfl
              have i43 : iv v42 0 0 := by rw [e_v42, z27 c29]; exact kc_0
              have i44 : iv r22 1 1 := iv_neL c29 i_r22 (by decide) (by decide)
              refine lv_aload_n hx hb dX9_mews_81 rfl (lv_at hl 0 rfl) ?_
              refine h_geti (lo := (-2147483648)) (hi := 2147483647) hx hb hts iX9_mews_X9 hown hK hI g_y (by decide) rfl rfl 8 (by decide) rfl rfl (hts (.fieldLink RX9 206 "CatLeasesModel" "token" "I") (List.mem_of_getElem? (i := 10) rfl)) (fun _ h9 => h9) dX9_mews_82 (fun v45 e_v45 i_v45 => ?_)
              refine lv_if_eq (tgt := 95) hx hb dX9_mews_85 (by decide) (fun c46 => ?_) (fun c46 => ?_)
              · have i47 : iv v45 0 0 := iv_eq1 c46 i_v45 kc_0
                refine lv_aload_n hx hb dX9_mews_95 rfl (lv_at hl 0 rfl) ?_
                refine h_goi hI (by decide) (va_runV (As := []) (rest := []) ⟨hx, hb, hml, hown, hts⟩ (h_isGood_X9 l D g σ Z hZ0 M_74 N_74 R y g_y) (cwV 0 hts gX9_mews_X9_isGood rfl rfl rfl (by decide +kernel) ⟨Nat.le_of_ble_eq_true rfl, Nat.le_of_ble_eq_true rfl⟩) (h_preV hZ0 hK hE hI g_y (by decide) rfl) rfl rfl hl.1 rfl (lv_room (Nat.le_of_ble_eq_true rfl)) dX9_mews_96 ⟨Nat.le_of_ble_eq_true rfl, Nat.le_of_ble_eq_true rfl⟩) (fun r48 M49 N50 R51 H locs q52 z_M49 hI => ?_)
                obtain ⟨rfl, rfl, rfl, i_r48, z53, z54⟩ := q52
                refine lv_if_ne (tgt := 104) hx hb dX9_mews_99 (by decide) (fun c55 => ?_) (fun c55 => ?_)
                · have i56 : iv v42 0 0 := by rw [(e_v42), z53 c55]; exact kc_0
                  have i57 : iv r48 1 1 := iv_neL c55 i_r48 (by decide) (by decide)
                  refine lv_aload_n hx hb dX9_mews_104 rfl (lv_at hl 0 rfl) ?_
                  refine lv_aload_n hx hb dX9_mews_105 rfl (lv_at hl 0 rfl) ?_
                  refine h_geti (lo := 0) (hi := 1) hx hb hts iX9_mews_X9 hown hK hI g_y (by decide) rfl rfl 36 (by decide) rfl rfl (hts (.fieldLink RX9 259 "CatLeasesModel" "rb" "I") (List.mem_of_getElem? (i := 9) rfl)) (fun _ h9 => h9) dX9_mews_106 (fun v58 e_v58 i_v58 => ?_)
                  have q59 : v12 = v58 := (k3_74).trans e_v58.symm
                  subst q59
                  refine h_puti hx hb hts iX9_mews_X9 tyX9 tyX9_ok nmX9 hown hK hI g_y (by decide) rfl rfl 35 (by decide) rfl (hts (.fieldLink RX9 268 "CatLeasesModel" "bank" "I") (List.mem_of_getElem? (i := 8) rfl)) (fun _ h9 => h9) rfl .int (by decide +kernel) rfl rfl i_v12 rfl dX9_mews_109 (fun M60 H locs e_M60 hI => ?_)
                  have pb9 := PH_bank hI.2.1 g_y m_PH_74 (gd_of (e_v42) i56) e_M60 (show v12 = M_74 y 36 from k3_74)
                  refine lv_aload_n hx hb dX9_mews_112 rfl (lv_at hl 0 rfl) ?_
                  refine h_gov hI (by decide) (va_runV (As := []) (rest := []) ⟨hx, hb, hml, hown, hts⟩ (h_startAnew_X9 l D g σ Z hZ0 M60 N_74 R y g_y) (cwV 0 hts gX9_mews_X9_startAnew rfl rfl rfl (by decide +kernel) ⟨Nat.le_of_ble_eq_true rfl, Nat.le_of_ble_eq_true rfl⟩) (h_preV hZ0 hK hE hI g_y (by decide) rfl) rfl rfl hl.1 rfl (lv_room (Nat.le_of_ble_eq_true rfl)) dX9_mews_113 ⟨Nat.le_of_ble_eq_true rfl, Nat.le_of_ble_eq_true rfl⟩) (fun M62 N63 R64 H locs q65 z_M62 hI => ?_)
                  obtain ⟨rfl, rfl, z66, z67, z68⟩ := q65
                  refine lv_aload_n hx hb dX9_mews_116 rfl (lv_at hl 0 rfl) ?_
                  refine h_getr hx hb hts iX9_mews_X9 hown hK hI g_y (by decide) rfl rfl 13 (by decide) rfl 113 rfl (hts (.fieldLink RX9 27 "CatLeasesModel" "tenants" "[I") (List.mem_of_getElem? (i := 11) rfl)) (fun _ h9 => h9) dX9_mews_117 (fun a69 e_a69 g_a69 => ?_)
                  refine lv_aload_n hx hb dX9_mews_120 rfl (lv_at hl 0 rfl) ?_
                  refine h_geti (lo := 0) (hi := 1) hx hb hts iX9_mews_X9 hown hK hI g_y (by decide) rfl rfl 35 (by decide) rfl rfl (hts (.fieldLink RX9 268 "CatLeasesModel" "bank" "I") (List.mem_of_getElem? (i := 8) rfl)) (fun _ h9 => h9) dX9_mews_121 (fun v70 e_v70 i_v70 => ?_)
                  have q71 : v12 = v70 := (((u2_wr e_M60)).trans (z_M62 y 9 35 g_y rfl).symm).trans e_v70.symm
                  subst q71
                  refine h_iald (j := v12.toNatClampNeg) (lo := 0) (hi := 7) hx hb hK hI g_a69 (by decide) rfl (iv_in (n := 2) i_v12 (by decide) (by decide)) rfl (hI.iv1 (n := 2) g_a69 rfl (in_lt (iv_in (n := 2) i_v12 (by decide) (by decide))) rfl) dX9_mews_124 (fun v72 e_v72 i_v72 => ?_)
                  have m73 : HV M62 R y := (HV_ag hI.2.1 g_y pb9.1 (hAd.ag z_M62 (by decide)))
                  have m74 : CW M62 R y := (CW_ag hI.2.1 g_y pb9.2.2 (hAd.ag z_M62 (by decide)))
                  exact h_iret hQ hx hb hr hlocks rfl hK hI ⟨rfl, (iv_w (lo' := (-1)) (hi' := 7) i_v72 (by decide) (by decide)), (z66 pb9.2.1), m73, m74, z67, z68⟩ dX9_mews_125
                · exact absurd (iv_one (by rw [← (e_v42)]; exact i43) (by decide)) (z54 c55)
              · refine lv_aload_n hx hb dX9_mews_88 rfl (lv_at hl 0 rfl) ?_
                refine h_gov hI (by decide) (va_runV (As := []) (rest := []) ⟨hx, hb, hml, hown, hts⟩ (h_readLine_X9 l D g σ Z hZ0 M_74 N_74 R y g_y m_PI_74 m_PH_74 m_RB_74 (gd_of (e_v42) i43)) (cwV 0 hts gX9_mews_X9_readLine rfl rfl rfl (by decide +kernel) ⟨Nat.le_of_ble_eq_true rfl, Nat.le_of_ble_eq_true rfl⟩) (h_preV hZ0 hK hE hI g_y (by decide) rfl) rfl rfl hl.1 rfl (lv_room (Nat.le_of_ble_eq_true rfl)) dX9_mews_89 ⟨Nat.le_of_ble_eq_true rfl, Nat.le_of_ble_eq_true rfl⟩) (fun M76 N77 R78 H locs q79 z_M76 hI => ?_)
                obtain ⟨rfl, m80, m81, m82, m83, z84⟩ := q79
                refine lv_goto (tgt := 74) hx hb dX9_mews_92 (by decide) ?_
                have m85 : PBx M M76 R y := (PBx_tr m_PB_74 m82)
                have m86 : RB M76 y := (RB_ag hI.2.1 g_y m_RB_74 (hAd.ag z_M76 (by decide)))
                exact ih74 M76 N77 H locs ls hI hl ((k0_74).trans (z_M76 y 9 2 g_y rfl).symm) ((k1_74).trans (z_M76 y 9 3 g_y rfl).symm) ((k2_74).trans (z_M76 y 9 35 g_y rfl).symm) ((k3_74).trans (z_M76 y 9 36 g_y rfl).symm) m85 m80 m83 m86 (by have h9 := z84; omega)
        have m87 : PI M16 y := (PI_ag hI.2.1 g_y (PI_ag hI.2.1 g_y m10 (hAd.put e_M13 g_y rfl)) (hAd.ag z_M16 (by decide)))
        refine h_gov hI (by decide) (va_runV (As := []) (rest := []) ⟨hx, hb, hml, hown, hts⟩ (h_goOn_X9 l D g σ Z hZ0 M16 N R y g_y m87) (cwV 0 hts gX9_mews_X9_goOn rfl rfl rfl (by decide +kernel) ⟨Nat.le_of_ble_eq_true rfl, Nat.le_of_ble_eq_true rfl⟩) (h_preV hZ0 hK hE hI g_y (by decide) rfl) rfl rfl hl.1 rfl (lv_room (Nat.le_of_ble_eq_true rfl)) dX9_mews_71 ⟨Nat.le_of_ble_eq_true rfl, Nat.le_of_ble_eq_true rfl⟩) (fun M89 N90 R91 H locs q92 z_M89 hI => ?_)
        obtain ⟨rfl, z93, z94, z95⟩ := q92
        have m96 : PBx M M89 R y := (PBx_ag hI.2.1 g_y (PBx_tr (PBx_ag hI.2.1 g_y (PBx_ag hI.2.1 g_y (PBx_ag hI.2.1 g_y m_PB_20 (hAd.put e_M8 g_y rfl)) (hAd.put e_M9 g_y rfl)) (hAd.put e_M13 g_y rfl)) m20) (hAd.ag z_M89 (by decide)))
        have m97 : PH M89 R y := (PH_call9 hI.2.1 g_y z94 z_M89 (by decide) z21)
        have m98 : RB M89 y := (RB_ag hI.2.1 g_y (RB_ag hI.2.1 g_y m14 (hAd.ag z_M16 (by decide))) (hAd.ag z_M89 (by decide)))
        exact J74 ((gn M89 y).toNat + 1) M89 N90 H locs ls hI (lv_sub hl [0] rfl) ((((((u2_wr e_M8)).trans (u2_st (a := y) (k := 2) e_M9 (u2_k (by decide))).symm).trans (u2_st (a := y) (k := 2) e_M13 (u2_k (by decide))).symm).trans (z_M16 y 9 2 g_y rfl).symm).trans (z_M89 y 9 2 g_y rfl).symm) ((((((k1_20).trans (u2_st (a := y) (k := 3) e_M8 (u2_k (by decide))).symm).trans (u2_st (a := y) (k := 3) e_M9 (u2_k (by decide))).symm).trans (u2_st (a := y) (k := 3) e_M13 (u2_k (by decide))).symm).trans (z_M16 y 9 3 g_y rfl).symm).trans (z_M89 y 9 3 g_y rfl).symm) ((((e_v11).trans (u2_st (a := y) (k := 35) e_M13 (u2_k (by decide))).symm).trans (z_M16 y 9 35 g_y rfl).symm).trans (z_M89 y 9 35 g_y rfl).symm) ((((u2_wr e_M13)).trans (z_M16 y 9 36 g_y rfl).symm).trans (z_M89 y 9 36 g_y rfl).symm) m96 z93 m97 m98 (by have h9 := gn_nn (y := y) z93; omega)
      · have i99 : iv v3 1 1600 := iv_nle1 c7 i_v3 i_v1_20 (by decide)
        have i100 : iv v1_20 0 1599 := iv_nle2 c7 i_v3 i_v1_20 (by decide)
        refine lv_aload_n hx hb dX9_mews_28 rfl (lv_at hl 0 rfl) ?_
        refine h_getr hx hb hts iX9_mews_X9 hown hK hI g_y (by decide) rfl rfl 1 (by decide) rfl 101 rfl (hts (.fieldLink RX9 13 "CatLeasesModel" "text" "[B") (List.mem_of_getElem? (i := 5) rfl)) (fun _ h9 => h9) dX9_mews_29 (fun a101 e_a101 g_a101 => ?_)
        refine lv_iload_n hx hb dX9_mews_32 rfl (lv_at hl 1 rfl) ?_
        refine lv_aload_n hx hb dX9_mews_33 rfl (lv_at hl 0 rfl) ?_
        refine h_getr hx hb hts iX9_mews_X9 hown hK hI g_y (by decide) rfl rfl 0 (by decide) rfl 100 rfl (hts (.fieldLink RX9 7 "CatLeasesModel" "tape" "[B") (List.mem_of_getElem? (i := 6) rfl)) (fun _ h9 => h9) dX9_mews_34 (fun a102 e_a102 g_a102 => ?_)
        refine lv_iload_n hx hb dX9_mews_37 rfl (lv_at hl 1 rfl) ?_
        refine h_bald (j := v1_20.toNatClampNeg) (lo := (-2147483648)) (hi := 2147483647) hx hb hK hI g_a102 (by decide) rfl (iv_in (n := 1620) i100 (by decide) (by decide)) rfl (iv_any _) dX9_mews_38 (fun v103 e_v103 i_v103 => ?_)
        refine h_bast (j := v1_20.toNatClampNeg) hx hb hK hI g_a101 (by decide) rfl (iv_in (n := 1600) i100 (by decide) (by decide)) rfl (iv_any _) rfl dX9_mews_39 (fun M104 H locs e_M104 hI => ?_)
        obtain ⟨v105, e_v105⟩ : ∃ z : Int32, z = v1_20 + Int32.ofInt 1 := ⟨_, rfl⟩
        have i_v105 : iv v105 1 1600 := by rw [e_v105]; exact iv_add i100 (ki_1) (by decide) (by decide) (by decide) (by decide)
        refine lv_iinc (v := v105) (lv' := [(1, .int v105), (0, .ref y)]) hx hb dX9_mews_40 hl (k := 1) rfl e_v105.symm (by decide) rfl (fun ls hl => ?_)
        refine lv_goto (tgt := 20) hx hb dX9_mews_43 (by decide) ?_
        have m106 : PBx M M104 R y := (PBx_ag hI.2.1 g_y m_PB_20 (hAd.put e_M104 g_a101 rfl))
        exact ih20 M104 v105 H locs ls hI (lv_sub hl [1, 0] rfl) ((k0_20).trans (u2_st (a := y) (k := 2) e_M104 (u2_a (so_ne g_y g_a101 (by decide)))).symm) ((k1_20).trans (u2_st (a := y) (k := 3) e_M104 (u2_a (so_ne g_y g_a101 (by decide)))).symm) ((k2_20).trans (u2_st (a := y) (k := 4) e_M104 (u2_a (so_ne g_y g_a101 (by decide)))).symm) ((k3_20).trans (u2_st (a := y) (k := 5) e_M104 (u2_a (so_ne g_y g_a101 (by decide)))).symm) m106 (iv_w (lo' := 0) (hi' := 1600) i_v105 (by decide) (by decide)) (by have h9 := (h_inc e_v105 i100 ki_1 (by decide) (by decide)); omega)
  refine lv_istore_n (lv' := [(1, .int (0 : Int32)), (0, .ref y)]) hx hb dX9_mews_19 rfl hl (by decide) rfl (fun ls hl => ?_)
  have m107 : PBx M M4 R y := (PBx_ag hI.2.1 g_y (PBx_ag hI.2.1 g_y (PBx_ag hI.2.1 g_y PBx_rf (hAd.put e_M1 g_y rfl)) (hAd.put e_M2 g_y rfl)) (hAd.put e_M4 g_y rfl))
  exact J20 1601 M4 (0 : Int32) H locs ls hI (lv_sub hl [1, 0] rfl) ((e_v3).trans (u2_st (a := y) (k := 2) e_M4 (u2_k (by decide))).symm) ((u2_wr e_M4)) ((((u2_wr e_M1)).trans (u2_st (a := y) (k := 4) e_M2 (u2_k (by decide))).symm).trans (u2_st (a := y) (k := 4) e_M4 (u2_k (by decide))).symm) (((u2_wr e_M2)).trans (u2_st (a := y) (k := 5) e_M4 (u2_k (by decide))).symm) m107 (iv_w (lo' := 0) (hi' := 1600) kc_0 (by decide) (by decide)) (by have h9 := kc_0; simp only [iv] at h9; omega)
