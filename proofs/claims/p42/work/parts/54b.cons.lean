abbrev e_h_clear0_X9 : List (Nat × Nat) := [(9, 37), (111, 999), (112, 999), (113, 999), (114, 999), (115, 999), (116, 999), (117, 999)]
set_option maxHeartbeats 4000000 in
set_option maxRecDepth 100000 in
theorem h_clear0_X9 (l : Launch) (D : va_G) (g : Nat → ClassId) (σ : Nat → Option Nat) (Z : State → Heap → Prop) (hZ0 : hZ σ Z) (M : hM) (N : hN) (R : hR) (y : Nat) (g_y : σ y = some 9) : Met l yX9_clearBank wsX9_clearBank ({ frames := 0, cells := 0, slots := 0, locals := 0 }) (va_Pc [.ref y] (hPre D g σ Z M N R)) (hQv D g σ e_h_clear0_X9 M (fun (M1 : hM) (N1 : hN) (R1 : hR) => N = N1 ∧ R = R1 ∧ (CZ M1 R y))) 0 0 (hA σ) := by
  refine h_head (cc := cX9_clearBank) (maxL := 1) (ret := none) (by decide) rfl (Nat.le_of_ble_eq_true rfl) e_h_clear0_X9 ?_
  intro p e s m below meth c ls Q ar hQ hx hb hr hlocks hml hown hts hK hE H locs hI hl
  have hown : s.vm.findClass RX9 = some m.cls := hown
  have hl : lv_has ls 1 [(0, .ref y)] := hl
  obtain ⟨v1, e_v1⟩ : ∃ z : Int32, z = M y 36 := ⟨_, rfl⟩
  have i_v1 : iv v1 0 1 := by rw [e_v1]; exact hI.iv1 (n := 67) g_y rfl (by decide) rfl
  refine lv_aload_n hx hb dX9_clearBank_0 rfl (lv_at hl 0 rfl) ?_
  refine h_getr hx hb hts iX9_clearBank_X9 hown hK hI g_y (by decide) rfl rfl 11 (by decide) rfl 111 rfl (hts (.fieldLink RX9 20 "CatLeasesModel" "cats" "[I") (List.mem_of_getElem? (i := 1) rfl)) (fun _ h9 => h9) dX9_clearBank_1 (fun a2 e_a2 g_a2 => ?_)
  refine lv_aload_n hx hb dX9_clearBank_4 rfl (lv_at hl 0 rfl) ?_
  refine h_geti (lo := 0) (hi := 1) hx hb hts iX9_clearBank_X9 hown hK hI g_y (by decide) rfl rfl 36 (by decide) rfl rfl (hts (.fieldLink RX9 259 "CatLeasesModel" "rb" "I") (List.mem_of_getElem? (i := 2) rfl)) (fun _ h9 => h9) dX9_clearBank_5 (fun v3 e_v3 i_v3 => ?_)
  have q4 : v1 = v3 := (e_v1).trans e_v3.symm
  subst q4
  refine lv_iconst (v := 0) hx hb dX9_clearBank_8 (by decide) ?_
  refine h_iast (j := v1.toNatClampNeg) hx hb hK hI g_a2 (by decide) rfl (iv_in (n := 2) i_v1 (by decide) (by decide)) rfl (iv_w (lo' := 0) (hi' := 6) kc_0 (by decide) (by decide)) rfl dX9_clearBank_9 (fun M5 H locs e_M5 hI => ?_)
  refine lv_aload_n hx hb dX9_clearBank_10 rfl (lv_at hl 0 rfl) ?_
  refine h_getr hx hb hts iX9_clearBank_X9 hown hK hI g_y (by decide) rfl rfl 12 (by decide) rfl 112 rfl (hts (.fieldLink RX9 24 "CatLeasesModel" "rooms" "[I") (List.mem_of_getElem? (i := 3) rfl)) (fun _ h9 => h9) dX9_clearBank_11 (fun a6 e_a6 g_a6 => ?_)
  refine lv_aload_n hx hb dX9_clearBank_14 rfl (lv_at hl 0 rfl) ?_
  refine h_geti (lo := 0) (hi := 1) hx hb hts iX9_clearBank_X9 hown hK hI g_y (by decide) rfl rfl 36 (by decide) rfl rfl (hts (.fieldLink RX9 259 "CatLeasesModel" "rb" "I") (List.mem_of_getElem? (i := 2) rfl)) (fun _ h9 => h9) dX9_clearBank_15 (fun v7 e_v7 i_v7 => ?_)
  have q8 : v1 = v7 := ((e_v1).trans (u2_st (a := y) (k := 36) e_M5 (u2_a (so_ne g_y g_a2 (by decide)))).symm).trans e_v7.symm
  subst q8
  refine lv_iconst (v := 0) hx hb dX9_clearBank_18 (by decide) ?_
  refine h_iast (j := v1.toNatClampNeg) hx hb hK hI g_a6 (by decide) rfl (iv_in (n := 2) i_v1 (by decide) (by decide)) rfl (iv_w (lo' := 0) (hi' := 8) kc_0 (by decide) (by decide)) rfl dX9_clearBank_19 (fun M9 H locs e_M9 hI => ?_)
  refine lv_aload_n hx hb dX9_clearBank_20 rfl (lv_at hl 0 rfl) ?_
  refine h_getr hx hb hts iX9_clearBank_X9 hown hK hI g_y (by decide) rfl rfl 13 (by decide) rfl 113 rfl (hts (.fieldLink RX9 27 "CatLeasesModel" "tenants" "[I") (List.mem_of_getElem? (i := 4) rfl)) (fun _ h9 => h9) dX9_clearBank_21 (fun a10 e_a10 g_a10 => ?_)
  refine lv_aload_n hx hb dX9_clearBank_24 rfl (lv_at hl 0 rfl) ?_
  refine h_geti (lo := 0) (hi := 1) hx hb hts iX9_clearBank_X9 hown hK hI g_y (by decide) rfl rfl 36 (by decide) rfl rfl (hts (.fieldLink RX9 259 "CatLeasesModel" "rb" "I") (List.mem_of_getElem? (i := 2) rfl)) (fun _ h9 => h9) dX9_clearBank_25 (fun v11 e_v11 i_v11 => ?_)
  have q12 : v1 = v11 := (((e_v1).trans (u2_st (a := y) (k := 36) e_M5 (u2_a (so_ne g_y g_a2 (by decide)))).symm).trans (u2_st (a := y) (k := 36) e_M9 (u2_a (so_ne g_y g_a6 (by decide)))).symm).trans e_v11.symm
  subst q12
  refine lv_iconst (v := 0) hx hb dX9_clearBank_28 (by decide) ?_
  refine h_iast (j := v1.toNatClampNeg) hx hb hK hI g_a10 (by decide) rfl (iv_in (n := 2) i_v1 (by decide) (by decide)) rfl (iv_w (lo' := 0) (hi' := 7) kc_0 (by decide) (by decide)) rfl dX9_clearBank_29 (fun M13 H locs e_M13 hI => ?_)
  refine lv_aload_n hx hb dX9_clearBank_30 rfl (lv_at hl 0 rfl) ?_
  refine h_getr hx hb hts iX9_clearBank_X9 hown hK hI g_y (by decide) rfl rfl 14 (by decide) rfl 114 rfl (hts (.fieldLink RX9 30 "CatLeasesModel" "units" "[I") (List.mem_of_getElem? (i := 5) rfl)) (fun _ h9 => h9) dX9_clearBank_31 (fun a14 e_a14 g_a14 => ?_)
  refine lv_aload_n hx hb dX9_clearBank_34 rfl (lv_at hl 0 rfl) ?_
  refine h_geti (lo := 0) (hi := 1) hx hb hts iX9_clearBank_X9 hown hK hI g_y (by decide) rfl rfl 36 (by decide) rfl rfl (hts (.fieldLink RX9 259 "CatLeasesModel" "rb" "I") (List.mem_of_getElem? (i := 2) rfl)) (fun _ h9 => h9) dX9_clearBank_35 (fun v15 e_v15 i_v15 => ?_)
  have q16 : v1 = v15 := ((((e_v1).trans (u2_st (a := y) (k := 36) e_M5 (u2_a (so_ne g_y g_a2 (by decide)))).symm).trans (u2_st (a := y) (k := 36) e_M9 (u2_a (so_ne g_y g_a6 (by decide)))).symm).trans (u2_st (a := y) (k := 36) e_M13 (u2_a (so_ne g_y g_a10 (by decide)))).symm).trans e_v15.symm
  subst q16
  refine lv_iconst (v := 0) hx hb dX9_clearBank_38 (by decide) ?_
  refine h_iast (j := v1.toNatClampNeg) hx hb hK hI g_a14 (by decide) rfl (iv_in (n := 2) i_v1 (by decide) (by decide)) rfl (iv_any _) rfl dX9_clearBank_39 (fun M17 H locs e_M17 hI => ?_)
  refine lv_aload_n hx hb dX9_clearBank_40 rfl (lv_at hl 0 rfl) ?_
  refine h_getr hx hb hts iX9_clearBank_X9 hown hK hI g_y (by decide) rfl rfl 15 (by decide) rfl 115 rfl (hts (.fieldLink RX9 33 "CatLeasesModel" "dies" "[I") (List.mem_of_getElem? (i := 6) rfl)) (fun _ h9 => h9) dX9_clearBank_41 (fun a18 e_a18 g_a18 => ?_)
  refine lv_aload_n hx hb dX9_clearBank_44 rfl (lv_at hl 0 rfl) ?_
  refine h_geti (lo := 0) (hi := 1) hx hb hts iX9_clearBank_X9 hown hK hI g_y (by decide) rfl rfl 36 (by decide) rfl rfl (hts (.fieldLink RX9 259 "CatLeasesModel" "rb" "I") (List.mem_of_getElem? (i := 2) rfl)) (fun _ h9 => h9) dX9_clearBank_45 (fun v19 e_v19 i_v19 => ?_)
  have q20 : v1 = v19 := (((((e_v1).trans (u2_st (a := y) (k := 36) e_M5 (u2_a (so_ne g_y g_a2 (by decide)))).symm).trans (u2_st (a := y) (k := 36) e_M9 (u2_a (so_ne g_y g_a6 (by decide)))).symm).trans (u2_st (a := y) (k := 36) e_M13 (u2_a (so_ne g_y g_a10 (by decide)))).symm).trans (u2_st (a := y) (k := 36) e_M17 (u2_a (so_ne g_y g_a14 (by decide)))).symm).trans e_v19.symm
  subst q20
  refine lv_iconst (v := 0) hx hb dX9_clearBank_48 (by decide) ?_
  refine h_iast (j := v1.toNatClampNeg) hx hb hK hI g_a18 (by decide) rfl (iv_in (n := 2) i_v1 (by decide) (by decide)) rfl (iv_any _) rfl dX9_clearBank_49 (fun M21 H locs e_M21 hI => ?_)
  refine lv_aload_n hx hb dX9_clearBank_50 rfl (lv_at hl 0 rfl) ?_
  refine h_getr hx hb hts iX9_clearBank_X9 hown hK hI g_y (by decide) rfl rfl 16 (by decide) rfl 116 rfl (hts (.fieldLink RX9 36 "CatLeasesModel" "draw" "[I") (List.mem_of_getElem? (i := 7) rfl)) (fun _ h9 => h9) dX9_clearBank_51 (fun a22 e_a22 g_a22 => ?_)
  refine lv_aload_n hx hb dX9_clearBank_54 rfl (lv_at hl 0 rfl) ?_
  refine h_geti (lo := 0) (hi := 1) hx hb hts iX9_clearBank_X9 hown hK hI g_y (by decide) rfl rfl 36 (by decide) rfl rfl (hts (.fieldLink RX9 259 "CatLeasesModel" "rb" "I") (List.mem_of_getElem? (i := 2) rfl)) (fun _ h9 => h9) dX9_clearBank_55 (fun v23 e_v23 i_v23 => ?_)
  have q24 : v1 = v23 := ((((((e_v1).trans (u2_st (a := y) (k := 36) e_M5 (u2_a (so_ne g_y g_a2 (by decide)))).symm).trans (u2_st (a := y) (k := 36) e_M9 (u2_a (so_ne g_y g_a6 (by decide)))).symm).trans (u2_st (a := y) (k := 36) e_M13 (u2_a (so_ne g_y g_a10 (by decide)))).symm).trans (u2_st (a := y) (k := 36) e_M17 (u2_a (so_ne g_y g_a14 (by decide)))).symm).trans (u2_st (a := y) (k := 36) e_M21 (u2_a (so_ne g_y g_a18 (by decide)))).symm).trans e_v23.symm
  subst q24
  refine lv_iconst (v := 0) hx hb dX9_clearBank_58 (by decide) ?_
  refine h_iast (j := v1.toNatClampNeg) hx hb hK hI g_a22 (by decide) rfl (iv_in (n := 2) i_v1 (by decide) (by decide)) rfl (iv_any _) rfl dX9_clearBank_59 (fun M25 H locs e_M25 hI => ?_)
  refine lv_aload_n hx hb dX9_clearBank_60 rfl (lv_at hl 0 rfl) ?_
  refine h_getr hx hb hts iX9_clearBank_X9 hown hK hI g_y (by decide) rfl rfl 17 (by decide) rfl 117 rfl (hts (.fieldLink RX9 39 "CatLeasesModel" "told" "[I") (List.mem_of_getElem? (i := 8) rfl)) (fun _ h9 => h9) dX9_clearBank_61 (fun a26 e_a26 g_a26 => ?_)
  refine lv_aload_n hx hb dX9_clearBank_64 rfl (lv_at hl 0 rfl) ?_
  refine h_geti (lo := 0) (hi := 1) hx hb hts iX9_clearBank_X9 hown hK hI g_y (by decide) rfl rfl 36 (by decide) rfl rfl (hts (.fieldLink RX9 259 "CatLeasesModel" "rb" "I") (List.mem_of_getElem? (i := 2) rfl)) (fun _ h9 => h9) dX9_clearBank_65 (fun v27 e_v27 i_v27 => ?_)
  have q28 : v1 = v27 := (((((((e_v1).trans (u2_st (a := y) (k := 36) e_M5 (u2_a (so_ne g_y g_a2 (by decide)))).symm).trans (u2_st (a := y) (k := 36) e_M9 (u2_a (so_ne g_y g_a6 (by decide)))).symm).trans (u2_st (a := y) (k := 36) e_M13 (u2_a (so_ne g_y g_a10 (by decide)))).symm).trans (u2_st (a := y) (k := 36) e_M17 (u2_a (so_ne g_y g_a14 (by decide)))).symm).trans (u2_st (a := y) (k := 36) e_M21 (u2_a (so_ne g_y g_a18 (by decide)))).symm).trans (u2_st (a := y) (k := 36) e_M25 (u2_a (so_ne g_y g_a22 (by decide)))).symm).trans e_v27.symm
  subst q28
  refine lv_iconst (v := 0) hx hb dX9_clearBank_68 (by decide) ?_
  refine h_iast (j := v1.toNatClampNeg) hx hb hK hI g_a26 (by decide) rfl (iv_in (n := 2) i_v1 (by decide) (by decide)) rfl (iv_any _) rfl dX9_clearBank_69 (fun M29 H locs e_M29 hI => ?_)
  refine lv_aload_n hx hb dX9_clearBank_70 rfl (lv_at hl 0 rfl) ?_
  refine lv_sipush (v := 560) hx hb dX9_clearBank_71 (by decide) ?_
  refine lv_aload_n hx hb dX9_clearBank_74 rfl (lv_at hl 0 rfl) ?_
  refine h_geti (lo := 0) (hi := 1) hx hb hts iX9_clearBank_X9 hown hK hI g_y (by decide) rfl rfl 36 (by decide) rfl rfl (hts (.fieldLink RX9 259 "CatLeasesModel" "rb" "I") (List.mem_of_getElem? (i := 2) rfl)) (fun _ h9 => h9) dX9_clearBank_75 (fun v30 e_v30 i_v30 => ?_)
  have q31 : v1 = v30 := ((((((((e_v1).trans (u2_st (a := y) (k := 36) e_M5 (u2_a (so_ne g_y g_a2 (by decide)))).symm).trans (u2_st (a := y) (k := 36) e_M9 (u2_a (so_ne g_y g_a6 (by decide)))).symm).trans (u2_st (a := y) (k := 36) e_M13 (u2_a (so_ne g_y g_a10 (by decide)))).symm).trans (u2_st (a := y) (k := 36) e_M17 (u2_a (so_ne g_y g_a14 (by decide)))).symm).trans (u2_st (a := y) (k := 36) e_M21 (u2_a (so_ne g_y g_a18 (by decide)))).symm).trans (u2_st (a := y) (k := 36) e_M25 (u2_a (so_ne g_y g_a22 (by decide)))).symm).trans (u2_st (a := y) (k := 36) e_M29 (u2_a (so_ne g_y g_a26 (by decide)))).symm).trans e_v30.symm
  subst q31
  refine lv_imul hx hb dX9_clearBank_78 ?_
  refine h_nm (lo := 0) (hi := 560) (iv_mul kc_560 i_v1 (by decide) (by decide) (by decide) (by decide) (by decide)) (fun v32 e_v32 i_v32 => ?_)
  refine h_puti hx hb hts iX9_clearBank_X9 tyX9 tyX9_ok nmX9 hown hK hI g_y (by decide) rfl rfl 37 (by decide) rfl (hts (.fieldLink RX9 262 "CatLeasesModel" "codes" "I") (List.mem_of_getElem? (i := 9) rfl)) (fun _ h9 => h9) rfl .int (by decide +kernel) rfl rfl (iv_w (lo' := 0) (hi' := 1120) i_v32 (by decide) (by decide)) rfl dX9_clearBank_79 (fun M33 H locs e_M33 hI => ?_)
  exact h_vret hQ hx hb hr hlocks hK hI ⟨rfl, rfl, ⟨(show (0 : Int32) = M33 (R y 11) (rbN M33 y) by rw [rbN, ((u2_st (a := y) (k := 36) e_M33 (u2_k (by decide))).trans ((u2_st (a := y) (k := 36) e_M29 (u2_a (so_ne g_y g_a26 (by decide)))).trans ((u2_st (a := y) (k := 36) e_M25 (u2_a (so_ne g_y g_a22 (by decide)))).trans ((u2_st (a := y) (k := 36) e_M21 (u2_a (so_ne g_y g_a18 (by decide)))).trans ((u2_st (a := y) (k := 36) e_M17 (u2_a (so_ne g_y g_a14 (by decide)))).trans ((u2_st (a := y) (k := 36) e_M13 (u2_a (so_ne g_y g_a10 (by decide)))).trans ((u2_st (a := y) (k := 36) e_M9 (u2_a (so_ne g_y g_a6 (by decide)))).trans (u2_st (a := y) (k := 36) e_M5 (u2_a (so_ne g_y g_a2 (by decide))))))))))), ← e_v1, ((u2_row e_M33 (so_ne (hI.2.1.r1 g_y 11 111 (by decide) rfl) g_y (by decide))).trans ((u2_row e_M29 (so_ne (hI.2.1.r1 g_y 11 111 (by decide) rfl) g_a26 (by decide))).trans ((u2_row e_M25 (so_ne (hI.2.1.r1 g_y 11 111 (by decide) rfl) g_a22 (by decide))).trans ((u2_row e_M21 (so_ne (hI.2.1.r1 g_y 11 111 (by decide) rfl) g_a18 (by decide))).trans ((u2_row e_M17 (so_ne (hI.2.1.r1 g_y 11 111 (by decide) rfl) g_a14 (by decide))).trans ((u2_row e_M13 (so_ne (hI.2.1.r1 g_y 11 111 (by decide) rfl) g_a10 (by decide))).trans (u2_row e_M9 (so_ne (hI.2.1.r1 g_y 11 111 (by decide) rfl) g_a6 (by decide))))))))), e_M5, e_a2, u2_s]).symm, (show (0 : Int32) = M33 (R y 12) (rbN M33 y) by rw [rbN, ((u2_st (a := y) (k := 36) e_M33 (u2_k (by decide))).trans ((u2_st (a := y) (k := 36) e_M29 (u2_a (so_ne g_y g_a26 (by decide)))).trans ((u2_st (a := y) (k := 36) e_M25 (u2_a (so_ne g_y g_a22 (by decide)))).trans ((u2_st (a := y) (k := 36) e_M21 (u2_a (so_ne g_y g_a18 (by decide)))).trans ((u2_st (a := y) (k := 36) e_M17 (u2_a (so_ne g_y g_a14 (by decide)))).trans ((u2_st (a := y) (k := 36) e_M13 (u2_a (so_ne g_y g_a10 (by decide)))).trans ((u2_st (a := y) (k := 36) e_M9 (u2_a (so_ne g_y g_a6 (by decide)))).trans (u2_st (a := y) (k := 36) e_M5 (u2_a (so_ne g_y g_a2 (by decide))))))))))), ← e_v1, ((u2_row e_M33 (so_ne (hI.2.1.r1 g_y 12 112 (by decide) rfl) g_y (by decide))).trans ((u2_row e_M29 (so_ne (hI.2.1.r1 g_y 12 112 (by decide) rfl) g_a26 (by decide))).trans ((u2_row e_M25 (so_ne (hI.2.1.r1 g_y 12 112 (by decide) rfl) g_a22 (by decide))).trans ((u2_row e_M21 (so_ne (hI.2.1.r1 g_y 12 112 (by decide) rfl) g_a18 (by decide))).trans ((u2_row e_M17 (so_ne (hI.2.1.r1 g_y 12 112 (by decide) rfl) g_a14 (by decide))).trans (u2_row e_M13 (so_ne (hI.2.1.r1 g_y 12 112 (by decide) rfl) g_a10 (by decide)))))))), e_M9, e_a6, u2_s]).symm, (show (0 : Int32) = M33 (R y 17) (rbN M33 y) by rw [rbN, ((u2_st (a := y) (k := 36) e_M33 (u2_k (by decide))).trans ((u2_st (a := y) (k := 36) e_M29 (u2_a (so_ne g_y g_a26 (by decide)))).trans ((u2_st (a := y) (k := 36) e_M25 (u2_a (so_ne g_y g_a22 (by decide)))).trans ((u2_st (a := y) (k := 36) e_M21 (u2_a (so_ne g_y g_a18 (by decide)))).trans ((u2_st (a := y) (k := 36) e_M17 (u2_a (so_ne g_y g_a14 (by decide)))).trans ((u2_st (a := y) (k := 36) e_M13 (u2_a (so_ne g_y g_a10 (by decide)))).trans ((u2_st (a := y) (k := 36) e_M9 (u2_a (so_ne g_y g_a6 (by decide)))).trans (u2_st (a := y) (k := 36) e_M5 (u2_a (so_ne g_y g_a2 (by decide))))))))))), ← e_v1, (u2_row e_M33 (so_ne (hI.2.1.r1 g_y 17 117 (by decide) rfl) g_y (by decide))), e_M29, e_a26, u2_s]).symm⟩⟩ dX9_clearBank_82
abbrev e_h_isIn2_X9 : List (Nat × Nat) := []
set_option maxHeartbeats 4000000 in
set_option maxRecDepth 100000 in
theorem h_isIn2_X9 (l : Launch) (D : va_G) (g : Nat → ClassId) (σ : Nat → Option Nat) (Z : State → Heap → Prop) (hZ0 : hZ σ Z) (M : hM) (N : hN) (R : hR) (p0 : Int32) (p1 : Int32) (p2 : Int32) : Met l yX9_isIn wsX9_isIn ({ frames := 0, cells := 0, slots := 0, locals := 0 }) (va_Pc [.int p0, .int p1, .int p2] (hPre D g σ Z M N R)) (hQi D g σ e_h_isIn2_X9 M (fun (r : Int32) (M1 : hM) (N1 : hN) (R1 : hR) => M = M1 ∧ N = N1 ∧ R = R1 ∧ iv r 0 1 ∧ (¬ r = 0 → p1 ≤ p0 ∧ p0 ≤ p2) ∧ (r = 0 → ¬ (p1 ≤ p0 ∧ p0 ≤ p2)))) 0 0 (hA σ) := by
  refine h_head (cc := cX9_isIn) (maxL := 3) (ret := (some .boolean)) (by decide) rfl (Nat.le_of_ble_eq_true rfl) e_h_isIn2_X9 ?_
  intro p e s m below meth c ls Q ar hQ hx hb hr hlocks hml hown hts hK hE H locs hI hl
  have hown : s.vm.findClass RX9 = some m.cls := hown
  have hl : lv_has ls 3 [(0, .int p0), (1, .int p1), (2, .int p2)] := hl
  refine lv_iload_n hx hb dX9_isIn_0 rfl (lv_at hl 0 rfl) ?_
  refine lv_iload_n hx hb dX9_isIn_1 rfl (lv_at hl 1 rfl) ?_
  refine lv_icmp_lt (tgt := 14) hx hb dX9_isIn_2 (by decide) (fun c1 => ?_) (fun c1 => ?_)
  · have i2 : iv p0 (-2147483648) 2147483646 := iv_lt1 c1 (iv_any p0) (iv_any p1) (by decide)
    have i3 : iv p1 (-2147483647) 2147483647 := iv_lt2 c1 (iv_any p0) (iv_any p1) (by decide)
    refine lv_iconst (v := 0) hx hb dX9_isIn_14 (by decide) ?_
    exact h_iret hQ hx hb hr hlocks rfl hK hI ⟨rfl, rfl, rfl, (iv_w (lo' := 0) (hi' := 1) kc_0 (by decide) (by decide)), (fun h9 => absurd rfl h9), (fun _ h8 => absurd h8.1 (Int32.not_le.mpr c1))⟩ dX9_isIn_15
  · refine lv_iload_n hx hb dX9_isIn_5 rfl (lv_at hl 0 rfl) ?_
    refine lv_iload_n hx hb dX9_isIn_6 rfl (lv_at hl 2 rfl) ?_
    refine lv_icmp_gt (tgt := 14) hx hb dX9_isIn_7 (by decide) (fun c4 => ?_) (fun c4 => ?_)
    · have i5 : iv p2 (-2147483648) 2147483646 := iv_lt1 c4 (iv_any p2) (iv_any p0) (by decide)
      have i6 : iv p0 (-2147483647) 2147483647 := iv_lt2 c4 (iv_any p2) (iv_any p0) (by decide)
      refine lv_iconst (v := 0) hx hb dX9_isIn_14 (by decide) ?_
      exact h_iret hQ hx hb hr hlocks rfl hK hI ⟨rfl, rfl, rfl, (iv_w (lo' := 0) (hi' := 1) kc_0 (by decide) (by decide)), (fun h9 => absurd rfl h9), (fun _ h8 => absurd h8.2 (Int32.not_le.mpr c4))⟩ dX9_isIn_15
    · refine lv_iconst (v := 1) hx hb dX9_isIn_10 (by decide) ?_
      refine lv_goto (tgt := 15) hx hb dX9_isIn_11 (by decide) ?_
      exact h_iret hQ hx hb hr hlocks rfl hK hI ⟨rfl, rfl, rfl, (iv_w (lo' := 0) (hi' := 1) kc_1 (by decide) (by decide)), (fun _ => ⟨(Int32.not_lt.mp c1), (Int32.not_lt.mp c4)⟩), (fun h9 => absurd h9 (by decide))⟩ dX9_isIn_15
abbrev e_h_laterV_X8 : List (Nat × Nat) := [(8, 13)]
set_option maxHeartbeats 4000000 in
set_option maxRecDepth 100000 in
theorem h_laterV_X8 (l : Launch) (D : va_G) (g : Nat → ClassId) (σ : Nat → Option Nat) (Z : State → Heap → Prop) (hZ0 : hZ σ Z) (M : hM) (N : hN) (R : hR) (x : Nat) (g_x : σ x = some 8) (p1 : Int32) : Met l yX8_later wsX8_later ({ frames := 0, cells := 0, slots := 0, locals := 0 }) (va_Pc [.ref x, .int p1] (hPre D g σ Z M N R)) (hQi D g σ e_h_laterV_X8 M (fun (r : Int32) (M1 : hM) (N1 : hN) (R1 : hR) => N = N1 ∧ R = R1 ∧ iv r (-2147483648) 100000 ∧ (LT (M x 13) p1 r (M1 x 13)))) 0 0 (hA σ) := by
  refine h_head (cc := cX8_later) (maxL := 2) (ret := (some .int)) (by decide) rfl (Nat.le_of_ble_eq_true rfl) e_h_laterV_X8 ?_
  intro p e s m below meth c ls Q ar hQ hx hb hr hlocks hml hown hts hK hE H locs hI hl
  have hown : s.vm.findClass RX8 = some m.cls := hown
  have hl : lv_has ls 2 [(0, .ref x), (1, .int p1)] := hl
  refine lv_iload_n hx hb dX8_later_0 rfl (lv_at hl 1 rfl) ?_
  refine lv_if_lt (tgt := 23) hx hb dX8_later_1 (by decide) (fun c1 => ?_) (fun c1 => ?_)
  · have i2 : iv p1 (-2147483648) (-1) := iv_lt1 c1 (iv_any p1) kc_0 (by decide)
    refine lv_iconst (v := (-1)) hx hb dX8_later_23 (by decide) ?_
    exact h_iret hQ hx hb hr hlocks rfl hK hI ⟨rfl, rfl, (iv_w (lo' := (-2147483648)) (hi' := 100000) kc_m1 (by decide) (by decide)), (Or.inl ⟨rfl, rfl, (Or.inl c1)⟩)⟩ dX8_later_24
  · have i3 : iv p1 0 2147483647 := iv_nlt1 c1 (iv_any p1) kc_0 (by decide)
    refine lv_iload_n hx hb dX8_later_4 rfl (lv_at hl 1 rfl) ?_
    refine lv_sipush (v := 1000) hx hb dX8_later_5 (by decide) ?_
    refine lv_icmp_gt (tgt := 23) hx hb dX8_later_8 (by decide) (fun c4 => ?_) (fun c4 => ?_)
    · have i5 : iv p1 1001 2147483647 := iv_lt2 c4 kc_1000 i3 (by decide)
      refine lv_iconst (v := (-1)) hx hb dX8_later_23 (by decide) ?_
      exact h_iret hQ hx hb hr hlocks rfl hK hI ⟨rfl, rfl, (iv_w (lo' := (-2147483648)) (hi' := 100000) kc_m1 (by decide) (by decide)), (Or.inl ⟨rfl, rfl, (Or.inr (Or.inl c4))⟩)⟩ dX8_later_24
    · have i6 : iv p1 0 1000 := iv_nlt2 c4 kc_1000 i3 (by decide)
      refine lv_aload_n hx hb dX8_later_11 rfl (lv_at hl 0 rfl) ?_
      refine h_geti (lo := (-2147483648)) (hi := 2147483647) hx hb hts iX8_later_X8 hown hK hI g_x (by decide) rfl rfl 13 (by decide) rfl rfl (hts (.fieldLink RX8 80 "CatLeases" "time" "I") (List.mem_of_getElem? (i := 1) rfl)) (fun _ h9 => h9) dX8_later_12 (fun v7 e_v7 i_v7 => ?_)
      refine lv_iload_n hx hb dX8_later_15 rfl (lv_at hl 1 rfl) ?_
      refine lv_iadd hx hb dX8_later_16 ?_
      refine h_nm (lo := (-2147483648)) (hi := 2147483647) (iv_any _) (fun v8 e_v8 i_v8 => ?_)
      refine lv_ldcw (v := 100000) hx hb hown (hts (.constant RX8 325 (100000)) (List.mem_of_getElem? (i := 2) rfl)) dX8_later_17 ?_
      refine lv_icmp_le (tgt := 25) hx hb dX8_later_20 (by decide) (fun c9 => ?_) (fun c9 => ?_)
      · have i10 : iv v8 (-2147483648) 100000 := iv_le1 c9 i_v8 kc_100000 (by decide)
        refine lv_aload_n hx hb dX8_later_25 rfl (lv_at hl 0 rfl) ?_
        refine lv_dup hx hb dX8_later_26 rfl ?_
        refine h_geti (lo := (-2147483648)) (hi := 2147483647) hx hb hts iX8_later_X8 hown hK hI g_x (by decide) rfl rfl 13 (by decide) rfl rfl (hts (.fieldLink RX8 80 "CatLeases" "time" "I") (List.mem_of_getElem? (i := 1) rfl)) (fun _ h9 => h9) dX8_later_27 (fun v11 e_v11 i_v11 => ?_)
        have q12 : v7 = v11 := (e_v7).trans e_v11.symm
        subst q12
        refine lv_iload_n hx hb dX8_later_30 rfl (lv_at hl 1 rfl) ?_
        refine lv_iadd hx hb dX8_later_31 ?_
        refine h_nm (lo := (-2147483648)) (hi := 2147483647) (iv_any _) (fun v13 e_v13 i_v13 => ?_)
        have q14 : v8 = v13 := e_v8.trans e_v13.symm
        subst q14
        refine h_puti hx hb hts iX8_later_X8 tyX8 tyX8_ok nmX8 hown hK hI g_x (by decide) rfl rfl 13 (by decide) rfl (hts (.fieldLink RX8 80 "CatLeases" "time" "I") (List.mem_of_getElem? (i := 1) rfl)) (fun _ h9 => h9) rfl .int (by decide +kernel) rfl rfl (iv_w (lo' := (-2147483648)) (hi' := 2147483647) i10 (by decide) (by decide)) rfl dX8_later_32 (fun M15 H locs e_M15 hI => ?_)
        refine lv_aload_n hx hb dX8_later_35 rfl (lv_at hl 0 rfl) ?_
        refine h_geti (lo := (-2147483648)) (hi := 2147483647) hx hb hts iX8_later_X8 hown hK hI g_x (by decide) rfl rfl 13 (by decide) rfl rfl (hts (.fieldLink RX8 80 "CatLeases" "time" "I") (List.mem_of_getElem? (i := 1) rfl)) (fun _ h9 => h9) dX8_later_36 (fun v16 e_v16 i_v16 => ?_)
        have q17 : v8 = v16 := ((u2_wr e_M15)).trans e_v16.symm
        subst q17
        exact h_iret hQ hx hb hr hlocks rfl hK hI ⟨rfl, rfl, i10, (Or.inr ⟨by rw [e_v8, e_v7], by rw [← ((u2_wr e_M15)), e_v8, e_v7], fun h9 => h9.elim c1 (fun h9 => h9.elim c4 (fun h9 => absurd h9 (Int32.not_lt.mpr (by rw [← e_v7, ← e_v8]; exact c9))))⟩)⟩ dX8_later_39
      · have i18 : iv v8 100001 2147483647 := iv_nle1 c9 i_v8 kc_100000 (by decide)
        refine lv_iconst (v := (-1)) hx hb dX8_later_23 (by decide) ?_
        exact h_iret hQ hx hb hr hlocks rfl hK hI ⟨rfl, rfl, (iv_w (lo' := (-2147483648)) (hi' := 100000) kc_m1 (by decide) (by decide)), (Or.inl ⟨rfl, rfl, (Or.inr (Or.inr (by rw [← e_v7, ← e_v8]; exact Int32.not_le.mp c9)))⟩)⟩ dX8_later_24
abbrev e_h_laterV_X9 : List (Nat × Nat) := [(9, 64)]
set_option maxHeartbeats 4000000 in
set_option maxRecDepth 100000 in
theorem h_laterV_X9 (l : Launch) (D : va_G) (g : Nat → ClassId) (σ : Nat → Option Nat) (Z : State → Heap → Prop) (hZ0 : hZ σ Z) (M : hM) (N : hN) (R : hR) (y : Nat) (g_y : σ y = some 9) (p1 : Int32) : Met l yX9_later wsX9_later ({ frames := 1, cells := 0, slots := 0, locals := 22 }) (va_Pc [.ref y, .int p1] (hPre D g σ Z M N R)) (hQi D g σ e_h_laterV_X9 M (fun (r : Int32) (M1 : hM) (N1 : hN) (R1 : hR) => N = N1 ∧ R = R1 ∧ iv r (-2147483648) 100000 ∧ (LT (M y 64) p1 r (M1 y 64)))) 0 0 (hA σ) := by
  refine h_head (cc := cX9_later) (maxL := 2) (ret := (some .int)) (by decide) rfl (Nat.le_of_ble_eq_true rfl) e_h_laterV_X9 ?_
  intro p e s m below meth c ls Q ar hQ hx hb hr hlocks hml hown hts hK hE H locs hI hl
  have hown : s.vm.findClass RX9 = some m.cls := hown
  have hl : lv_has ls 2 [(0, .ref y), (1, .int p1)] := hl
  refine lv_iload_n hx hb dX9_later_0 rfl (lv_at hl 1 rfl) ?_
  refine lv_iconst (v := 0) hx hb dX9_later_1 (by decide) ?_
  refine lv_sipush (v := 1000) hx hb dX9_later_2 (by decide) ?_
  refine h_goi hI (by decide) (va_runS (As := [.int p1, .int (0 : Int32), .int (1000 : Int32)]) (rest := []) ⟨hx, hb, hml, hown, hts⟩ (h_isIn2_X9 l D g σ Z hZ0 M N R p1 (0 : Int32) (1000 : Int32)) (va_cwS 3 hts gX9_later_X9_isIn rfl rfl rfl (by decide +kernel) ⟨Nat.le_of_ble_eq_true rfl, Nat.le_of_ble_eq_true rfl⟩) (h_preS hZ0 hK hE hI) rfl rfl hl.1 rfl (lv_room (Nat.le_of_ble_eq_true rfl)) dX9_later_5 ⟨Nat.le_of_ble_eq_true rfl, Nat.le_of_ble_eq_true rfl⟩) (fun r1 M2 N3 R4 H locs q5 z_M2 hI => ?_)
  obtain ⟨rfl, rfl, rfl, i_r1, z6, z7⟩ := q5
  refine lv_if_eq (tgt := 23) hx hb dX9_later_8 (by decide) (fun c8 => ?_) (fun c8 => ?_)
  · have i9 : iv r1 0 0 := iv_eq1 c8 i_r1 kc_0
    refine lv_iconst (v := (-1)) hx hb dX9_later_23 (by decide) ?_
    exact h_iret hQ hx hb hr hlocks rfl hK hI ⟨rfl, rfl, (iv_w (lo' := (-2147483648)) (hi' := 100000) kc_m1 (by decide) (by decide)), (Or.inl ⟨rfl, rfl, (isin_no (z7 c8))⟩)⟩ dX9_later_24
  · have i10 : iv r1 1 1 := iv_neL c8 i_r1 (by decide) (by decide)
    refine lv_aload_n hx hb dX9_later_11 rfl (lv_at hl 0 rfl) ?_
    refine h_geti (lo := (-2147483648)) (hi := 2147483647) hx hb hts iX9_later_X9 hown hK hI g_y (by decide) rfl rfl 64 (by decide) rfl rfl (hts (.fieldLink RX9 532 "CatLeasesModel" "time" "I") (List.mem_of_getElem? (i := 1) rfl)) (fun _ h9 => h9) dX9_later_12 (fun v11 e_v11 i_v11 => ?_)
    refine lv_iload_n hx hb dX9_later_15 rfl (lv_at hl 1 rfl) ?_
    refine lv_iadd hx hb dX9_later_16 ?_
    refine h_nm (lo := (-2147483648)) (hi := 2147483647) (iv_any _) (fun v12 e_v12 i_v12 => ?_)
    refine lv_ldcw (v := 100000) hx hb hown (hts (.constant RX9 512 (100000)) (List.mem_of_getElem? (i := 2) rfl)) dX9_later_17 ?_
    refine lv_icmp_le (tgt := 25) hx hb dX9_later_20 (by decide) (fun c13 => ?_) (fun c13 => ?_)
    · have i14 : iv v12 (-2147483648) 100000 := iv_le1 c13 i_v12 kc_100000 (by decide)
      refine lv_aload_n hx hb dX9_later_25 rfl (lv_at hl 0 rfl) ?_
      refine lv_dup hx hb dX9_later_26 rfl ?_
      refine h_geti (lo := (-2147483648)) (hi := 2147483647) hx hb hts iX9_later_X9 hown hK hI g_y (by decide) rfl rfl 64 (by decide) rfl rfl (hts (.fieldLink RX9 532 "CatLeasesModel" "time" "I") (List.mem_of_getElem? (i := 1) rfl)) (fun _ h9 => h9) dX9_later_27 (fun v15 e_v15 i_v15 => ?_)
      have q16 : v11 = v15 := (e_v11).trans e_v15.symm
      subst q16
      refine lv_iload_n hx hb dX9_later_30 rfl (lv_at hl 1 rfl) ?_
      refine lv_iadd hx hb dX9_later_31 ?_
      refine h_nm (lo := (-2147483648)) (hi := 2147483647) (iv_any _) (fun v17 e_v17 i_v17 => ?_)
      have q18 : v12 = v17 := e_v12.trans e_v17.symm
      subst q18
      refine h_puti hx hb hts iX9_later_X9 tyX9 tyX9_ok nmX9 hown hK hI g_y (by decide) rfl rfl 64 (by decide) rfl (hts (.fieldLink RX9 532 "CatLeasesModel" "time" "I") (List.mem_of_getElem? (i := 1) rfl)) (fun _ h9 => h9) rfl .int (by decide +kernel) rfl rfl (iv_w (lo' := (-2147483648)) (hi' := 2147483647) i14 (by decide) (by decide)) rfl dX9_later_32 (fun M19 H locs e_M19 hI => ?_)
      refine lv_aload_n hx hb dX9_later_35 rfl (lv_at hl 0 rfl) ?_
      refine h_geti (lo := (-2147483648)) (hi := 2147483647) hx hb hts iX9_later_X9 hown hK hI g_y (by decide) rfl rfl 64 (by decide) rfl rfl (hts (.fieldLink RX9 532 "CatLeasesModel" "time" "I") (List.mem_of_getElem? (i := 1) rfl)) (fun _ h9 => h9) dX9_later_36 (fun v20 e_v20 i_v20 => ?_)
      have q21 : v12 = v20 := ((u2_wr e_M19)).trans e_v20.symm
      subst q21
      exact h_iret hQ hx hb hr hlocks rfl hK hI ⟨rfl, rfl, i14, (Or.inr ⟨by rw [e_v12, e_v11], by rw [← ((u2_wr e_M19)), e_v12, e_v11], fun h9 => h9.elim (Int32.not_lt.mpr (z6 c8).1) (fun h9 => h9.elim (Int32.not_lt.mpr (z6 c8).2) (fun h9 => absurd h9 (Int32.not_lt.mpr (by rw [← e_v11, ← e_v12]; exact c13))))⟩)⟩ dX9_later_39
    · have i22 : iv v12 100001 2147483647 := iv_nle1 c13 i_v12 kc_100000 (by decide)
      refine lv_iconst (v := (-1)) hx hb dX9_later_23 (by decide) ?_
      exact h_iret hQ hx hb hr hlocks rfl hK hI ⟨rfl, rfl, (iv_w (lo' := (-2147483648)) (hi' := 100000) kc_m1 (by decide) (by decide)), (Or.inl ⟨rfl, rfl, (Or.inr (Or.inr (by rw [← e_v11, ← e_v12]; exact Int32.not_le.mp c13)))⟩)⟩ dX9_later_24
