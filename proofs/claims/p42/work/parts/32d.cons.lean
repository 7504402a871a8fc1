abbrev e_h_likingBy_X9 : List (Nat × Nat) := [(9, 41), (9, 42), (9, 43), (9, 44), (134, 999)]
set_option maxHeartbeats 4000000 in
set_option maxRecDepth 100000 in
theorem h_likingBy_X9 (l : Launch) (D : va_G) (g : Nat → ClassId) (σ : Nat → Option Nat) (Z : State → Heap → Prop) (hZ0 : hZ σ Z) (M : hM) (N : hN) (R : hR) (y : Nat) (g_y : σ y = some 9) (p1 : Int32) (h_p1 : iv p1 0 6) (p2 : Int32) (h_p2 : iv p2 0 7) (p3 : Int32) (m0_CW : CW M R y) (k_0 : iv (M (R y 45) ((14 : Int32) + p2).toNatClampNeg) 0 5) : Met l yX9_likingBy wsX9_likingBy ({ frames := 2, cells := 0, slots := 0, locals := 45 }) (va_Pc [.ref y, .int p1, .int p2, .int p3] (hPre D g σ Z M N R)) (hQi D g σ e_h_likingBy_X9 M (fun (r : Int32) (M1 : hM) (N1 : hN) (R1 : hR) => N = N1 ∧ R = R1)) 0 0 (hA σ) := by
  refine h_head (cc := cX9_likingBy) (maxL := 5) (ret := (some .int)) (by decide) rfl (Nat.le_of_ble_eq_true rfl) e_h_likingBy_X9 ?_
  intro p e s m below meth c ls Q ar hQ hx hb hr hlocks hml hown hts hK hE H locs hI hl
  have hown : s.vm.findClass RX9 = some m.cls := hown
  have hl : lv_has ls 5 [(0, .ref y), (1, .int p1), (2, .int p2), (3, .int p3)] := hl
  refine lv_aload_n hx hb dX9_likingBy_0 rfl (lv_at hl 0 rfl) ?_
  refine lv_iload_n hx hb dX9_likingBy_1 rfl (lv_at hl 2 rfl) ?_
  refine h_goi hI (by decide) (va_runV (As := [.int p2]) (rest := []) ⟨hx, hb, hml, hown, hts⟩ (h_keeperOf_X9 l D g σ Z hZ0 M N R y g_y p2 h_p2) (cwV 1 hts gX9_likingBy_X9_keeperOf rfl rfl rfl (by decide +kernel) ⟨Nat.le_of_ble_eq_true rfl, Nat.le_of_ble_eq_true rfl⟩) (h_preV hZ0 hK hE hI g_y (by decide) rfl) rfl rfl hl.1 rfl (lv_room (Nat.le_of_ble_eq_true rfl)) dX9_likingBy_2 ⟨Nat.le_of_ble_eq_true rfl, Nat.le_of_ble_eq_true rfl⟩) (fun r1 M2 N3 R4 H locs q5 z_M2 hI => ?_)
  obtain ⟨rfl, rfl, rfl, i_r1, z6⟩ := q5
  have i9_r1 : iv r1 0 5 := by rw [z6]; exact k_0
  refine lv_istore (lv' := [(4, .int r1), (0, .ref y), (1, .int p1), (2, .int p2), (3, .int p3)]) hx hb dX9_likingBy_5 hl (by decide) rfl (fun ls hl => ?_)
  refine lv_aload_n hx hb dX9_likingBy_7 rfl (lv_at hl 1 rfl) ?_
  refine lv_iload_n hx hb dX9_likingBy_8 rfl (lv_at hl 2 rfl) ?_
  refine h_puti hx hb hts iX9_likingBy_X9 tyX9 tyX9_ok nmX9 hown hK hI g_y (by decide) rfl rfl 41 (by decide) rfl (hts (.fieldLink RX9 354 "CatLeasesModel" "askTenant" "I") (List.mem_of_getElem? (i := 1) rfl)) (fun _ h9 => h9) rfl .int (by decide +kernel) rfl rfl h_p1 rfl dX9_likingBy_9 (fun M7 H locs e_M7 hI => ?_)
  refine lv_aload_n hx hb dX9_likingBy_12 rfl (lv_at hl 1 rfl) ?_
  refine lv_aload_n hx hb dX9_likingBy_13 rfl (lv_at hl 1 rfl) ?_
  refine lv_iload hx hb dX9_likingBy_14 (lv_at hl 0 rfl) ?_
  refine h_goi hI (by decide) (va_runV (As := [.int r1]) (rest := [.ref y]) ⟨hx, hb, hml, hown, hts⟩ (h_wantsOf_X9 l D g σ Z hZ0 M7 N R y g_y r1 i9_r1) (cwV 1 hts gX9_likingBy_X9_wantsOf rfl rfl rfl (by decide +kernel) ⟨Nat.le_of_ble_eq_true rfl, Nat.le_of_ble_eq_true rfl⟩) (h_preV hZ0 hK hE hI g_y (by decide) rfl) rfl rfl hl.1 rfl (lv_room (Nat.le_of_ble_eq_true rfl)) dX9_likingBy_16 ⟨Nat.le_of_ble_eq_true rfl, Nat.le_of_ble_eq_true rfl⟩) (fun r8 M9 N10 R11 H locs q12 z_M9 hI => ?_)
  obtain ⟨rfl, rfl, rfl⟩ := q12
  refine h_puti hx hb hts iX9_likingBy_X9 tyX9 tyX9_ok nmX9 hown hK hI g_y (by decide) rfl rfl 42 (by decide) rfl (hts (.fieldLink RX9 357 "CatLeasesModel" "askWants" "I") (List.mem_of_getElem? (i := 2) rfl)) (fun _ h9 => h9) rfl .int (by decide +kernel) rfl rfl (iv_any r8) rfl dX9_likingBy_19 (fun M13 H locs e_M13 hI => ?_)
  refine lv_aload_n hx hb dX9_likingBy_22 rfl (lv_at hl 1 rfl) ?_
  refine lv_iload_n hx hb dX9_likingBy_23 rfl (lv_at hl 4 rfl) ?_
  refine h_puti hx hb hts iX9_likingBy_X9 tyX9 tyX9_ok nmX9 hown hK hI g_y (by decide) rfl rfl 43 (by decide) rfl (hts (.fieldLink RX9 360 "CatLeasesModel" "askStayed" "I") (List.mem_of_getElem? (i := 3) rfl)) (fun _ h9 => h9) rfl .int (by decide +kernel) rfl rfl (iv_any p3) rfl dX9_likingBy_24 (fun M14 H locs e_M14 hI => ?_)
  refine lv_aload_n hx hb dX9_likingBy_27 rfl (lv_at hl 1 rfl) ?_
  refine lv_aload_n hx hb dX9_likingBy_28 rfl (lv_at hl 1 rfl) ?_
  refine h_geti (lo := (-2147483648)) (hi := 2147483647) hx hb hts iX9_likingBy_X9 hown hK hI g_y (by decide) rfl rfl 48 (by decide) rfl rfl (hts (.fieldLink RX9 103 "CatLeasesModel" "crowded" "I") (List.mem_of_getElem? (i := 4) rfl)) (fun _ h9 => h9) dX9_likingBy_29 (fun v15 e_v15 i_v15 => ?_)
  have J51 : ∀ (t1_51 : Int32) (H : Heap) (locs : List Loc) (ls : Array Slot), kI D g σ e_h_likingBy_X9 M s.heap M14 N R H locs → lv_has ls 5 [(0, .ref y), (1, .int p1)] → W p l e (headSpec wsX9_likingBy ({ frames := 2, cells := 0, slots := 0, locals := 45 })).room s m ar below meth c H locs 0 0 Q (F0 m 51 ls [.int t1_51, .ref y]) := by
    intro t1_51 H locs ls hI hl
    refine h_puti hx hb hts iX9_likingBy_X9 tyX9 tyX9_ok nmX9 hown hK hI g_y (by decide) rfl rfl 44 (by decide) rfl (hts (.fieldLink RX9 363 "CatLeasesModel" "askRooms" "I") (List.mem_of_getElem? (i := 5) rfl)) (fun _ h9 => h9) rfl .int (by decide +kernel) rfl rfl (iv_any t1_51) rfl dX9_likingBy_51 (fun M16 H locs e_M16 hI => ?_)
    refine lv_aload_n hx hb dX9_likingBy_54 rfl (lv_at hl 0 rfl) ?_
    refine h_getr hx hb hts iX9_likingBy_X9 hown hK hI g_y (by decide) rfl rfl 17 (by decide) rfl 117 rfl (hts (.fieldLink RX9 39 "CatLeasesModel" "told" "[I") (List.mem_of_getElem? (i := 6) rfl)) (fun _ h9 => h9) dX9_likingBy_55 (fun a17 e_a17 g_a17 => ?_)
    refine lv_aload_n hx hb dX9_likingBy_58 rfl (lv_at hl 0 rfl) ?_
    refine h_geti (lo := 0) (hi := 1) hx hb hts iX9_likingBy_X9 hown hK hI g_y (by decide) rfl rfl 35 (by decide) rfl rfl (hts (.fieldLink RX9 268 "CatLeasesModel" "bank" "I") (List.mem_of_getElem? (i := 7) rfl)) (fun _ h9 => h9) dX9_likingBy_59 (fun v18 e_v18 i_v18 => ?_)
    refine h_iald (j := v18.toNatClampNeg) (lo := (-2147483648)) (hi := 2147483647) hx hb hK hI g_a17 (by decide) rfl (iv_in (n := 2) i_v18 (by decide) (by decide)) rfl (iv_any _) dX9_likingBy_62 (fun v19 e_v19 i_v19 => ?_)
    refine lv_iconst (v := 0) hx hb dX9_likingBy_63 (by decide) ?_
    refine h_goi hI (by decide) (va_runS (As := [.int v19, .int (0 : Int32)]) (rest := []) ⟨hx, hb, hml, hown, hts⟩ (h_bit_X9 l D g σ Z hZ0 M16 N R v19 (0 : Int32)) (va_cwS 2 hts gX9_likingBy_X9_bit rfl rfl rfl (by decide +kernel) ⟨Nat.le_of_ble_eq_true rfl, Nat.le_of_ble_eq_true rfl⟩) (h_preS hZ0 hK hE hI) rfl rfl hl.1 rfl (lv_room (Nat.le_of_ble_eq_true rfl)) dX9_likingBy_64 ⟨Nat.le_of_ble_eq_true rfl, Nat.le_of_ble_eq_true rfl⟩) (fun r20 M21 N22 R23 H locs q24 z_M21 hI => ?_)
    obtain ⟨rfl, rfl, rfl, i_r20, z25⟩ := q24
    refine lv_if_eq (tgt := 75) hx hb dX9_likingBy_67 (by decide) (fun c26 => ?_) (fun c26 => ?_)
    · have i27 : iv r20 0 0 := iv_eq1 c26 i_r20 kc_0
      refine lv_aload_n hx hb dX9_likingBy_75 rfl (lv_at hl 0 rfl) ?_
      refine h_getr hx hb hts iX9_likingBy_X9 hown hK hI g_y (by decide) rfl rfl 45 (by decide) rfl 145 rfl (hts (.fieldLink RX9 94 "CatLeasesModel" "all" "[I") (List.mem_of_getElem? (i := 8) rfl)) (fun _ h9 => h9) dX9_likingBy_76 (fun a28 e_a28 g_a28 => ?_)
      refine lv_bipush (v := 22) hx hb dX9_likingBy_79 (by decide) ?_
      refine lv_iload_n hx hb dX9_likingBy_81 rfl (lv_at hl 1 rfl) ?_
      refine lv_iadd hx hb dX9_likingBy_82 ?_
      refine h_nm (lo := 22) (hi := 28) (iv_add kc_22 h_p1 (by decide) (by decide) (by decide) (by decide)) (fun v29 e_v29 i_v29 => ?_)
      refine h_iald (j := v29.toNatClampNeg) (lo := (-2147483648)) (hi := 2147483647) hx hb hK hI g_a28 (by decide) rfl (iv_in (n := 39) i_v29 (by decide) (by decide)) rfl (iv_any _) dX9_likingBy_83 (fun v30 e_v30 i_v30 => ?_)
      refine lv_aload_n hx hb dX9_likingBy_84 rfl (lv_at hl 0 rfl) ?_
      refine h_geti (lo := (-2147483648)) (hi := 2147483647) hx hb hts iX9_likingBy_X9 hown hK hI g_y (by decide) rfl rfl 42 (by decide) rfl rfl (hts (.fieldLink RX9 357 "CatLeasesModel" "askWants" "I") (List.mem_of_getElem? (i := 2) rfl)) (fun _ h9 => h9) dX9_likingBy_85 (fun v31 e_v31 i_v31 => ?_)
      have q32 : r8 = v31 := ((((u2_wr e_M13)).trans (u2_st (a := y) (k := 42) e_M14 (u2_k (by decide))).symm).trans (u2_st (a := y) (k := 42) e_M16 (u2_k (by decide))).symm).trans e_v31.symm
      subst q32
      refine lv_isub hx hb dX9_likingBy_88 ?_
      refine h_nm (lo := (-2147483648)) (hi := 2147483647) (iv_any _) (fun v33 e_v33 i_v33 => ?_)
      refine lv_aload_n hx hb dX9_likingBy_89 rfl (lv_at hl 0 rfl) ?_
      refine h_getr hx hb hts iX9_likingBy_X9 hown hK hI g_y (by decide) rfl rfl 22 (by decide) rfl 122 rfl (hts (.fieldLink RX9 54 "CatLeasesModel" "warm" "[I") (List.mem_of_getElem? (i := 9) rfl)) (fun _ h9 => h9) dX9_likingBy_90 (fun a34 e_a34 g_a34 => ?_)
      refine lv_bipush (v := 7) hx hb dX9_likingBy_93 (by decide) ?_
      refine lv_aload_n hx hb dX9_likingBy_95 rfl (lv_at hl 0 rfl) ?_
      refine h_geti (lo := 0) (hi := 1) hx hb hts iX9_likingBy_X9 hown hK hI g_y (by decide) rfl rfl 35 (by decide) rfl rfl (hts (.fieldLink RX9 268 "CatLeasesModel" "bank" "I") (List.mem_of_getElem? (i := 7) rfl)) (fun _ h9 => h9) dX9_likingBy_96 (fun v35 e_v35 i_v35 => ?_)
      have q36 : v18 = v35 := (e_v18).trans e_v35.symm
      subst q36
      refine lv_imul hx hb dX9_likingBy_99 ?_
      refine h_nm (lo := 0) (hi := 7) (iv_mul kc_7 i_v18 (by decide) (by decide) (by decide) (by decide) (by decide)) (fun v37 e_v37 i_v37 => ?_)
      refine lv_iload_n hx hb dX9_likingBy_100 rfl (lv_at hl 1 rfl) ?_
      refine lv_iadd hx hb dX9_likingBy_101 ?_
      refine h_nm (lo := 0) (hi := 13) (iv_add i_v37 h_p1 (by decide) (by decide) (by decide) (by decide)) (fun v38 e_v38 i_v38 => ?_)
      refine h_iald (j := v38.toNatClampNeg) (lo := (-2147483648)) (hi := 2147483647) hx hb hK hI g_a34 (by decide) rfl (iv_in (n := 14) i_v38 (by decide) (by decide)) rfl (iv_any _) dX9_likingBy_102 (fun v39 e_v39 i_v39 => ?_)
      refine lv_iconst (v := 3) hx hb dX9_likingBy_103 (by decide) ?_
      refine lv_imul hx hb dX9_likingBy_104 ?_
      refine h_nm (lo := (-2147483648)) (hi := 2147483647) (iv_any _) (fun v40 e_v40 i_v40 => ?_)
      refine lv_iadd hx hb dX9_likingBy_105 ?_
      refine h_nm (lo := (-2147483648)) (hi := 2147483647) (iv_any _) (fun v41 e_v41 i_v41 => ?_)
      refine lv_aload_n hx hb dX9_likingBy_106 rfl (lv_at hl 0 rfl) ?_
      refine h_getr hx hb hts iX9_likingBy_X9 hown hK hI g_y (by decide) rfl rfl 45 (by decide) rfl 145 rfl (hts (.fieldLink RX9 94 "CatLeasesModel" "all" "[I") (List.mem_of_getElem? (i := 8) rfl)) (fun _ h9 => h9) dX9_likingBy_107 (fun a42 e_a42 g_a42 => ?_)
      have q43 : a28 = a42 := (e_a28).trans e_a42.symm
      subst q43
      refine lv_bipush (v := 29) hx hb dX9_likingBy_110 (by decide) ?_
      refine lv_iload_n hx hb dX9_likingBy_112 rfl (lv_at hl 1 rfl) ?_
      refine lv_iadd hx hb dX9_likingBy_113 ?_
      refine h_nm (lo := 29) (hi := 35) (iv_add kc_29 h_p1 (by decide) (by decide) (by decide) (by decide)) (fun v44 e_v44 i_v44 => ?_)
      refine h_iald (j := v44.toNatClampNeg) (lo := (-2147483648)) (hi := 2147483647) hx hb hK hI g_a28 (by decide) rfl (iv_in (n := 39) i_v44 (by decide) (by decide)) rfl (iv_any _) dX9_likingBy_114 (fun v45 e_v45 i_v45 => ?_)
      refine lv_isub hx hb dX9_likingBy_115 ?_
      refine h_nm (lo := (-2147483648)) (hi := 2147483647) (iv_any _) (fun v46 e_v46 i_v46 => ?_)
      exact h_iret hQ hx hb hr hlocks rfl hK hI ⟨rfl, rfl⟩ dX9_likingBy_116
    · have i47 : iv r20 1 1 := iv_neL c26 i_r20 (by decide) (by decide)
      have m49 : CW M16 R y := (CW_ag hI.2.1 g_y (CW_ag hI.2.1 g_y (CW_ag hI.2.1 g_y (CW_ag hI.2.1 g_y m0_CW (hAd.put e_M7 g_y rfl)) (hAd.put e_M13 g_y rfl)) (hAd.put e_M14 g_y rfl)) (hAd.put e_M16 g_y rfl))
      have m48 : CWo M16 R y := m49 (by rw [← (show v19 = M16 (R y 17) (bk M16 y) by rw [e_v19, e_a17, bk, ← (show v18 = M16 y 35 from e_v18)])]; exact (z25 c26))
      refine lv_aload_n hx hb dX9_likingBy_70 rfl (lv_at hl 0 rfl) ?_
      refine h_goi hI (by decide) (va_runV (As := []) (rest := []) ⟨hx, hb, hml, hown, hts⟩ (h_comes_X9 l D g σ Z hZ0 M16 N R y g_y m48) (cwV 0 hts gX9_likingBy_X9_comes rfl rfl rfl (by decide +kernel) ⟨Nat.le_of_ble_eq_true rfl, Nat.le_of_ble_eq_true rfl⟩) (h_preV hZ0 hK hE hI g_y (by decide) rfl) rfl rfl hl.1 rfl (lv_room (Nat.le_of_ble_eq_true rfl)) dX9_likingBy_71 ⟨Nat.le_of_ble_eq_true rfl, Nat.le_of_ble_eq_true rfl⟩) (fun r50 M51 N52 R53 H locs q54 z_M51 hI => ?_)
      obtain ⟨rfl, rfl⟩ := q54
      exact h_iret hQ hx hb hr hlocks rfl hK hI ⟨rfl, rfl⟩ dX9_likingBy_74
  refine lv_if_lt (tgt := 42) hx hb dX9_likingBy_32 (by decide) (fun c55 => ?_) (fun c55 => ?_)
  · have i56 : iv v15 (-2147483648) (-1) := iv_lt1 c55 i_v15 kc_0 (by decide)
    refine lv_aload_n hx hb dX9_likingBy_42 rfl (lv_at hl 1 rfl) ?_
    refine lv_iload hx hb dX9_likingBy_43 (lv_at hl 0 rfl) ?_
    refine h_goi hI (by decide) (va_runV (As := [.int r1]) (rest := [.ref y]) ⟨hx, hb, hml, hown, hts⟩ (h_roomsOf_X9 l D g σ Z hZ0 M14 N R y g_y r1) (cwV 1 hts gX9_likingBy_X9_roomsOf rfl rfl rfl (by decide +kernel) ⟨Nat.le_of_ble_eq_true rfl, Nat.le_of_ble_eq_true rfl⟩) (h_preV hZ0 hK hE hI g_y (by decide) rfl) rfl rfl hl.1 rfl (lv_room (Nat.le_of_ble_eq_true rfl)) dX9_likingBy_45 ⟨Nat.le_of_ble_eq_true rfl, Nat.le_of_ble_eq_true rfl⟩) (fun r57 M58 N59 R60 H locs q61 z_M58 hI => ?_)
    obtain ⟨rfl, rfl, rfl, i_r57, z62⟩ := q61
    refine h_goi hI (by decide) (va_runS (As := [.int r57]) (rest := [.ref y]) ⟨hx, hb, hml, hown, hts⟩ (h_bitsOf_X9 l D g σ Z hZ0 M14 N R r57) (va_cwS 1 hts gX9_likingBy_X9_bitsOf rfl rfl rfl (by decide +kernel) ⟨Nat.le_of_ble_eq_true rfl, Nat.le_of_ble_eq_true rfl⟩) (h_preS hZ0 hK hE hI) rfl rfl hl.1 rfl (lv_room (Nat.le_of_ble_eq_true rfl)) dX9_likingBy_48 ⟨Nat.le_of_ble_eq_true rfl, Nat.le_of_ble_eq_true rfl⟩) (fun r63 M64 N65 R66 H locs q67 z_M64 hI => ?_)
    obtain ⟨rfl, rfl, rfl⟩ := q67
    exact J51 r63 H locs ls hI (lv_sub hl [1, 2] rfl)
  · have i68 : iv v15 0 2147483647 := iv_nlt1 c55 i_v15 kc_0 (by decide)
    refine lv_aload_n hx hb dX9_likingBy_35 rfl (lv_at hl 1 rfl) ?_
    refine h_geti (lo := (-2147483648)) (hi := 2147483647) hx hb hts iX9_likingBy_X9 hown hK hI g_y (by decide) rfl rfl 48 (by decide) rfl rfl (hts (.fieldLink RX9 103 "CatLeasesModel" "crowded" "I") (List.mem_of_getElem? (i := 4) rfl)) (fun _ h9 => h9) dX9_likingBy_36 (fun v69 e_v69 i_v69 => ?_)
    have q70 : v15 = v69 := (e_v15).trans e_v69.symm
    subst q70
    refine lv_goto (tgt := 51) hx hb dX9_likingBy_39 (by decide) ?_
    exact J51 v15 H locs ls hI (lv_sub hl [1, 2] rfl)
abbrev e_h_likingIn_X9 : List (Nat × Nat) := [(9, 41), (9, 42), (9, 43), (9, 44), (134, 999)]
set_option maxHeartbeats 4000000 in
set_option maxRecDepth 100000 in
theorem h_likingIn_X9 (l : Launch) (D : va_G) (g : Nat → ClassId) (σ : Nat → Option Nat) (Z : State → Heap → Prop) (hZ0 : hZ σ Z) (M : hM) (N : hN) (R : hR) (y : Nat) (g_y : σ y = some 9) (p1 : Int32) (h_p1 : iv p1 0 6) (p2 : Int32) (h_p2 : iv p2 0 7) (m0_CW : CW M R y) (k_0 : iv (M (R y 45) ((14 : Int32) + p2).toNatClampNeg) 0 5) : Met l yX9_likingIn wsX9_likingIn ({ frames := 3, cells := 0, slots := 0, locals := 69 }) (va_Pc [.ref y, .int p1, .int p2] (hPre D g σ Z M N R)) (hQi D g σ e_h_likingIn_X9 M (fun (r : Int32) (M1 : hM) (N1 : hN) (R1 : hR) => N = N1 ∧ R = R1)) 0 0 (hA σ) := by
  refine h_head (cc := cX9_likingIn) (maxL := 3) (ret := (some .int)) (by decide) rfl (Nat.le_of_ble_eq_true rfl) e_h_likingIn_X9 ?_
  intro p e s m below meth c ls Q ar hQ hx hb hr hlocks hml hown hts hK hE H locs hI hl
  have hown : s.vm.findClass RX9 = some m.cls := hown
  have hl : lv_has ls 3 [(0, .ref y), (1, .int p1), (2, .int p2)] := hl
  refine lv_aload_n hx hb dX9_likingIn_0 rfl (lv_at hl 0 rfl) ?_
  refine lv_iload_n hx hb dX9_likingIn_1 rfl (lv_at hl 1 rfl) ?_
  refine lv_iload_n hx hb dX9_likingIn_2 rfl (lv_at hl 2 rfl) ?_
  refine lv_aload_n hx hb dX9_likingIn_3 rfl (lv_at hl 0 rfl) ?_
  refine h_getr hx hb hts iX9_likingIn_X9 hown hK hI g_y (by decide) rfl rfl 45 (by decide) rfl 145 rfl (hts (.fieldLink RX9 94 "CatLeasesModel" "all" "[I") (List.mem_of_getElem? (i := 1) rfl)) (fun _ h9 => h9) dX9_likingIn_4 (fun a1 e_a1 g_a1 => ?_)
  refine lv_iconst (v := 0) hx hb dX9_likingIn_7 (by decide) ?_
  refine lv_iload_n hx hb dX9_likingIn_8 rfl (lv_at hl 1 rfl) ?_
  refine lv_iadd hx hb dX9_likingIn_9 ?_
  refine k_top (v := p1) (Int32.zero_add _) ?_
  refine h_iald (j := p1.toNatClampNeg) (lo := (-1)) (hi := 7) hx hb hK hI g_a1 (by decide) rfl (iv_in (n := 39) h_p1 (by decide) (by decide)) rfl (hI.iv2 (n := 39) (c := 0) (d := 7) g_a1 rfl (in_lt (iv_in (n := 39) h_p1 (by decide) (by decide))) (iv_nat1 h_p1 (by decide)) (iv_nat2 h_p1 (by decide) (by decide)) (by decide)) dX9_likingIn_10 (fun v2 e_v2 i_v2 => ?_)
  refine lv_iload_n hx hb dX9_likingIn_11 rfl (lv_at hl 2 rfl) ?_
  have J28 : ∀ (t3_28 : Int32) (H : Heap) (locs : List Loc) (ls : Array Slot), kI D g σ e_h_likingIn_X9 M s.heap M N R H locs → lv_has ls 3 [] → W p l e (headSpec wsX9_likingIn ({ frames := 3, cells := 0, slots := 0, locals := 69 })).room s m ar below meth c H locs 0 0 Q (F0 m 28 ls [.int t3_28, .int p2, .int p1, .ref y]) := by
    intro t3_28 H locs ls hI hl
    refine h_goi hI (by decide) (va_runV (As := [.int p1, .int p2, .int t3_28]) (rest := []) ⟨hx, hb, hml, hown, hts⟩ (h_likingBy_X9 l D g σ Z hZ0 M N R y g_y p1 h_p1 p2 h_p2 t3_28 m0_CW k_0) (cwV 3 hts gX9_likingIn_X9_likingBy rfl rfl rfl (by decide +kernel) ⟨Nat.le_of_ble_eq_true rfl, Nat.le_of_ble_eq_true rfl⟩) (h_preV hZ0 hK hE hI g_y (by decide) rfl) rfl rfl hl.1 rfl (lv_room (Nat.le_of_ble_eq_true rfl)) dX9_likingIn_28 ⟨Nat.le_of_ble_eq_true rfl, Nat.le_of_ble_eq_true rfl⟩) (fun r3 M4 N5 R6 H locs q7 z_M4 hI => ?_)
    obtain ⟨rfl, rfl⟩ := q7
    exact h_iret hQ hx hb hr hlocks rfl hK hI ⟨rfl, rfl⟩ dX9_likingIn_31
  refine lv_icmp_ne (tgt := 27) hx hb dX9_likingIn_12 (by decide) (fun c8 => ?_) (fun c8 => ?_)
  · refine lv_iconst (v := 0) hx hb dX9_likingIn_27 (by decide) ?_
    exact J28 (0 : Int32) H locs ls hI (lv_sub hl [] rfl)
  · have i9 : iv v2 0 7 := iv_eq1 c8 i_v2 h_p2
    refine lv_aload_n hx hb dX9_likingIn_15 rfl (lv_at hl 0 rfl) ?_
    refine h_getr hx hb hts iX9_likingIn_X9 hown hK hI g_y (by decide) rfl rfl 45 (by decide) rfl 145 rfl (hts (.fieldLink RX9 94 "CatLeasesModel" "all" "[I") (List.mem_of_getElem? (i := 1) rfl)) (fun _ h9 => h9) dX9_likingIn_16 (fun a10 e_a10 g_a10 => ?_)
    have q11 : a1 = a10 := (e_a1).trans e_a10.symm
    subst q11
    refine lv_bipush (v := 7) hx hb dX9_likingIn_19 (by decide) ?_
    refine lv_iload_n hx hb dX9_likingIn_21 rfl (lv_at hl 1 rfl) ?_
    refine lv_iadd hx hb dX9_likingIn_22 ?_
    refine h_nm (lo := 7) (hi := 13) (iv_add kc_7 h_p1 (by decide) (by decide) (by decide) (by decide)) (fun v12 e_v12 i_v12 => ?_)
    refine h_iald (j := v12.toNatClampNeg) (lo := (-2147483648)) (hi := 2147483647) hx hb hK hI g_a1 (by decide) rfl (iv_in (n := 39) i_v12 (by decide) (by decide)) rfl (iv_any _) dX9_likingIn_23 (fun v13 e_v13 i_v13 => ?_)
    refine lv_goto (tgt := 28) hx hb dX9_likingIn_24 (by decide) ?_
    exact J28 v13 H locs ls hI (lv_sub hl [] rfl)
abbrev e_h_likingNow_X9 : List (Nat × Nat) := [(9, 41), (9, 42), (9, 43), (9, 44), (134, 999)]
set_option maxHeartbeats 4000000 in
set_option maxRecDepth 100000 in
theorem h_likingNow_X9 (l : Launch) (D : va_G) (g : Nat → ClassId) (σ : Nat → Option Nat) (Z : State → Heap → Prop) (hZ0 : hZ σ Z) (M : hM) (N : hN) (R : hR) (y : Nat) (g_y : σ y = some 9) (p1 : Int32) (h_p1 : iv p1 0 6) (m0_CW : CW M R y) (k_0 : iv (M (R y 45) p1.toNatClampNeg) 0 7) (kn_0 : iv (M (R y 45) ((14 : Int32) + M (R y 45) p1.toNatClampNeg).toNatClampNeg) 0 5) : Met l yX9_likingNow wsX9_likingNow ({ frames := 4, cells := 0, slots := 0, locals := 91 }) (va_Pc [.ref y, .int p1] (hPre D g σ Z M N R)) (hQi D g σ e_h_likingNow_X9 M (fun (r : Int32) (M1 : hM) (N1 : hN) (R1 : hR) => N = N1 ∧ R = R1)) 0 0 (hA σ) := by
  refine h_head (cc := cX9_likingNow) (maxL := 2) (ret := (some .int)) (by decide) rfl (Nat.le_of_ble_eq_true rfl) e_h_likingNow_X9 ?_
  intro p e s m below meth c ls Q ar hQ hx hb hr hlocks hml hown hts hK hE H locs hI hl
  have hown : s.vm.findClass RX9 = some m.cls := hown
  have hl : lv_has ls 2 [(0, .ref y), (1, .int p1)] := hl
  refine lv_aload_n hx hb dX9_likingNow_0 rfl (lv_at hl 0 rfl) ?_
  refine lv_iload_n hx hb dX9_likingNow_1 rfl (lv_at hl 1 rfl) ?_
  refine lv_aload_n hx hb dX9_likingNow_2 rfl (lv_at hl 0 rfl) ?_
  refine h_getr hx hb hts iX9_likingNow_X9 hown hK hI g_y (by decide) rfl rfl 45 (by decide) rfl 145 rfl (hts (.fieldLink RX9 94 "CatLeasesModel" "all" "[I") (List.mem_of_getElem? (i := 1) rfl)) (fun _ h9 => h9) dX9_likingNow_3 (fun a1 e_a1 g_a1 => ?_)
  refine lv_iconst (v := 0) hx hb dX9_likingNow_6 (by decide) ?_
  refine lv_iload_n hx hb dX9_likingNow_7 rfl (lv_at hl 1 rfl) ?_
  refine lv_iadd hx hb dX9_likingNow_8 ?_
  refine k_top (v := p1) (Int32.zero_add _) ?_
  refine h_iald (j := p1.toNatClampNeg) (lo := (-1)) (hi := 7) hx hb hK hI g_a1 (by decide) rfl (iv_in (n := 39) h_p1 (by decide) (by decide)) rfl (hI.iv2 (n := 39) (c := 0) (d := 7) g_a1 rfl (in_lt (iv_in (n := 39) h_p1 (by decide) (by decide))) (iv_nat1 h_p1 (by decide)) (iv_nat2 h_p1 (by decide) (by decide)) (by decide)) dX9_likingNow_9 (fun v2 e_v2 i_v2 => ?_)
  have i3 : iv v2 0 7 := by rw [e_v2, e_a1]; exact k_0
  have i4 : iv (M (R y 45) ((14 : Int32) + v2).toNatClampNeg) 0 5 := by rw [e_v2, e_a1]; exact kn_0
  refine h_goi hI (by decide) (va_runV (As := [.int p1, .int v2]) (rest := []) ⟨hx, hb, hml, hown, hts⟩ (h_likingIn_X9 l D g σ Z hZ0 M N R y g_y p1 h_p1 v2 i3 m0_CW i4) (cwV 2 hts gX9_likingNow_X9_likingIn rfl rfl rfl (by decide +kernel) ⟨Nat.le_of_ble_eq_true rfl, Nat.le_of_ble_eq_true rfl⟩) (h_preV hZ0 hK hE hI g_y (by decide) rfl) rfl rfl hl.1 rfl (lv_room (Nat.le_of_ble_eq_true rfl)) dX9_likingNow_10 ⟨Nat.le_of_ble_eq_true rfl, Nat.le_of_ble_eq_true rfl⟩) (fun r5 M6 N7 R8 H locs q9 z_M6 hI => ?_)
  obtain ⟨rfl, rfl⟩ := q9
  exact h_iret hQ hx hb hr hlocks rfl hK hI ⟨rfl, rfl⟩ dX9_likingNow_13
abbrev e_h_thrown_X9 : List (Nat × Nat) := [(9, 41), (9, 42), (9, 43), (9, 44), (134, 999)]
set_option maxHeartbeats 4000000 in
set_option maxRecDepth 100000 in
theorem h_thrown_X9 (l : Launch) (D : va_G) (g : Nat → ClassId) (σ : Nat → Option Nat) (Z : State → Heap → Prop) (hZ0 : hZ σ Z) (M : hM) (N : hN) (R : hR) (y : Nat) (g_y : σ y = some 9) (m0_CW : CW M R y) : Met l yX9_thrown wsX9_thrown ({ frames := 5, cells := 0, slots := 0, locals := 112 }) (va_Pc [.ref y] (hPre D g σ Z M N R)) (hQi D g σ e_h_thrown_X9 M (fun (r : Int32) (M1 : hM) (N1 : hN) (R1 : hR) => N = N1 ∧ R = R1 ∧ iv r 0 127)) 0 0 (hA σ) := by
  refine h_head (cc := cX9_thrown) (maxL := 3) (ret := (some .int)) (by decide) rfl (Nat.le_of_ble_eq_true rfl) e_h_thrown_X9 ?_
  intro p e s m below meth c ls Q ar hQ hx hb hr hlocks hml hown hts hK hE H locs hI hl
  have hown : s.vm.findClass RX9 = some m.cls := hown
  have hl : lv_has ls 3 [(0, .ref y)] := hl
  refine lv_iconst (v := 0) hx hb dX9_thrown_0 (by decide) ?_
  refine lv_istore_n (lv' := [(1, .int (0 : Int32)), (0, .ref y)]) hx hb dX9_thrown_1 rfl hl (by decide) rfl (fun ls hl => ?_)
  refine lv_iconst (v := 0) hx hb dX9_thrown_2 (by decide) ?_
  have J4 : ∀ (n : Nat) (M_4 : hM) (v1_4 : Int32) (v2_4 : Int32) (H : Heap) (locs : List Loc) (ls : Array Slot), kI D g σ e_h_thrown_X9 M s.heap M_4 N R H locs → lv_has ls 3 [(0, .ref y), (1, .int v1_4), (2, .int v2_4)] → CW M_4 R y → iv v1_4 0 127 → iv v2_4 0 7 → 8 ≤ v2_4.toInt + (n : Int) → W p l e (headSpec wsX9_thrown ({ frames := 5, cells := 0, slots := 0, locals := 112 })).room s m ar below meth c H locs 0 0 Q (F0 m 4 ls []) := by
    intro n
    induction n with
    | zero => intro M_4 v1_4 v2_4 H locs ls hI hl m_CW_4 i_v1_4 i_v2_4 hn; exfalso; have hz := i_v2_4; simp only [iv] at hz; omega
    | succ n ih4 =>
      intro M_4 v1_4 v2_4 H locs ls hI hl m_CW_4 i_v1_4 i_v2_4 hn4
      refine lv_iload_n hx hb dX9_thrown_4 rfl (lv_at hl 2 rfl) ?_
      refine lv_aload_n hx hb dX9_thrown_5 rfl (lv_at hl 0 rfl) ?_
      refine h_goi hI (by decide) (va_runV (As := []) (rest := [.int v2_4]) ⟨hx, hb, hml, hown, hts⟩ (h_many_X9 l D g σ Z hZ0 M_4 N R y g_y) (cwV 0 hts gX9_thrown_X9_many rfl rfl rfl (by decide +kernel) ⟨Nat.le_of_ble_eq_true rfl, Nat.le_of_ble_eq_true rfl⟩) (h_preV hZ0 hK hE hI g_y (by decide) rfl) rfl rfl hl.1 rfl (lv_room (Nat.le_of_ble_eq_true rfl)) dX9_thrown_6 ⟨Nat.le_of_ble_eq_true rfl, Nat.le_of_ble_eq_true rfl⟩) (fun r1 M2 N3 R4 H locs q5 z_M2 hI => ?_)
      obtain ⟨rfl, rfl, rfl, i_r1, z6⟩ := q5
      refine lv_icmp_ge (tgt := 40) hx hb dX9_thrown_9 (by decide) (fun c7 => ?_) (fun c7 => ?_)
      · refine lv_iload_n hx hb dX9_thrown_40 rfl (lv_at hl 1 rfl) ?_
        exact h_iret hQ hx hb hr hlocks rfl hK hI ⟨rfl, rfl, i_v1_4⟩ dX9_thrown_41
      · have i8 : iv r1 1 7 := iv_nle1 c7 i_r1 i_v2_4 (by decide)
        have i9 : iv v2_4 0 6 := iv_nle2 c7 i_r1 i_v2_4 (by decide)
        refine lv_aload_n hx hb dX9_thrown_12 rfl (lv_at hl 0 rfl) ?_
        refine lv_iload_n hx hb dX9_thrown_13 rfl (lv_at hl 2 rfl) ?_
        refine h_goi hI (by decide) (va_runV (As := [.int v2_4]) (rest := []) ⟨hx, hb, hml, hown, hts⟩ (h_isAtHome_X9 l D g σ Z hZ0 M_4 N R y g_y v2_4) (cwV 1 hts gX9_thrown_X9_isAtHome rfl rfl rfl (by decide +kernel) ⟨Nat.le_of_ble_eq_true rfl, Nat.le_of_ble_eq_true rfl⟩) (h_preV hZ0 hK hE hI g_y (by decide) rfl) rfl rfl hl.1 rfl (lv_room (Nat.le_of_ble_eq_true rfl)) dX9_thrown_14 ⟨Nat.le_of_ble_eq_true rfl, Nat.le_of_ble_eq_true rfl⟩) (fun r10 M11 N12 R13 H locs q14 z_M11 hI => ?_)
        obtain ⟨rfl, rfl, rfl, i_r10, z15, z16⟩ := q14
        have J34 : ∀ (M_34 : hM) (v1_34 : Int32) (H : Heap) (locs : List Loc) (ls : Array Slot), kI D g σ e_h_thrown_X9 M s.heap M_34 N R H locs → lv_has ls 3 [(0, .ref y), (1, .int v1_34), (2, .int v2_4)] → CW M_34 R y → iv v1_34 0 127 → W p l e (headSpec wsX9_thrown ({ frames := 5, cells := 0, slots := 0, locals := 112 })).room s m ar below meth c H locs 0 0 Q (F0 m 34 ls []) := by
          intro M_34 v1_34 H locs ls hI hl m_CW_34 i_v1_34
          obtain ⟨v17, e_v17⟩ : ∃ z : Int32, z = v2_4 + Int32.ofInt 1 := ⟨_, rfl⟩
          have i_v17 : iv v17 1 7 := by rw [e_v17]; exact iv_add i9 (ki_1) (by decide) (by decide) (by decide) (by decide)
          refine lv_iinc (v := v17) (lv' := [(2, .int v17), (0, .ref y), (1, .int v1_34)]) hx hb dX9_thrown_34 hl (k := 2) rfl e_v17.symm (by decide) rfl (fun ls hl => ?_)
          refine lv_goto (tgt := 4) hx hb dX9_thrown_37 (by decide) ?_
          exact ih4 M_34 v1_34 v17 H locs ls hI (lv_sub hl [1, 2, 0] rfl) m_CW_34 i_v1_34 (iv_w (lo' := 0) (hi' := 7) i_v17 (by decide) (by decide)) (by have h9 := (h_inc e_v17 i9 ki_1 (by decide) (by decide)); omega)
        refine lv_if_eq (tgt := 34) hx hb dX9_thrown_17 (by decide) (fun c18 => ?_) (fun c18 => ?_)
        · have i19 : iv r10 0 0 := iv_eq1 c18 i_r10 kc_0
          exact J34 M_4 v1_4 H locs ls hI hl m_CW_4 i_v1_4
        · have i20 := z16 c18
          have i21 : iv r10 1 1 := iv_neL c18 i_r10 (by decide) (by decide)
          refine lv_aload_n hx hb dX9_thrown_20 rfl (lv_at hl 0 rfl) ?_
          refine lv_iload_n hx hb dX9_thrown_21 rfl (lv_at hl 2 rfl) ?_
          refine h_goi hI (by decide) (va_runV (As := [.int v2_4]) (rest := []) ⟨hx, hb, hml, hown, hts⟩ (h_likingNow_X9 l D g σ Z hZ0 M_4 N R y g_y v2_4 i9 m_CW_4 i20.1 i20.2) (cwV 1 hts gX9_thrown_X9_likingNow rfl rfl rfl (by decide +kernel) ⟨Nat.le_of_ble_eq_true rfl, Nat.le_of_ble_eq_true rfl⟩) (h_preV hZ0 hK hE hI g_y (by decide) rfl) rfl rfl hl.1 rfl (lv_room (Nat.le_of_ble_eq_true rfl)) dX9_thrown_22 ⟨Nat.le_of_ble_eq_true rfl, Nat.le_of_ble_eq_true rfl⟩) (fun r22 M23 N24 R25 H locs q26 z_M23 hI => ?_)
          obtain ⟨rfl, rfl⟩ := q26
          refine lv_if_gt (tgt := 34) hx hb dX9_thrown_25 (by decide) (fun c27 => ?_) (fun c27 => ?_)
          · have i28 : iv r22 1 2147483647 := iv_lt2 c27 kc_0 (iv_any r22) (by decide)
            have m29 : CW M23 R y := (CW_ag hI.2.1 g_y m_CW_4 (hAd.ag z_M23 (by decide)))
            exact J34 M23 v1_4 H locs ls hI hl m29 i_v1_4
          · have i30 : iv r22 (-2147483648) 0 := iv_nlt2 c27 kc_0 (iv_any r22) (by decide)
            refine lv_iload_n hx hb dX9_thrown_28 rfl (lv_at hl 1 rfl) ?_
            refine lv_iconst (v := 1) hx hb dX9_thrown_29 (by decide) ?_
            refine lv_iload_n hx hb dX9_thrown_30 rfl (lv_at hl 2 rfl) ?_
            refine lv_ishl hx hb dX9_thrown_31 ?_
            refine h_nm (lo := 1) (hi := 64) (iv_shl1 6 i9 (by decide) (by decide) (by decide) (by decide) (by decide)) (fun v31 e_v31 i_v31 => ?_)
            refine lv_ior hx hb dX9_thrown_32 ?_
            refine h_nm (lo := 0) (hi := 127) (iv_or 7 i_v1_4 i_v31 (by decide) (by decide) (by decide) (by decide) (by decide) (by decide)) (fun v32 e_v32 i_v32 => ?_)
            refine lv_istore_n (lv' := [(1, .int v32), (0, .ref y), (2, .int v2_4)]) hx hb dX9_thrown_33 rfl hl (by decide) rfl (fun ls hl => ?_)
            have m33 : CW M23 R y := (CW_ag hI.2.1 g_y m_CW_4 (hAd.ag z_M23 (by decide)))
            exact J34 M23 v32 H locs ls hI (lv_sub hl [1, 0, 2] rfl) m33 i_v32
  refine lv_istore_n (lv' := [(2, .int (0 : Int32)), (1, .int (0 : Int32)), (0, .ref y)]) hx hb dX9_thrown_3 rfl hl (by decide) rfl (fun ls hl => ?_)
  exact J4 8 M (0 : Int32) (0 : Int32) H locs ls hI (lv_sub hl [2, 1, 0] rfl) m0_CW (iv_w (lo' := 0) (hi' := 127) kc_0 (by decide) (by decide)) (iv_w (lo' := 0) (hi' := 7) kc_0 (by decide) (by decide)) (by have h9 := kc_0; simp only [iv] at h9; omega)
abbrev e_h_shaky_X9 : List (Nat × Nat) := [(9, 41), (9, 42), (9, 43), (9, 44), (134, 999)]
set_option maxHeartbeats 4000000 in
set_option maxRecDepth 100000 in
theorem h_shaky_X9 (l : Launch) (D : va_G) (g : Nat → ClassId) (σ : Nat → Option Nat) (Z : State → Heap → Prop) (hZ0 : hZ σ Z) (M : hM) (N : hN) (R : hR) (y : Nat) (g_y : σ y = some 9) (m0_CW : CW M R y) : Met l yX9_shaky wsX9_shaky ({ frames := 6, cells := 0, slots := 0, locals := 134 }) (va_Pc [.ref y] (hPre D g σ Z M N R)) (hQi D g σ e_h_shaky_X9 M (fun (r : Int32) (M1 : hM) (N1 : hN) (R1 : hR) => N = N1 ∧ R = R1 ∧ iv r 0 127)) 0 0 (hA σ) := by
  refine h_head (cc := cX9_shaky) (maxL := 1) (ret := (some .int)) (by decide) rfl (Nat.le_of_ble_eq_true rfl) e_h_shaky_X9 ?_
  intro p e s m below meth c ls Q ar hQ hx hb hr hlocks hml hown hts hK hE H locs hI hl
  have hown : s.vm.findClass RX9 = some m.cls := hown
  have hl : lv_has ls 1 [(0, .ref y)] := hl
  refine lv_aload_n hx hb dX9_shaky_0 rfl (lv_at hl 0 rfl) ?_
  refine h_goi hI (by decide) (va_runV (As := []) (rest := []) ⟨hx, hb, hml, hown, hts⟩ (h_thrown_X9 l D g σ Z hZ0 M N R y g_y m0_CW) (cwV 0 hts gX9_shaky_X9_thrown rfl rfl rfl (by decide +kernel) ⟨Nat.le_of_ble_eq_true rfl, Nat.le_of_ble_eq_true rfl⟩) (h_preV hZ0 hK hE hI g_y (by decide) rfl) rfl rfl hl.1 rfl (lv_room (Nat.le_of_ble_eq_true rfl)) dX9_shaky_1 ⟨Nat.le_of_ble_eq_true rfl, Nat.le_of_ble_eq_true rfl⟩) (fun r1 M2 N3 R4 H locs q5 z_M2 hI => ?_)
  obtain ⟨rfl, rfl, i_r1⟩ := q5
  exact h_iret hQ hx hb hr hlocks rfl hK hI ⟨rfl, rfl, i_r1⟩ dX9_shaky_4
abbrev e_h_law_X9 : List (Nat × Nat) := [(9, 41), (9, 42), (9, 43), (9, 44), (9, 47), (134, 999)]
set_option maxHeartbeats 4000000 in
set_option maxRecDepth 100000 in
theorem h_law_X9 (l : Launch) (D : va_G) (g : Nat → ClassId) (σ : Nat → Option Nat) (Z : State → Heap → Prop) (hZ0 : hZ σ Z) (M : hM) (N : hN) (R : hR) (y : Nat) (g_y : σ y = some 9) (p1 : Int32) (m0_CW : CW M R y) : Met l yX9_law wsX9_law ({ frames := 6, cells := 0, slots := 0, locals := 134 }) (va_Pc [.ref y, .int p1] (hPre D g σ Z M N R)) (hQi D g σ e_h_law_X9 M (fun (r : Int32) (M1 : hM) (N1 : hN) (R1 : hR) => N = N1 ∧ R = R1)) 0 0 (hA σ) := by
  refine h_head (cc := cX9_law) (maxL := 3) (ret := (some .int)) (by decide) rfl (Nat.le_of_ble_eq_true rfl) e_h_law_X9 ?_
  intro p e s m below meth c ls Q ar hQ hx hb hr hlocks hml hown hts hK hE H locs hI hl
  have hown : s.vm.findClass RX9 = some m.cls := hown
  have hl : lv_has ls 3 [(0, .ref y), (1, .int p1)] := hl
  refine lv_iload_n hx hb dX9_law_0 rfl (lv_at hl 1 rfl) ?_
  refine lv_iconst (v := 0) hx hb dX9_law_1 (by decide) ?_
  refine lv_bipush (v := 99) hx hb dX9_law_2 (by decide) ?_
  refine h_goi hI (by decide) (va_runS (As := [.int p1, .int (0 : Int32), .int (99 : Int32)]) (rest := []) ⟨hx, hb, hml, hown, hts⟩ (h_isIn_X9 l D g σ Z hZ0 M N R p1 (0 : Int32) (99 : Int32)) (va_cwS 3 hts gX9_law_X9_isIn rfl rfl rfl (by decide +kernel) ⟨Nat.le_of_ble_eq_true rfl, Nat.le_of_ble_eq_true rfl⟩) (h_preS hZ0 hK hE hI) rfl rfl hl.1 rfl (lv_room (Nat.le_of_ble_eq_true rfl)) dX9_law_4 ⟨Nat.le_of_ble_eq_true rfl, Nat.le_of_ble_eq_true rfl⟩) (fun r1 M2 N3 R4 H locs q5 z_M2 hI => ?_)
  obtain ⟨rfl, rfl, rfl, i_r1, z6⟩ := q5
  refine lv_if_ne (tgt := 12) hx hb dX9_law_7 (by decide) (fun c7 => ?_) (fun c7 => ?_)
  · have i8 : iv p1 0 99 := (fun h9 => iv_isin (z6 h9) kc_0 kc_99) c7
    have i9 : iv r1 1 1 := iv_neL c7 i_r1 (by decide) (by decide)
    refine lv_aload_n hx hb dX9_law_12 rfl (lv_at hl 0 rfl) ?_
    refine lv_iload_n hx hb dX9_law_13 rfl (lv_at hl 1 rfl) ?_
    refine h_puti hx hb hts iX9_law_X9 tyX9 tyX9_ok nmX9 hown hK hI g_y (by decide) rfl rfl 47 (by decide) rfl (hts (.fieldLink RX9 100 "CatLeasesModel" "allWant" "I") (List.mem_of_getElem? (i := 1) rfl)) (fun _ h9 => h9) rfl .int (by decide +kernel) rfl rfl (iv_w (lo' := (-2147483648)) (hi' := 2147483647) i8 (by decide) (by decide)) rfl dX9_law_14 (fun M10 H locs e_M10 hI => ?_)
    refine lv_aload_n hx hb dX9_law_17 rfl (lv_at hl 0 rfl) ?_
    have m11 : CW M10 R y := (CW_ag hI.2.1 g_y m0_CW (hAd.put e_M10 g_y rfl))
    refine h_goi hI (by decide) (va_runV (As := []) (rest := []) ⟨hx, hb, hml, hown, hts⟩ (h_thrown_X9 l D g σ Z hZ0 M10 N R y g_y m11) (cwV 0 hts gX9_law_X9_thrown rfl rfl rfl (by decide +kernel) ⟨Nat.le_of_ble_eq_true rfl, Nat.le_of_ble_eq_true rfl⟩) (h_preV hZ0 hK hE hI g_y (by decide) rfl) rfl rfl hl.1 rfl (lv_room (Nat.le_of_ble_eq_true rfl)) dX9_law_18 ⟨Nat.le_of_ble_eq_true rfl, Nat.le_of_ble_eq_true rfl⟩) (fun r12 M13 N14 R15 H locs q16 z_M13 hI => ?_)
    obtain ⟨rfl, rfl, i_r12⟩ := q16
    refine h_goi hI (by decide) (va_runS (As := [.int r12]) (rest := []) ⟨hx, hb, hml, hown, hts⟩ (h_bitsOf_X9 l D g σ Z hZ0 M13 N R r12) (va_cwS 1 hts gX9_law_X9_bitsOf rfl rfl rfl (by decide +kernel) ⟨Nat.le_of_ble_eq_true rfl, Nat.le_of_ble_eq_true rfl⟩) (h_preS hZ0 hK hE hI) rfl rfl hl.1 rfl (lv_room (Nat.le_of_ble_eq_true rfl)) dX9_law_21 ⟨Nat.le_of_ble_eq_true rfl, Nat.le_of_ble_eq_true rfl⟩) (fun r17 M18 N19 R20 H locs q21 z_M18 hI => ?_)
    obtain ⟨rfl, rfl, rfl⟩ := q21
    refine lv_istore_n (lv' := [(2, .int r17), (0, .ref y), (1, .int p1)]) hx hb dX9_law_24 rfl hl (by decide) rfl (fun ls hl => ?_)
    refine lv_aload_n hx hb dX9_law_25 rfl (lv_at hl 1 rfl) ?_
    refine lv_iconst (v := (-1)) hx hb dX9_law_26 (by decide) ?_
    refine h_puti hx hb hts iX9_law_X9 tyX9 tyX9_ok nmX9 hown hK hI g_y (by decide) rfl rfl 47 (by decide) rfl (hts (.fieldLink RX9 100 "CatLeasesModel" "allWant" "I") (List.mem_of_getElem? (i := 1) rfl)) (fun _ h9 => h9) rfl .int (by decide +kernel) rfl rfl (iv_w (lo' := (-2147483648)) (hi' := 2147483647) kc_m1 (by decide) (by decide)) rfl dX9_law_27 (fun M22 H locs e_M22 hI => ?_)
    refine lv_iload_n hx hb dX9_law_30 rfl (lv_at hl 0 rfl) ?_
    exact h_iret hQ hx hb hr hlocks rfl hK hI ⟨rfl, rfl⟩ dX9_law_31
  · have i23 : iv r1 0 0 := iv_eq1 c7 i_r1 kc_0
    refine lv_iconst (v := (-1)) hx hb dX9_law_10 (by decide) ?_
    exact h_iret hQ hx hb hr hlocks rfl hK hI ⟨rfl, rfl⟩ dX9_law_11
abbrev e_h_liking_X9 : List (Nat × Nat) := [(9, 41), (9, 42), (9, 43), (9, 44), (134, 999)]
set_option maxHeartbeats 4000000 in
set_option maxRecDepth 100000 in
theorem h_liking_X9 (l : Launch) (D : va_G) (g : Nat → ClassId) (σ : Nat → Option Nat) (Z : State → Heap → Prop) (hZ0 : hZ σ Z) (M : hM) (N : hN) (R : hR) (y : Nat) (g_y : σ y = some 9) (p1 : Int32) (p2 : Int32) (m0_CW : CW M R y) : Met l yX9_liking wsX9_liking ({ frames := 4, cells := 0, slots := 0, locals := 91 }) (va_Pc [.ref y, .int p1, .int p2] (hPre D g σ Z M N R)) (hQi D g σ e_h_liking_X9 M (fun (r : Int32) (M1 : hM) (N1 : hN) (R1 : hR) => N = N1 ∧ R = R1)) 0 0 (hA σ) := by
  refine h_head (cc := cX9_liking) (maxL := 3) (ret := (some .int)) (by decide) rfl (Nat.le_of_ble_eq_true rfl) e_h_liking_X9 ?_
  intro p e s m below meth c ls Q ar hQ hx hb hr hlocks hml hown hts hK hE H locs hI hl
  have hown : s.vm.findClass RX9 = some m.cls := hown
  have hl : lv_has ls 3 [(0, .ref y), (1, .int p1), (2, .int p2)] := hl
  refine lv_aload_n hx hb dX9_liking_0 rfl (lv_at hl 0 rfl) ?_
  refine lv_iload_n hx hb dX9_liking_1 rfl (lv_at hl 1 rfl) ?_
  refine h_goi hI (by decide) (va_runV (As := [.int p1]) (rest := []) ⟨hx, hb, hml, hown, hts⟩ (h_isTenant_X9 l D g σ Z hZ0 M N R y g_y p1) (cwV 1 hts gX9_liking_X9_isTenant rfl rfl rfl (by decide +kernel) ⟨Nat.le_of_ble_eq_true rfl, Nat.le_of_ble_eq_true rfl⟩) (h_preV hZ0 hK hE hI g_y (by decide) rfl) rfl rfl hl.1 rfl (lv_room (Nat.le_of_ble_eq_true rfl)) dX9_liking_2 ⟨Nat.le_of_ble_eq_true rfl, Nat.le_of_ble_eq_true rfl⟩) (fun r1 M2 N3 R4 H locs q5 z_M2 hI => ?_)
  obtain ⟨rfl, rfl, rfl, i_r1, z6⟩ := q5
  refine lv_if_eq (tgt := 33) hx hb dX9_liking_5 (by decide) (fun c7 => ?_) (fun c7 => ?_)
  · have i8 : iv r1 0 0 := iv_eq1 c7 i_r1 kc_0
    refine lv_ldcw (v := (-1000000000)) hx hb hown (hts (.constant RX9 468 (-1000000000)) (List.mem_of_getElem? (i := 1) rfl)) dX9_liking_33 ?_
    exact h_iret hQ hx hb hr hlocks rfl hK hI ⟨rfl, rfl⟩ dX9_liking_36
  · have i9 : iv p1 0 6 := z6 c7
    have i10 : iv r1 1 1 := iv_neL c7 i_r1 (by decide) (by decide)
    refine lv_aload_n hx hb dX9_liking_8 rfl (lv_at hl 0 rfl) ?_
    refine lv_iload_n hx hb dX9_liking_9 rfl (lv_at hl 2 rfl) ?_
    refine h_goi hI (by decide) (va_runV (As := [.int p2]) (rest := []) ⟨hx, hb, hml, hown, hts⟩ (h_isRoom_X9 l D g σ Z hZ0 M N R y g_y p2) (cwV 1 hts gX9_liking_X9_isRoom rfl rfl rfl (by decide +kernel) ⟨Nat.le_of_ble_eq_true rfl, Nat.le_of_ble_eq_true rfl⟩) (h_preV hZ0 hK hE hI g_y (by decide) rfl) rfl rfl hl.1 rfl (lv_room (Nat.le_of_ble_eq_true rfl)) dX9_liking_10 ⟨Nat.le_of_ble_eq_true rfl, Nat.le_of_ble_eq_true rfl⟩) (fun r11 M12 N13 R14 H locs q15 z_M12 hI => ?_)
    obtain ⟨rfl, rfl, rfl, i_r11, z16⟩ := q15
    refine lv_if_eq (tgt := 33) hx hb dX9_liking_13 (by decide) (fun c17 => ?_) (fun c17 => ?_)
    · have i18 : iv r11 0 0 := iv_eq1 c17 i_r11 kc_0
      refine lv_ldcw (v := (-1000000000)) hx hb hown (hts (.constant RX9 468 (-1000000000)) (List.mem_of_getElem? (i := 1) rfl)) dX9_liking_33 ?_
      exact h_iret hQ hx hb hr hlocks rfl hK hI ⟨rfl, rfl⟩ dX9_liking_36
    · have i19 : iv p2 0 7 := z16 c17
      have i20 : iv r11 1 1 := iv_neL c17 i_r11 (by decide) (by decide)
      refine lv_aload_n hx hb dX9_liking_16 rfl (lv_at hl 0 rfl) ?_
      refine lv_iload_n hx hb dX9_liking_17 rfl (lv_at hl 2 rfl) ?_
      refine h_goi hI (by decide) (va_runV (As := [.int p2]) (rest := []) ⟨hx, hb, hml, hown, hts⟩ (h_keeperOf_X9 l D g σ Z hZ0 M N R y g_y p2 i19) (cwV 1 hts gX9_liking_X9_keeperOf rfl rfl rfl (by decide +kernel) ⟨Nat.le_of_ble_eq_true rfl, Nat.le_of_ble_eq_true rfl⟩) (h_preV hZ0 hK hE hI g_y (by decide) rfl) rfl rfl hl.1 rfl (lv_room (Nat.le_of_ble_eq_true rfl)) dX9_liking_18 ⟨Nat.le_of_ble_eq_true rfl, Nat.le_of_ble_eq_true rfl⟩) (fun r21 M22 N23 R24 H locs q25 z_M22 hI => ?_)
      obtain ⟨rfl, rfl, rfl, i_r21, z26⟩ := q25
      refine lv_if_lt (tgt := 33) hx hb dX9_liking_21 (by decide) (fun c27 => ?_) (fun c27 => ?_)
      · have i28 : iv r21 (-1) (-1) := iv_lt1 c27 i_r21 kc_0 (by decide)
        refine lv_ldcw (v := (-1000000000)) hx hb hown (hts (.constant RX9 468 (-1000000000)) (List.mem_of_getElem? (i := 1) rfl)) dX9_liking_33 ?_
        exact h_iret hQ hx hb hr hlocks rfl hK hI ⟨rfl, rfl⟩ dX9_liking_36
      · have i29 : iv r21 0 5 := iv_nlt1 c27 i_r21 kc_0 (by decide)
        refine lv_aload_n hx hb dX9_liking_24 rfl (lv_at hl 0 rfl) ?_
        refine lv_iload_n hx hb dX9_liking_25 rfl (lv_at hl 1 rfl) ?_
        refine lv_iload_n hx hb dX9_liking_26 rfl (lv_at hl 2 rfl) ?_
        have i30 : iv (M (R y 45) ((14 : Int32) + p2).toNatClampNeg) 0 5 := by rw [← z26]; exact i29
        refine h_goi hI (by decide) (va_runV (As := [.int p1, .int p2]) (rest := []) ⟨hx, hb, hml, hown, hts⟩ (h_likingIn_X9 l D g σ Z hZ0 M N R y g_y p1 i9 p2 i19 m0_CW i30) (cwV 2 hts gX9_liking_X9_likingIn rfl rfl rfl (by decide +kernel) ⟨Nat.le_of_ble_eq_true rfl, Nat.le_of_ble_eq_true rfl⟩) (h_preV hZ0 hK hE hI g_y (by decide) rfl) rfl rfl hl.1 rfl (lv_room (Nat.le_of_ble_eq_true rfl)) dX9_liking_27 ⟨Nat.le_of_ble_eq_true rfl, Nat.le_of_ble_eq_true rfl⟩) (fun r31 M32 N33 R34 H locs q35 z_M32 hI => ?_)
        obtain ⟨rfl, rfl⟩ := q35
        refine lv_goto (tgt := 36) hx hb dX9_liking_30 (by decide) ?_
        exact h_iret hQ hx hb hr hlocks rfl hK hI ⟨rfl, rfl⟩ dX9_liking_36
abbrev e_h_purse_X9 : List (Nat × Nat) := []
set_option maxHeartbeats 4000000 in
set_option maxRecDepth 100000 in
theorem h_purse_X9 (l : Launch) (D : va_G) (g : Nat → ClassId) (σ : Nat → Option Nat) (Z : State → Heap → Prop) (hZ0 : hZ σ Z) (M : hM) (N : hN) (R : hR) (y : Nat) (g_y : σ y = some 9) (p1 : Int32) : Met l yX9_purse wsX9_purse ({ frames := 2, cells := 0, slots := 0, locals := 44 }) (va_Pc [.ref y, .int p1] (hPre D g σ Z M N R)) (hQi D g σ e_h_purse_X9 M (fun (r : Int32) (M1 : hM) (N1 : hN) (R1 : hR) => M = M1 ∧ N = N1 ∧ R = R1)) 0 0 (hA σ) := by
  refine h_head (cc := cX9_purse) (maxL := 5) (ret := (some .int)) (by decide) rfl (Nat.le_of_ble_eq_true rfl) e_h_purse_X9 ?_
  intro p e s m below meth c ls Q ar hQ hx hb hr hlocks hml hown hts hK hE H locs hI hl
  have hown : s.vm.findClass RX9 = some m.cls := hown
  have hl : lv_has ls 5 [(0, .ref y), (1, .int p1)] := hl
  refine lv_aload_n hx hb dX9_purse_0 rfl (lv_at hl 0 rfl) ?_
  refine lv_iload_n hx hb dX9_purse_1 rfl (lv_at hl 1 rfl) ?_
  refine h_goi hI (by decide) (va_runV (As := [.int p1]) (rest := []) ⟨hx, hb, hml, hown, hts⟩ (h_isCat_X9 l D g σ Z hZ0 M N R y g_y p1) (cwV 1 hts gX9_purse_X9_isCat rfl rfl rfl (by decide +kernel) ⟨Nat.le_of_ble_eq_true rfl, Nat.le_of_ble_eq_true rfl⟩) (h_preV hZ0 hK hE hI g_y (by decide) rfl) rfl rfl hl.1 rfl (lv_room (Nat.le_of_ble_eq_true rfl)) dX9_purse_2 ⟨Nat.le_of_ble_eq_true rfl, Nat.le_of_ble_eq_true rfl⟩) (fun r1 M2 N3 R4 H locs q5 z_M2 hI => ?_)
  obtain ⟨rfl, rfl, rfl, i_r1, z6, z7⟩ := q5
  refine lv_if_ne (tgt := 12) hx hb dX9_purse_5 (by decide) (fun c8 => ?_) (fun c8 => ?_)
  · have i9 : iv p1 0 5 := z6 c8
    have i10 : iv r1 1 1 := iv_neL c8 i_r1 (by decide) (by decide)
    refine lv_aload_n hx hb dX9_purse_12 rfl (lv_at hl 0 rfl) ?_
    refine lv_aload_n hx hb dX9_purse_13 rfl (lv_at hl 0 rfl) ?_
    refine lv_iload_n hx hb dX9_purse_14 rfl (lv_at hl 1 rfl) ?_
    refine h_goi hI (by decide) (va_runV (As := [.int p1]) (rest := [.ref y]) ⟨hx, hb, hml, hown, hts⟩ (h_roomsOf_X9 l D g σ Z hZ0 M N R y g_y p1) (cwV 1 hts gX9_purse_X9_roomsOf rfl rfl rfl (by decide +kernel) ⟨Nat.le_of_ble_eq_true rfl, Nat.le_of_ble_eq_true rfl⟩) (h_preV hZ0 hK hE hI g_y (by decide) rfl) rfl rfl hl.1 rfl (lv_room (Nat.le_of_ble_eq_true rfl)) dX9_purse_15 ⟨Nat.le_of_ble_eq_true rfl, Nat.le_of_ble_eq_true rfl⟩) (fun r11 M12 N13 R14 H locs q15 z_M12 hI => ?_)
    obtain ⟨rfl, rfl, rfl, i_r11, z16⟩ := q15
    refine h_goi hI (by decide) (va_runV (As := [.int r11]) (rest := []) ⟨hx, hb, hml, hown, hts⟩ (h_thoseIn_X9 l D g σ Z hZ0 M N R y g_y r11) (cwV 1 hts gX9_purse_X9_thoseIn rfl rfl rfl (by decide +kernel) ⟨Nat.le_of_ble_eq_true rfl, Nat.le_of_ble_eq_true rfl⟩) (h_preV hZ0 hK hE hI g_y (by decide) rfl) rfl rfl hl.1 rfl (lv_room (Nat.le_of_ble_eq_true rfl)) dX9_purse_18 ⟨Nat.le_of_ble_eq_true rfl, Nat.le_of_ble_eq_true rfl⟩) (fun r17 M18 N19 R20 H locs q21 z_M18 hI => ?_)
    obtain ⟨rfl, rfl, rfl, i_r17, z22⟩ := q21
    refine lv_istore_n (lv' := [(2, .int r17), (0, .ref y), (1, .int p1)]) hx hb dX9_purse_21 rfl hl (by decide) rfl (fun ls hl => ?_)
    refine lv_iconst (v := 0) hx hb dX9_purse_22 (by decide) ?_
    refine lv_istore_n (lv' := [(3, .int (0 : Int32)), (2, .int r17), (0, .ref y), (1, .int p1)]) hx hb dX9_purse_23 rfl hl (by decide) rfl (fun ls hl => ?_)
    refine lv_iconst (v := 0) hx hb dX9_purse_24 (by decide) ?_
    have J27 : ∀ (n : Nat) (v3_27 : Int32) (v4_27 : Int32) (H : Heap) (locs : List Loc) (ls : Array Slot), kI D g σ e_h_purse_X9 M s.heap M N R H locs → lv_has ls 5 [(0, .ref y), (1, .int p1), (2, .int r17), (3, .int v3_27), (4, .int v4_27)] → iv v4_27 0 7 → 8 ≤ v4_27.toInt + (n : Int) → W p l e (headSpec wsX9_purse ({ frames := 2, cells := 0, slots := 0, locals := 44 })).room s m ar below meth c H locs 0 0 Q (F0 m 27 ls []) := by
      intro n
      induction n with
      | zero => intro v3_27 v4_27 H locs ls hI hl i_v4_27 hn; exfalso; have hz := i_v4_27; simp only [iv] at hz; omega
      | succ n ih27 =>
        intro v3_27 v4_27 H locs ls hI hl i_v4_27 hn27
        refine lv_iload hx hb dX9_purse_27 (lv_at hl 4 rfl) ?_
        refine lv_aload_n hx hb dX9_purse_29 rfl (lv_at hl 0 rfl) ?_
        refine h_goi hI (by decide) (va_runV (As := []) (rest := [.int v4_27]) ⟨hx, hb, hml, hown, hts⟩ (h_many_X9 l D g σ Z hZ0 M N R y g_y) (cwV 0 hts gX9_purse_X9_many rfl rfl rfl (by decide +kernel) ⟨Nat.le_of_ble_eq_true rfl, Nat.le_of_ble_eq_true rfl⟩) (h_preV hZ0 hK hE hI g_y (by decide) rfl) rfl rfl hl.1 rfl (lv_room (Nat.le_of_ble_eq_true rfl)) dX9_purse_30 ⟨Nat.le_of_ble_eq_true rfl, Nat.le_of_ble_eq_true rfl⟩) (fun r23 M24 N25 R26 H locs q27 z_M24 hI => ?_)
        obtain ⟨rfl, rfl, rfl, i_r23, z28⟩ := q27
        refine lv_icmp_ge (tgt := 83) hx hb dX9_purse_33 (by decide) (fun c29 => ?_) (fun c29 => ?_)
        · refine lv_iload_n hx hb dX9_purse_83 rfl (lv_at hl 3 rfl) ?_
          exact h_iret hQ hx hb hr hlocks rfl hK hI ⟨rfl, rfl, rfl⟩ dX9_purse_84
        · have i30 : iv r23 1 7 := iv_nle1 c29 i_r23 i_v4_27 (by decide)
          have i31 : iv v4_27 0 6 := iv_nle2 c29 i_r23 i_v4_27 (by decide)
          refine lv_iload_n hx hb dX9_purse_36 rfl (lv_at hl 3 rfl) ?_
          refine lv_iload_n hx hb dX9_purse_37 rfl (lv_at hl 2 rfl) ?_
          refine lv_iload hx hb dX9_purse_38 (lv_at hl 4 rfl) ?_
          refine h_goi hI (by decide) (va_runS (As := [.int r17, .int v4_27]) (rest := [.int v3_27]) ⟨hx, hb, hml, hown, hts⟩ (h_bit_X9 l D g σ Z hZ0 M N R r17 v4_27) (va_cwS 2 hts gX9_purse_X9_bit rfl rfl rfl (by decide +kernel) ⟨Nat.le_of_ble_eq_true rfl, Nat.le_of_ble_eq_true rfl⟩) (h_preS hZ0 hK hE hI) rfl rfl hl.1 rfl (lv_room (Nat.le_of_ble_eq_true rfl)) dX9_purse_40 ⟨Nat.le_of_ble_eq_true rfl, Nat.le_of_ble_eq_true rfl⟩) (fun r32 M33 N34 R35 H locs q36 z_M33 hI => ?_)
          obtain ⟨rfl, rfl, rfl, i_r32, z37⟩ := q36
          have J75 : ∀ (t1_75 : Int32) (H : Heap) (locs : List Loc) (ls : Array Slot), kI D g σ e_h_purse_X9 M s.heap M N R H locs → lv_has ls 5 [(0, .ref y), (1, .int p1), (2, .int r17), (4, .int v4_27)] → W p l e (headSpec wsX9_purse ({ frames := 2, cells := 0, slots := 0, locals := 44 })).room s m ar below meth c H locs 0 0 Q (F0 m 75 ls [.int t1_75, .int v3_27]) := by
            intro t1_75 H locs ls hI hl
            refine lv_iadd hx hb dX9_purse_75 ?_
            refine h_nm (lo := (-2147483648)) (hi := 2147483647) (iv_any _) (fun v38 e_v38 i_v38 => ?_)
            refine lv_istore_n (lv' := [(3, .int v38), (0, .ref y), (1, .int p1), (2, .int r17), (4, .int v4_27)]) hx hb dX9_purse_76 rfl hl (by decide) rfl (fun ls hl => ?_)
            obtain ⟨v39, e_v39⟩ : ∃ z : Int32, z = v4_27 + Int32.ofInt 1 := ⟨_, rfl⟩
            have i_v39 : iv v39 1 7 := by rw [e_v39]; exact iv_add i31 (ki_1) (by decide) (by decide) (by decide) (by decide)
            refine lv_iinc (v := v39) (lv' := [(4, .int v39), (3, .int v38), (0, .ref y), (1, .int p1), (2, .int r17)]) hx hb dX9_purse_77 hl (k := 4) rfl e_v39.symm (by decide) rfl (fun ls hl => ?_)
            refine lv_goto (tgt := 27) hx hb dX9_purse_80 (by decide) ?_
            exact ih27 v38 v39 H locs ls hI (lv_sub hl [2, 3, 4, 1, 0] rfl) (iv_w (lo' := 0) (hi' := 7) i_v39 (by decide) (by decide)) (by have h9 := (h_inc e_v39 i31 ki_1 (by decide) (by decide)); omega)
          refine lv_if_eq (tgt := 74) hx hb dX9_purse_43 (by decide) (fun c40 => ?_) (fun c40 => ?_)
          · have i41 : iv r32 0 0 := iv_eq1 c40 i_r32 kc_0
            refine lv_iconst (v := 0) hx hb dX9_purse_74 (by decide) ?_
            exact J75 (0 : Int32) H locs ls hI (lv_sub hl [0, 1, 2, 4] rfl)
          · have i42 : iv r32 1 1 := iv_neL c40 i_r32 (by decide) (by decide)
            refine lv_aload_n hx hb dX9_purse_46 rfl (lv_at hl 0 rfl) ?_
            refine h_getr hx hb hts iX9_purse_X9 hown hK hI g_y (by decide) rfl rfl 45 (by decide) rfl 145 rfl (hts (.fieldLink RX9 94 "CatLeasesModel" "all" "[I") (List.mem_of_getElem? (i := 2) rfl)) (fun _ h9 => h9) dX9_purse_47 (fun a43 e_a43 g_a43 => ?_)
            refine lv_bipush (v := 22) hx hb dX9_purse_50 (by decide) ?_
            refine lv_iload hx hb dX9_purse_52 (lv_at hl 4 rfl) ?_
            refine lv_iadd hx hb dX9_purse_54 ?_
            refine h_nm (lo := 22) (hi := 28) (iv_add kc_22 i31 (by decide) (by decide) (by decide) (by decide)) (fun v44 e_v44 i_v44 => ?_)
            refine h_iald (j := v44.toNatClampNeg) (lo := (-2147483648)) (hi := 2147483647) hx hb hK hI g_a43 (by decide) rfl (iv_in (n := 39) i_v44 (by decide) (by decide)) rfl (iv_any _) dX9_purse_55 (fun v45 e_v45 i_v45 => ?_)
            refine lv_aload_n hx hb dX9_purse_56 rfl (lv_at hl 0 rfl) ?_
            refine h_getr hx hb hts iX9_purse_X9 hown hK hI g_y (by decide) rfl rfl 18 (by decide) rfl 118 rfl (hts (.fieldLink RX9 42 "CatLeasesModel" "wants" "[I") (List.mem_of_getElem? (i := 3) rfl)) (fun _ h9 => h9) dX9_purse_57 (fun a46 e_a46 g_a46 => ?_)
            refine lv_bipush (v := 6) hx hb dX9_purse_60 (by decide) ?_
            refine lv_aload_n hx hb dX9_purse_62 rfl (lv_at hl 0 rfl) ?_
            refine h_geti (lo := 0) (hi := 1) hx hb hts iX9_purse_X9 hown hK hI g_y (by decide) rfl rfl 35 (by decide) rfl rfl (hts (.fieldLink RX9 268 "CatLeasesModel" "bank" "I") (List.mem_of_getElem? (i := 4) rfl)) (fun _ h9 => h9) dX9_purse_63 (fun v47 e_v47 i_v47 => ?_)
            refine lv_imul hx hb dX9_purse_66 ?_
            refine h_nm (lo := 0) (hi := 6) (iv_mul kc_6 i_v47 (by decide) (by decide) (by decide) (by decide) (by decide)) (fun v48 e_v48 i_v48 => ?_)
            refine lv_iload_n hx hb dX9_purse_67 rfl (lv_at hl 1 rfl) ?_
            refine lv_iadd hx hb dX9_purse_68 ?_
            refine h_nm (lo := 0) (hi := 11) (iv_add i_v48 i9 (by decide) (by decide) (by decide) (by decide)) (fun v49 e_v49 i_v49 => ?_)
            refine h_iald (j := v49.toNatClampNeg) (lo := (-2147483648)) (hi := 2147483647) hx hb hK hI g_a46 (by decide) rfl (iv_in (n := 12) i_v49 (by decide) (by decide)) rfl (iv_any _) dX9_purse_69 (fun v50 e_v50 i_v50 => ?_)
            refine lv_isub hx hb dX9_purse_70 ?_
            refine h_nm (lo := (-2147483648)) (hi := 2147483647) (iv_any _) (fun v51 e_v51 i_v51 => ?_)
            refine lv_goto (tgt := 75) hx hb dX9_purse_71 (by decide) ?_
            exact J75 v51 H locs ls hI (lv_sub hl [0, 1, 2, 4] rfl)
    refine lv_istore (lv' := [(4, .int (0 : Int32)), (3, .int (0 : Int32)), (2, .int r17), (0, .ref y), (1, .int p1)]) hx hb dX9_purse_25 hl (by decide) rfl (fun ls hl => ?_)
    exact J27 8 (0 : Int32) (0 : Int32) H locs ls hI (lv_sub hl [3, 4, 2, 1, 0] rfl) (iv_w (lo' := 0) (hi' := 7) kc_0 (by decide) (by decide)) (by have h9 := kc_0; simp only [iv] at h9; omega)
  · have i52 : iv r1 0 0 := iv_eq1 c8 i_r1 kc_0
    refine lv_ldcw (v := (-1000000)) hx hb hown (hts (.constant RX9 469 (-1000000)) (List.mem_of_getElem? (i := 1) rfl)) dX9_purse_8 ?_
    exact h_iret hQ hx hb hr hlocks rfl hK hI ⟨rfl, rfl, rfl⟩ dX9_purse_11
abbrev e_h_nobodys_X9 : List (Nat × Nat) := [(9, 41), (9, 42), (9, 43), (9, 44), (134, 999)]
set_option maxHeartbeats 4000000 in
set_option maxRecDepth 100000 in
theorem h_nobodys_X9 (l : Launch) (D : va_G) (g : Nat → ClassId) (σ : Nat → Option Nat) (Z : State → Heap → Prop) (hZ0 : hZ σ Z) (M : hM) (N : hN) (R : hR) (y : Nat) (g_y : σ y = some 9) (m0_CW : CW M R y) : Met l yX9_nobodys wsX9_nobodys ({ frames := 4, cells := 0, slots := 0, locals := 91 }) (va_Pc [.ref y] (hPre D g σ Z M N R)) (hQi D g σ e_h_nobodys_X9 M (fun (r : Int32) (M1 : hM) (N1 : hN) (R1 : hR) => N = N1 ∧ R = R1 ∧ iv r 0 255)) 0 0 (hA σ) := by
  refine h_head (cc := cX9_nobodys) (maxL := 5) (ret := (some .int)) (by decide) rfl (Nat.le_of_ble_eq_true rfl) e_h_nobodys_X9 ?_
  intro p e s m below meth c ls Q ar hQ hx hb hr hlocks hml hown hts hK hE H locs hI hl
  have hown : s.vm.findClass RX9 = some m.cls := hown
  have hl : lv_has ls 5 [(0, .ref y)] := hl
  refine lv_iconst (v := 0) hx hb dX9_nobodys_0 (by decide) ?_
  refine lv_istore_n (lv' := [(1, .int (0 : Int32)), (0, .ref y)]) hx hb dX9_nobodys_1 rfl hl (by decide) rfl (fun ls hl => ?_)
  refine lv_iconst (v := 0) hx hb dX9_nobodys_2 (by decide) ?_
  have J4 : ∀ (n : Nat) (M_4 : hM) (v1_4 : Int32) (v2_4 : Int32) (H : Heap) (locs : List Loc) (ls : Array Slot), kI D g σ e_h_nobodys_X9 M s.heap M_4 N R H locs → lv_has ls 5 [(0, .ref y), (1, .int v1_4), (2, .int v2_4)] → CW M_4 R y → iv v1_4 0 255 → iv v2_4 0 7 → 8 ≤ v2_4.toInt + (n : Int) → W p l e (headSpec wsX9_nobodys ({ frames := 4, cells := 0, slots := 0, locals := 91 })).room s m ar below meth c H locs 0 0 Q (F0 m 4 ls []) := by
    intro n
    induction n with
    | zero => intro M_4 v1_4 v2_4 H locs ls hI hl m_CW_4 i_v1_4 i_v2_4 hn; exfalso; have hz := i_v2_4; simp only [iv] at hz; omega
    | succ n ih4 =>
      intro M_4 v1_4 v2_4 H locs ls hI hl m_CW_4 i_v1_4 i_v2_4 hn4
      refine lv_iload_n hx hb dX9_nobodys_4 rfl (lv_at hl 2 rfl) ?_
      refine lv_aload_n hx hb dX9_nobodys_5 rfl (lv_at hl 0 rfl) ?_
      refine h_goi hI (by decide) (va_runV (As := []) (rest := [.int v2_4]) ⟨hx, hb, hml, hown, hts⟩ (h_many_X9 l D g σ Z hZ0 M_4 N R y g_y) (cwV 0 hts gX9_nobodys_X9_many rfl rfl rfl (by decide +kernel) ⟨Nat.le_of_ble_eq_true rfl, Nat.le_of_ble_eq_true rfl⟩) (h_preV hZ0 hK hE hI g_y (by decide) rfl) rfl rfl hl.1 rfl (lv_room (Nat.le_of_ble_eq_true rfl)) dX9_nobodys_6 ⟨Nat.le_of_ble_eq_true rfl, Nat.le_of_ble_eq_true rfl⟩) (fun r1 M2 N3 R4 H locs q5 z_M2 hI => ?_)
      obtain ⟨rfl, rfl, rfl, i_r1, z6⟩ := q5
      refine lv_icmp_ge (tgt := 77) hx hb dX9_nobodys_9 (by decide) (fun c7 => ?_) (fun c7 => ?_)
      · refine lv_iload_n hx hb dX9_nobodys_77 rfl (lv_at hl 1 rfl) ?_
        exact h_iret hQ hx hb hr hlocks rfl hK hI ⟨rfl, rfl, i_v1_4⟩ dX9_nobodys_78
      · have i8 : iv r1 1 7 := iv_nle1 c7 i_r1 i_v2_4 (by decide)
        have i9 : iv v2_4 0 6 := iv_nle2 c7 i_r1 i_v2_4 (by decide)
        refine lv_iconst (v := 1) hx hb dX9_nobodys_12 (by decide) ?_
        refine lv_istore_n (lv' := [(3, .int (1 : Int32)), (0, .ref y), (1, .int v1_4), (2, .int v2_4)]) hx hb dX9_nobodys_13 rfl hl (by decide) rfl (fun ls hl => ?_)
        refine lv_iconst (v := 0) hx hb dX9_nobodys_14 (by decide) ?_
        have J17 : ∀ (n : Nat) (M_17 : hM) (v3_17 : Int32) (v4_17 : Int32) (H : Heap) (locs : List Loc) (ls : Array Slot), kI D g σ e_h_nobodys_X9 M s.heap M_17 N R H locs → lv_has ls 5 [(0, .ref y), (1, .int v1_4), (2, .int v2_4), (3, .int v3_17), (4, .int v4_17)] → CW M_17 R y → iv v3_17 0 1 → iv v4_17 0 8 → 9 ≤ v4_17.toInt + (n : Int) → W p l e (headSpec wsX9_nobodys ({ frames := 4, cells := 0, slots := 0, locals := 91 })).room s m ar below meth c H locs 0 0 Q (F0 m 17 ls []) := by
          intro n
          induction n with
          | zero => intro M_17 v3_17 v4_17 H locs ls hI hl m_CW_17 i_v3_17 i_v4_17 hn; exfalso; have hz := i_v4_17; simp only [iv] at hz; omega
          | succ n ih17 =>
            intro M_17 v3_17 v4_17 H locs ls hI hl m_CW_17 i_v3_17 i_v4_17 hn17
            refine lv_iload hx hb dX9_nobodys_17 (lv_at hl 4 rfl) ?_
            refine lv_aload_n hx hb dX9_nobodys_19 rfl (lv_at hl 0 rfl) ?_
            refine h_goi hI (by decide) (va_runV (As := []) (rest := [.int v4_17]) ⟨hx, hb, hml, hown, hts⟩ (h_chambers_X9 l D g σ Z hZ0 M_17 N R y g_y) (cwV 0 hts gX9_nobodys_X9_chambers rfl rfl rfl (by decide +kernel) ⟨Nat.le_of_ble_eq_true rfl, Nat.le_of_ble_eq_true rfl⟩) (h_preV hZ0 hK hE hI g_y (by decide) rfl) rfl rfl hl.1 rfl (lv_room (Nat.le_of_ble_eq_true rfl)) dX9_nobodys_20 ⟨Nat.le_of_ble_eq_true rfl, Nat.le_of_ble_eq_true rfl⟩) (fun r10 M11 N12 R13 H locs q14 z_M11 hI => ?_)
            obtain ⟨rfl, rfl, rfl, i_r10, z15⟩ := q14
            refine lv_icmp_ge (tgt := 61) hx hb dX9_nobodys_23 (by decide) (fun c16 => ?_) (fun c16 => ?_)
            · refine lv_iload_n hx hb dX9_nobodys_61 rfl (lv_at hl 3 rfl) ?_
              have J71 : ∀ (v1_71 : Int32) (H : Heap) (locs : List Loc) (ls : Array Slot), kI D g σ e_h_nobodys_X9 M s.heap M_17 N R H locs → lv_has ls 5 [(0, .ref y), (1, .int v1_71), (2, .int v2_4)] → iv v1_71 0 255 → W p l e (headSpec wsX9_nobodys ({ frames := 4, cells := 0, slots := 0, locals := 91 })).room s m ar below meth c H locs 0 0 Q (F0 m 71 ls []) := by
                intro v1_71 H locs ls hI hl i_v1_71
                obtain ⟨v17, e_v17⟩ : ∃ z : Int32, z = v2_4 + Int32.ofInt 1 := ⟨_, rfl⟩
                have i_v17 : iv v17 1 7 := by rw [e_v17]; exact iv_add i9 (ki_1) (by decide) (by decide) (by decide) (by decide)
                refine lv_iinc (v := v17) (lv' := [(2, .int v17), (0, .ref y), (1, .int v1_71)]) hx hb dX9_nobodys_71 hl (k := 2) rfl e_v17.symm (by decide) rfl (fun ls hl => ?_)
                refine lv_goto (tgt := 4) hx hb dX9_nobodys_74 (by decide) ?_
                exact ih4 M_17 v1_71 v17 H locs ls hI (lv_sub hl [1, 2, 0] rfl) m_CW_17 i_v1_71 (iv_w (lo' := 0) (hi' := 7) i_v17 (by decide) (by decide)) (by have h9 := (h_inc e_v17 i9 ki_1 (by decide) (by decide)); omega)
              refine lv_if_eq (tgt := 71) hx hb dX9_nobodys_62 (by decide) (fun c18 => ?_) (fun c18 => ?_)
              · have i19 : iv v3_17 0 0 := iv_eq1 c18 i_v3_17 kc_0
                exact J71 v1_4 H locs ls hI (lv_sub hl [0, 1, 2] rfl) i_v1_4
              · have i20 : iv v3_17 1 1 := iv_neL c18 i_v3_17 (by decide) (by decide)
                refine lv_iload_n hx hb dX9_nobodys_65 rfl (lv_at hl 1 rfl) ?_
                refine lv_iconst (v := 1) hx hb dX9_nobodys_66 (by decide) ?_
                refine lv_iload_n hx hb dX9_nobodys_67 rfl (lv_at hl 2 rfl) ?_
                refine lv_ishl hx hb dX9_nobodys_68 ?_
                refine h_nm (lo := 1) (hi := 64) (iv_shl1 6 i9 (by decide) (by decide) (by decide) (by decide) (by decide)) (fun v21 e_v21 i_v21 => ?_)
                refine lv_ior hx hb dX9_nobodys_69 ?_
                refine h_nm (lo := 0) (hi := 255) (iv_or 8 i_v1_4 i_v21 (by decide) (by decide) (by decide) (by decide) (by decide) (by decide)) (fun v22 e_v22 i_v22 => ?_)
                refine lv_istore_n (lv' := [(1, .int v22), (0, .ref y), (2, .int v2_4), (3, .int v3_17), (4, .int v4_17)]) hx hb dX9_nobodys_70 rfl hl (by decide) rfl (fun ls hl => ?_)
                exact J71 v22 H locs ls hI (lv_sub hl [1, 0, 2] rfl) i_v22
            · have i23 : iv r10 1 8 := iv_nle1 c16 i_r10 i_v4_17 (by decide)
              have i24 : iv v4_17 0 7 := iv_nle2 c16 i_r10 i_v4_17 (by decide)
              refine lv_iload_n hx hb dX9_nobodys_26 rfl (lv_at hl 3 rfl) ?_
              have J54 : ∀ (M_54 : hM) (t0_54 : Int32) (H : Heap) (locs : List Loc) (ls : Array Slot), kI D g σ e_h_nobodys_X9 M s.heap M_54 N R H locs → lv_has ls 5 [(0, .ref y), (1, .int v1_4), (2, .int v2_4), (4, .int v4_17)] → CW M_54 R y → iv t0_54 0 1 → W p l e (headSpec wsX9_nobodys ({ frames := 4, cells := 0, slots := 0, locals := 91 })).room s m ar below meth c H locs 0 0 Q (F0 m 54 ls [.int t0_54]) := by
                intro M_54 t0_54 H locs ls hI hl m_CW_54 i_t0_54
                refine lv_istore_n (lv' := [(3, .int t0_54), (0, .ref y), (1, .int v1_4), (2, .int v2_4), (4, .int v4_17)]) hx hb dX9_nobodys_54 rfl hl (by decide) rfl (fun ls hl => ?_)
                obtain ⟨v25, e_v25⟩ : ∃ z : Int32, z = v4_17 + Int32.ofInt 1 := ⟨_, rfl⟩
                have i_v25 : iv v25 1 8 := by rw [e_v25]; exact iv_add i24 (ki_1) (by decide) (by decide) (by decide) (by decide)
                refine lv_iinc (v := v25) (lv' := [(4, .int v25), (3, .int t0_54), (0, .ref y), (1, .int v1_4), (2, .int v2_4)]) hx hb dX9_nobodys_55 hl (k := 4) rfl e_v25.symm (by decide) rfl (fun ls hl => ?_)
                refine lv_goto (tgt := 17) hx hb dX9_nobodys_58 (by decide) ?_
                exact ih17 M_54 t0_54 v25 H locs ls hI (lv_sub hl [2, 3, 4, 1, 0] rfl) m_CW_54 i_t0_54 (iv_w (lo' := 0) (hi' := 8) i_v25 (by decide) (by decide)) (by have h9 := (h_inc e_v25 i24 ki_1 (by decide) (by decide)); omega)
              have J53 : ∀ (M_53 : hM) (H : Heap) (locs : List Loc) (ls : Array Slot), kI D g σ e_h_nobodys_X9 M s.heap M_53 N R H locs → lv_has ls 5 [(0, .ref y), (1, .int v1_4), (2, .int v2_4), (4, .int v4_17)] → CW M_53 R y → W p l e (headSpec wsX9_nobodys ({ frames := 4, cells := 0, slots := 0, locals := 91 })).room s m ar below meth c H locs 0 0 Q (F0 m 53 ls []) := by
                intro M_53 H locs ls hI hl m_CW_53
                refine lv_iconst (v := 0) hx hb dX9_nobodys_53 (by decide) ?_
                exact J54 M_53 (0 : Int32) H locs ls hI hl m_CW_53 (iv_w (lo' := 0) (hi' := 1) kc_0 (by decide) (by decide))
              refine lv_if_eq (tgt := 53) hx hb dX9_nobodys_27 (by decide) (fun c26 => ?_) (fun c26 => ?_)
              · have i27 : iv v3_17 0 0 := iv_eq1 c26 i_v3_17 kc_0
                exact J53 M_17 H locs ls hI (lv_sub hl [0, 1, 2, 4] rfl) m_CW_17
              · have i28 : iv v3_17 1 1 := iv_neL c26 i_v3_17 (by decide) (by decide)
                refine lv_aload_n hx hb dX9_nobodys_30 rfl (lv_at hl 0 rfl) ?_
                refine lv_iload hx hb dX9_nobodys_31 (lv_at hl 4 rfl) ?_
                refine h_goi hI (by decide) (va_runV (As := [.int v4_17]) (rest := []) ⟨hx, hb, hml, hown, hts⟩ (h_keeperOf_X9 l D g σ Z hZ0 M_17 N R y g_y v4_17 i24) (cwV 1 hts gX9_nobodys_X9_keeperOf rfl rfl rfl (by decide +kernel) ⟨Nat.le_of_ble_eq_true rfl, Nat.le_of_ble_eq_true rfl⟩) (h_preV hZ0 hK hE hI g_y (by decide) rfl) rfl rfl hl.1 rfl (lv_room (Nat.le_of_ble_eq_true rfl)) dX9_nobodys_33 ⟨Nat.le_of_ble_eq_true rfl, Nat.le_of_ble_eq_true rfl⟩) (fun r29 M30 N31 R32 H locs q33 z_M30 hI => ?_)
                obtain ⟨rfl, rfl, rfl, i_r29, z34⟩ := q33
                have J49 : ∀ (M_49 : hM) (H : Heap) (locs : List Loc) (ls : Array Slot), kI D g σ e_h_nobodys_X9 M s.heap M_49 N R H locs → lv_has ls 5 [(0, .ref y), (1, .int v1_4), (2, .int v2_4), (4, .int v4_17)] → CW M_49 R y → W p l e (headSpec wsX9_nobodys ({ frames := 4, cells := 0, slots := 0, locals := 91 })).room s m ar below meth c H locs 0 0 Q (F0 m 49 ls []) := by
                  intro M_49 H locs ls hI hl m_CW_49
                  refine lv_iconst (v := 1) hx hb dX9_nobodys_49 (by decide) ?_
                  refine lv_goto (tgt := 54) hx hb dX9_nobodys_50 (by decide) ?_
                  exact J54 M_49 (1 : Int32) H locs ls hI hl m_CW_49 (iv_w (lo' := 0) (hi' := 1) kc_1 (by decide) (by decide))
                refine lv_if_lt (tgt := 49) hx hb dX9_nobodys_36 (by decide) (fun c35 => ?_) (fun c35 => ?_)
                · have i36 : iv r29 (-1) (-1) := iv_lt1 c35 i_r29 kc_0 (by decide)
                  exact J49 M_17 H locs ls hI (lv_sub hl [0, 1, 2, 4] rfl) m_CW_17
                · have i37 : iv r29 0 5 := iv_nlt1 c35 i_r29 kc_0 (by decide)
                  refine lv_aload_n hx hb dX9_nobodys_39 rfl (lv_at hl 0 rfl) ?_
                  refine lv_iload_n hx hb dX9_nobodys_40 rfl (lv_at hl 2 rfl) ?_
                  refine lv_iload hx hb dX9_nobodys_41 (lv_at hl 4 rfl) ?_
                  have i38 : iv (M_17 (R y 45) ((14 : Int32) + v4_17).toNatClampNeg) 0 5 := by rw [← z34]; exact i37
                  refine h_goi hI (by decide) (va_runV (As := [.int v2_4, .int v4_17]) (rest := []) ⟨hx, hb, hml, hown, hts⟩ (h_likingIn_X9 l D g σ Z hZ0 M_17 N R y g_y v2_4 i9 v4_17 i24 m_CW_17 i38) (cwV 2 hts gX9_nobodys_X9_likingIn rfl rfl rfl (by decide +kernel) ⟨Nat.le_of_ble_eq_true rfl, Nat.le_of_ble_eq_true rfl⟩) (h_preV hZ0 hK hE hI g_y (by decide) rfl) rfl rfl hl.1 rfl (lv_room (Nat.le_of_ble_eq_true rfl)) dX9_nobodys_43 ⟨Nat.le_of_ble_eq_true rfl, Nat.le_of_ble_eq_true rfl⟩) (fun r39 M40 N41 R42 H locs q43 z_M40 hI => ?_)
                  obtain ⟨rfl, rfl⟩ := q43
                  refine lv_if_gt (tgt := 53) hx hb dX9_nobodys_46 (by decide) (fun c44 => ?_) (fun c44 => ?_)
                  · have i45 : iv r39 1 2147483647 := iv_lt2 c44 kc_0 (iv_any r39) (by decide)
                    have m46 : CW M40 R y := (CW_ag hI.2.1 g_y m_CW_17 (hAd.ag z_M40 (by decide)))
                    exact J53 M40 H locs ls hI (lv_sub hl [0, 1, 2, 4] rfl) m46
                  · have i47 : iv r39 (-2147483648) 0 := iv_nlt2 c44 kc_0 (iv_any r39) (by decide)
                    have m48 : CW M40 R y := (CW_ag hI.2.1 g_y m_CW_17 (hAd.ag z_M40 (by decide)))
                    exact J49 M40 H locs ls hI (lv_sub hl [0, 1, 2, 4] rfl) m48
        refine lv_istore (lv' := [(4, .int (0 : Int32)), (3, .int (1 : Int32)), (0, .ref y), (1, .int v1_4), (2, .int v2_4)]) hx hb dX9_nobodys_15 hl (by decide) rfl (fun ls hl => ?_)
        exact J17 9 M_4 (1 : Int32) (0 : Int32) H locs ls hI (lv_sub hl [2, 3, 4, 1, 0] rfl) m_CW_4 (iv_w (lo' := 0) (hi' := 1) kc_1 (by decide) (by decide)) (iv_w (lo' := 0) (hi' := 8) kc_0 (by decide) (by decide)) (by have h9 := kc_0; simp only [iv] at h9; omega)
  refine lv_istore_n (lv' := [(2, .int (0 : Int32)), (1, .int (0 : Int32)), (0, .ref y)]) hx hb dX9_nobodys_3 rfl hl (by decide) rfl (fun ls hl => ?_)
  exact J4 8 M (0 : Int32) (0 : Int32) H locs ls hI (lv_sub hl [2, 1, 0] rfl) m0_CW (iv_w (lo' := 0) (hi' := 255) kc_0 (by decide) (by decide)) (iv_w (lo' := 0) (hi' := 7) kc_0 (by decide) (by decide)) (by have h9 := kc_0; simp only [iv] at h9; omega)
abbrev e_h_fondest_X9 : List (Nat × Nat) := [(9, 41), (9, 42), (9, 43), (9, 44), (134, 999)]
set_option maxHeartbeats 4000000 in
set_option maxRecDepth 100000 in
theorem h_fondest_X9 (l : Launch) (D : va_G) (g : Nat → ClassId) (σ : Nat → Option Nat) (Z : State → Heap → Prop) (hZ0 : hZ σ Z) (M : hM) (N : hN) (R : hR) (y : Nat) (g_y : σ y = some 9) (m0_CW : CW M R y) : Met l yX9_fondest wsX9_fondest ({ frames := 5, cells := 0, slots := 0, locals := 112 }) (va_Pc [.ref y] (hPre D g σ Z M N R)) (hQi D g σ e_h_fondest_X9 M (fun (r : Int32) (M1 : hM) (N1 : hN) (R1 : hR) => N = N1 ∧ R = R1 ∧ iv r (-1) 5)) 0 0 (hA σ) := by
  refine h_head (cc := cX9_fondest) (maxL := 7) (ret := (some .int)) (by decide) rfl (Nat.le_of_ble_eq_true rfl) e_h_fondest_X9 ?_
  intro p e s m below meth c ls Q ar hQ hx hb hr hlocks hml hown hts hK hE H locs hI hl
  have hown : s.vm.findClass RX9 = some m.cls := hown
  have hl : lv_has ls 7 [(0, .ref y)] := hl
  refine lv_iconst (v := (-1)) hx hb dX9_fondest_0 (by decide) ?_
  refine lv_istore_n (lv' := [(1, .int (-1 : Int32)), (0, .ref y)]) hx hb dX9_fondest_1 rfl hl (by decide) rfl (fun ls hl => ?_)
  refine lv_iconst (v := 0) hx hb dX9_fondest_2 (by decide) ?_
  refine lv_istore_n (lv' := [(2, .int (0 : Int32)), (1, .int (-1 : Int32)), (0, .ref y)]) hx hb dX9_fondest_3 rfl hl (by decide) rfl (fun ls hl => ?_)
  refine lv_iconst (v := 0) hx hb dX9_fondest_4 (by decide) ?_
  have J6 : ∀ (n : Nat) (M_6 : hM) (v1_6 : Int32) (v2_6 : Int32) (v3_6 : Int32) (H : Heap) (locs : List Loc) (ls : Array Slot), kI D g σ e_h_fondest_X9 M s.heap M_6 N R H locs → lv_has ls 7 [(0, .ref y), (1, .int v1_6), (2, .int v2_6), (3, .int v3_6)] → CW M_6 R y → iv v1_6 (-1) 5 → iv v3_6 0 6 → 7 ≤ v3_6.toInt + (n : Int) → W p l e (headSpec wsX9_fondest ({ frames := 5, cells := 0, slots := 0, locals := 112 })).room s m ar below meth c H locs 0 0 Q (F0 m 6 ls []) := by
    intro n
    induction n with
    | zero => intro M_6 v1_6 v2_6 v3_6 H locs ls hI hl m_CW_6 i_v1_6 i_v3_6 hn; exfalso; have hz := i_v3_6; simp only [iv] at hz; omega
    | succ n ih6 =>
      intro M_6 v1_6 v2_6 v3_6 H locs ls hI hl m_CW_6 i_v1_6 i_v3_6 hn6
      refine lv_iload_n hx hb dX9_fondest_6 rfl (lv_at hl 3 rfl) ?_
      refine lv_aload_n hx hb dX9_fondest_7 rfl (lv_at hl 0 rfl) ?_
      refine h_goi hI (by decide) (va_runV (As := []) (rest := [.int v3_6]) ⟨hx, hb, hml, hown, hts⟩ (h_cattery_X9 l D g σ Z hZ0 M_6 N R y g_y) (cwV 0 hts gX9_fondest_X9_cattery rfl rfl rfl (by decide +kernel) ⟨Nat.le_of_ble_eq_true rfl, Nat.le_of_ble_eq_true rfl⟩) (h_preV hZ0 hK hE hI g_y (by decide) rfl) rfl rfl hl.1 rfl (lv_room (Nat.le_of_ble_eq_true rfl)) dX9_fondest_8 ⟨Nat.le_of_ble_eq_true rfl, Nat.le_of_ble_eq_true rfl⟩) (fun r1 M2 N3 R4 H locs q5 z_M2 hI => ?_)
      obtain ⟨rfl, rfl, rfl, i_r1, z6⟩ := q5
      refine lv_icmp_ge (tgt := 103) hx hb dX9_fondest_11 (by decide) (fun c7 => ?_) (fun c7 => ?_)
      · refine lv_iload_n hx hb dX9_fondest_103 rfl (lv_at hl 1 rfl) ?_
        exact h_iret hQ hx hb hr hlocks rfl hK hI ⟨rfl, rfl, i_v1_6⟩ dX9_fondest_104
      · have i8 : iv r1 1 6 := iv_nle1 c7 i_r1 i_v3_6 (by decide)
        have i9 : iv v3_6 0 5 := iv_nle2 c7 i_r1 i_v3_6 (by decide)
        refine lv_aload_n hx hb dX9_fondest_14 rfl (lv_at hl 0 rfl) ?_
        refine lv_aload_n hx hb dX9_fondest_15 rfl (lv_at hl 0 rfl) ?_
        refine lv_iload_n hx hb dX9_fondest_16 rfl (lv_at hl 3 rfl) ?_
        refine h_goi hI (by decide) (va_runV (As := [.int v3_6]) (rest := [.ref y]) ⟨hx, hb, hml, hown, hts⟩ (h_roomsOf_X9 l D g σ Z hZ0 M_6 N R y g_y v3_6) (cwV 1 hts gX9_fondest_X9_roomsOf rfl rfl rfl (by decide +kernel) ⟨Nat.le_of_ble_eq_true rfl, Nat.le_of_ble_eq_true rfl⟩) (h_preV hZ0 hK hE hI g_y (by decide) rfl) rfl rfl hl.1 rfl (lv_room (Nat.le_of_ble_eq_true rfl)) dX9_fondest_17 ⟨Nat.le_of_ble_eq_true rfl, Nat.le_of_ble_eq_true rfl⟩) (fun r10 M11 N12 R13 H locs q14 z_M11 hI => ?_)
        obtain ⟨rfl, rfl, rfl, i_r10, z15⟩ := q14
        refine h_goi hI (by decide) (va_runV (As := [.int r10]) (rest := []) ⟨hx, hb, hml, hown, hts⟩ (h_thoseIn_X9 l D g σ Z hZ0 M_6 N R y g_y r10) (cwV 1 hts gX9_fondest_X9_thoseIn rfl rfl rfl (by decide +kernel) ⟨Nat.le_of_ble_eq_true rfl, Nat.le_of_ble_eq_true rfl⟩) (h_preV hZ0 hK hE hI g_y (by decide) rfl) rfl rfl hl.1 rfl (lv_room (Nat.le_of_ble_eq_true rfl)) dX9_fondest_20 ⟨Nat.le_of_ble_eq_true rfl, Nat.le_of_ble_eq_true rfl⟩) (fun r16 M17 N18 R19 H locs q20 z_M17 hI => ?_)
        obtain ⟨rfl, rfl, rfl, i_r16, z21⟩ := q20
        have m22 : KS M_6 R y r16 := KS_of z15 z21 i9
        refine lv_istore (lv' := [(4, .int r16), (0, .ref y), (1, .int v1_6), (2, .int v2_6), (3, .int v3_6)]) hx hb dX9_fondest_23 hl (by decide) rfl (fun ls hl => ?_)
        refine lv_iconst (v := 0) hx hb dX9_fondest_25 (by decide) ?_
        refine lv_istore (lv' := [(5, .int (0 : Int32)), (4, .int r16), (0, .ref y), (1, .int v1_6), (2, .int v2_6), (3, .int v3_6)]) hx hb dX9_fondest_26 hl (by decide) rfl (fun ls hl => ?_)
        refine lv_iconst (v := 0) hx hb dX9_fondest_28 (by decide) ?_
        have J31 : ∀ (n : Nat) (M_31 : hM) (v5_31 : Int32) (v6_31 : Int32) (H : Heap) (locs : List Loc) (ls : Array Slot), kI D g σ e_h_fondest_X9 M s.heap M_31 N R H locs → lv_has ls 7 [(0, .ref y), (1, .int v1_6), (2, .int v2_6), (3, .int v3_6), (4, .int r16), (5, .int v5_31), (6, .int v6_31)] → CW M_31 R y → KS M_31 R y r16 → iv v6_31 0 7 → 8 ≤ v6_31.toInt + (n : Int) → W p l e (headSpec wsX9_fondest ({ frames := 5, cells := 0, slots := 0, locals := 112 })).room s m ar below meth c H locs 0 0 Q (F0 m 31 ls []) := by
          intro n
          induction n with
          | zero => intro M_31 v5_31 v6_31 H locs ls hI hl m_CW_31 m_KS_31 i_v6_31 hn; exfalso; have hz := i_v6_31; simp only [iv] at hz; omega
          | succ n ih31 =>
            intro M_31 v5_31 v6_31 H locs ls hI hl m_CW_31 m_KS_31 i_v6_31 hn31
            refine lv_iload hx hb dX9_fondest_31 (lv_at hl 6 rfl) ?_
            refine lv_aload_n hx hb dX9_fondest_33 rfl (lv_at hl 0 rfl) ?_
            refine h_goi hI (by decide) (va_runV (As := []) (rest := [.int v6_31]) ⟨hx, hb, hml, hown, hts⟩ (h_many_X9 l D g σ Z hZ0 M_31 N R y g_y) (cwV 0 hts gX9_fondest_X9_many rfl rfl rfl (by decide +kernel) ⟨Nat.le_of_ble_eq_true rfl, Nat.le_of_ble_eq_true rfl⟩) (h_preV hZ0 hK hE hI g_y (by decide) rfl) rfl rfl hl.1 rfl (lv_room (Nat.le_of_ble_eq_true rfl)) dX9_fondest_34 ⟨Nat.le_of_ble_eq_true rfl, Nat.le_of_ble_eq_true rfl⟩) (fun r23 M24 N25 R26 H locs q27 z_M24 hI => ?_)
            obtain ⟨rfl, rfl, rfl, i_r23, z28⟩ := q27
            refine lv_icmp_ge (tgt := 74) hx hb dX9_fondest_37 (by decide) (fun c29 => ?_) (fun c29 => ?_)
            · refine lv_iload hx hb dX9_fondest_74 (lv_at hl 4 rfl) ?_
              have J97 : ∀ (v1_97 : Int32) (v2_97 : Int32) (H : Heap) (locs : List Loc) (ls : Array Slot), kI D g σ e_h_fondest_X9 M s.heap M_31 N R H locs → lv_has ls 7 [(0, .ref y), (1, .int v1_97), (2, .int v2_97), (3, .int v3_6)] → iv v1_97 (-1) 5 → W p l e (headSpec wsX9_fondest ({ frames := 5, cells := 0, slots := 0, locals := 112 })).room s m ar below meth c H locs 0 0 Q (F0 m 97 ls []) := by
                intro v1_97 v2_97 H locs ls hI hl i_v1_97
                obtain ⟨v30, e_v30⟩ : ∃ z : Int32, z = v3_6 + Int32.ofInt 1 := ⟨_, rfl⟩
                have i_v30 : iv v30 1 6 := by rw [e_v30]; exact iv_add i9 (ki_1) (by decide) (by decide) (by decide) (by decide)
                refine lv_iinc (v := v30) (lv' := [(3, .int v30), (0, .ref y), (1, .int v1_97), (2, .int v2_97)]) hx hb dX9_fondest_97 hl (k := 3) rfl e_v30.symm (by decide) rfl (fun ls hl => ?_)
                refine lv_goto (tgt := 6) hx hb dX9_fondest_100 (by decide) ?_
                exact ih6 M_31 v1_97 v2_97 v30 H locs ls hI (lv_sub hl [1, 2, 3, 0] rfl) m_CW_31 i_v1_97 (iv_w (lo' := 0) (hi' := 6) i_v30 (by decide) (by decide)) (by have h9 := (h_inc e_v30 i9 ki_1 (by decide) (by decide)); omega)
              refine lv_if_eq (tgt := 97) hx hb dX9_fondest_76 (by decide) (fun c31 => ?_) (fun c31 => ?_)
              · have i32 : iv r16 0 0 := iv_eq1 c31 i_r16 kc_0
                exact J97 v1_6 v2_6 H locs ls hI (lv_sub hl [0, 1, 2, 3] rfl) i_v1_6
              · have i33 : iv r16 1 255 := iv_neL c31 i_r16 (by decide) (by decide)
                refine lv_iload_n hx hb dX9_fondest_79 rfl (lv_at hl 1 rfl) ?_
                have J92 : ∀ (H : Heap) (locs : List Loc) (ls : Array Slot), kI D g σ e_h_fondest_X9 M s.heap M_31 N R H locs → lv_has ls 7 [(0, .ref y), (3, .int v3_6), (5, .int v5_31)] → W p l e (headSpec wsX9_fondest ({ frames := 5, cells := 0, slots := 0, locals := 112 })).room s m ar below meth c H locs 0 0 Q (F0 m 92 ls []) := by
                  intro H locs ls hI hl
                  refine lv_iload_n hx hb dX9_fondest_92 rfl (lv_at hl 1 rfl) ?_
                  refine lv_istore_n (lv' := [(1, .int v3_6), (0, .ref y), (3, .int v3_6), (5, .int v5_31)]) hx hb dX9_fondest_93 rfl hl (by decide) rfl (fun ls hl => ?_)
                  refine lv_iload hx hb dX9_fondest_94 (lv_at hl 3 rfl) ?_
                  refine lv_istore_n (lv' := [(2, .int v5_31), (1, .int v3_6), (0, .ref y), (3, .int v3_6), (5, .int v5_31)]) hx hb dX9_fondest_96 rfl hl (by decide) rfl (fun ls hl => ?_)
                  exact J97 v3_6 v5_31 H locs ls hI (lv_sub hl [2, 1, 0, 3] rfl) (iv_w (lo' := (-1)) (hi' := 5) i9 (by decide) (by decide))
                refine lv_if_lt (tgt := 92) hx hb dX9_fondest_80 (by decide) (fun c34 => ?_) (fun c34 => ?_)
                · have i35 : iv v1_6 (-1) (-1) := iv_lt1 c34 i_v1_6 kc_0 (by decide)
                  exact J92 H locs ls hI (lv_sub hl [0, 3, 5] rfl)
                · have i36 : iv v1_6 0 5 := iv_nlt1 c34 i_v1_6 kc_0 (by decide)
                  refine lv_iload hx hb dX9_fondest_83 (lv_at hl 5 rfl) ?_
                  refine lv_iload_n hx hb dX9_fondest_85 rfl (lv_at hl 2 rfl) ?_
                  refine lv_icmp_gt (tgt := 92) hx hb dX9_fondest_86 (by decide) (fun c37 => ?_) (fun c37 => ?_)
                  · have i38 : iv v2_6 (-2147483648) 2147483646 := iv_lt1 c37 (iv_any v2_6) (iv_any v5_31) (by decide)
                    have i39 : iv v5_31 (-2147483647) 2147483647 := iv_lt2 c37 (iv_any v2_6) (iv_any v5_31) (by decide)
                    exact J92 H locs ls hI (lv_sub hl [0, 3, 5] rfl)
                  · refine lv_goto (tgt := 97) hx hb dX9_fondest_89 (by decide) ?_
                    exact J97 v1_6 v2_6 H locs ls hI (lv_sub hl [0, 1, 2, 3] rfl) (iv_w (lo' := (-1)) (hi' := 5) i36 (by decide) (by decide))
            · have i40 : iv r23 1 7 := iv_nle1 c29 i_r23 i_v6_31 (by decide)
              have i41 : iv v6_31 0 6 := iv_nle2 c29 i_r23 i_v6_31 (by decide)
              refine lv_iload hx hb dX9_fondest_40 (lv_at hl 5 rfl) ?_
              refine lv_iload hx hb dX9_fondest_42 (lv_at hl 4 rfl) ?_
              refine lv_iload hx hb dX9_fondest_44 (lv_at hl 6 rfl) ?_
              refine h_goi hI (by decide) (va_runS (As := [.int r16, .int v6_31]) (rest := [.int v5_31]) ⟨hx, hb, hml, hown, hts⟩ (h_bit_X9 l D g σ Z hZ0 M_31 N R r16 v6_31) (va_cwS 2 hts gX9_fondest_X9_bit rfl rfl rfl (by decide +kernel) ⟨Nat.le_of_ble_eq_true rfl, Nat.le_of_ble_eq_true rfl⟩) (h_preS hZ0 hK hE hI) rfl rfl hl.1 rfl (lv_room (Nat.le_of_ble_eq_true rfl)) dX9_fondest_46 ⟨Nat.le_of_ble_eq_true rfl, Nat.le_of_ble_eq_true rfl⟩) (fun r42 M43 N44 R45 H locs q46 z_M43 hI => ?_)
              obtain ⟨rfl, rfl, rfl, i_r42, z47⟩ := q46
              have J65 : ∀ (M_65 : hM) (t1_65 : Int32) (H : Heap) (locs : List Loc) (ls : Array Slot), kI D g σ e_h_fondest_X9 M s.heap M_65 N R H locs → lv_has ls 7 [(0, .ref y), (1, .int v1_6), (2, .int v2_6), (3, .int v3_6), (4, .int r16), (6, .int v6_31)] → CW M_65 R y → KS M_65 R y r16 → iv t1_65 (-9999) 9999 → W p l e (headSpec wsX9_fondest ({ frames := 5, cells := 0, slots := 0, locals := 112 })).room s m ar below meth c H locs 0 0 Q (F0 m 65 ls [.int t1_65, .int v5_31]) := by
                intro M_65 t1_65 H locs ls hI hl m_CW_65 m_KS_65 i_t1_65
                refine lv_iadd hx hb dX9_fondest_65 ?_
                refine h_nm (lo := (-2147483648)) (hi := 2147483647) (iv_any _) (fun v48 e_v48 i_v48 => ?_)
                refine lv_istore (lv' := [(5, .int v48), (0, .ref y), (1, .int v1_6), (2, .int v2_6), (3, .int v3_6), (4, .int r16), (6, .int v6_31)]) hx hb dX9_fondest_66 hl (by decide) rfl (fun ls hl => ?_)
                obtain ⟨v49, e_v49⟩ : ∃ z : Int32, z = v6_31 + Int32.ofInt 1 := ⟨_, rfl⟩
                have i_v49 : iv v49 1 7 := by rw [e_v49]; exact iv_add i41 (ki_1) (by decide) (by decide) (by decide) (by decide)
                refine lv_iinc (v := v49) (lv' := [(6, .int v49), (5, .int v48), (0, .ref y), (1, .int v1_6), (2, .int v2_6), (3, .int v3_6), (4, .int r16)]) hx hb dX9_fondest_68 hl (k := 6) rfl e_v49.symm (by decide) rfl (fun ls hl => ?_)
                refine lv_goto (tgt := 31) hx hb dX9_fondest_71 (by decide) ?_
                exact ih31 M_65 v48 v49 H locs ls hI (lv_sub hl [2, 3, 4, 5, 6, 1, 0] rfl) m_CW_65 m_KS_65 (iv_w (lo' := 0) (hi' := 7) i_v49 (by decide) (by decide)) (by have h9 := (h_inc e_v49 i41 ki_1 (by decide) (by decide)); omega)
              refine lv_if_eq (tgt := 64) hx hb dX9_fondest_49 (by decide) (fun c50 => ?_) (fun c50 => ?_)
              · have i51 : iv r42 0 0 := iv_eq1 c50 i_r42 kc_0
                refine lv_iconst (v := 0) hx hb dX9_fondest_64 (by decide) ?_
                exact J65 M_31 (0 : Int32) H locs ls hI (lv_sub hl [0, 1, 2, 3, 4, 6] rfl) m_CW_31 m_KS_31 (iv_w (lo' := (-9999)) (hi' := 9999) kc_0 (by decide) (by decide))
              · have i52 := m_KS_31 v6_31 i41 (z47 c50)
                have i53 : iv r42 1 1 := iv_neL c50 i_r42 (by decide) (by decide)
                refine lv_aload_n hx hb dX9_fondest_52 rfl (lv_at hl 0 rfl) ?_
                refine lv_iload hx hb dX9_fondest_53 (lv_at hl 6 rfl) ?_
                refine h_goi hI (by decide) (va_runV (As := [.int v6_31]) (rest := [.int v5_31]) ⟨hx, hb, hml, hown, hts⟩ (h_likingNow_X9 l D g σ Z hZ0 M_31 N R y g_y v6_31 i41 m_CW_31 i52.1 i52.2) (cwV 1 hts gX9_fondest_X9_likingNow rfl rfl rfl (by decide +kernel) ⟨Nat.le_of_ble_eq_true rfl, Nat.le_of_ble_eq_true rfl⟩) (h_preV hZ0 hK hE hI g_y (by decide) rfl) rfl rfl hl.1 rfl (lv_room (Nat.le_of_ble_eq_true rfl)) dX9_fondest_55 ⟨Nat.le_of_ble_eq_true rfl, Nat.le_of_ble_eq_true rfl⟩) (fun r54 M55 N56 R57 H locs q58 z_M55 hI => ?_)
                obtain ⟨rfl, rfl⟩ := q58
                refine h_goi hI (by decide) (va_runS (As := [.int r54]) (rest := [.int v5_31]) ⟨hx, hb, hml, hown, hts⟩ (h_held_X9 l D g σ Z hZ0 M55 N R r54) (va_cwS 1 hts gX9_fondest_X9_held rfl rfl rfl (by decide +kernel) ⟨Nat.le_of_ble_eq_true rfl, Nat.le_of_ble_eq_true rfl⟩) (h_preS hZ0 hK hE hI) rfl rfl hl.1 rfl (lv_room (Nat.le_of_ble_eq_true rfl)) dX9_fondest_58 ⟨Nat.le_of_ble_eq_true rfl, Nat.le_of_ble_eq_true rfl⟩) (fun r59 M60 N61 R62 H locs q63 z_M60 hI => ?_)
                obtain ⟨rfl, rfl, rfl, i_r59⟩ := q63
                refine lv_goto (tgt := 65) hx hb dX9_fondest_61 (by decide) ?_
                have m64 : CW M55 R y := (CW_ag hI.2.1 g_y m_CW_31 (hAd.ag z_M55 (by decide)))
                have m65 : KS M55 R y r16 := (KS_ag hI.2.1 g_y m_KS_31 (hAd.ag z_M55 (by decide)))
                exact J65 M55 r59 H locs ls hI (lv_sub hl [0, 1, 2, 3, 4, 6] rfl) m64 m65 i_r59
        refine lv_istore (lv' := [(6, .int (0 : Int32)), (5, .int (0 : Int32)), (4, .int r16), (0, .ref y), (1, .int v1_6), (2, .int v2_6), (3, .int v3_6)]) hx hb dX9_fondest_29 hl (by decide) rfl (fun ls hl => ?_)
        exact J31 8 M_6 (0 : Int32) (0 : Int32) H locs ls hI (lv_sub hl [3, 4, 5, 6, 2, 1, 0] rfl) m_CW_6 m22 (iv_w (lo' := 0) (hi' := 7) kc_0 (by decide) (by decide)) (by have h9 := kc_0; simp only [iv] at h9; omega)
  refine lv_istore_n (lv' := [(3, .int (0 : Int32)), (2, .int (0 : Int32)), (1, .int (-1 : Int32)), (0, .ref y)]) hx hb dX9_fondest_5 rfl hl (by decide) rfl (fun ls hl => ?_)
  exact J6 7 M (-1 : Int32) (0 : Int32) (0 : Int32) H locs ls hI (lv_sub hl [3, 2, 1, 0] rfl) m0_CW (iv_w (lo' := (-1)) (hi' := 5) kc_m1 (by decide) (by decide)) (iv_w (lo' := 0) (hi' := 6) kc_0 (by decide) (by decide)) (by have h9 := kc_0; simp only [iv] at h9; omega)
abbrev e_h_crowd_X9 : List (Nat × Nat) := [(9, 41), (9, 42), (9, 43), (9, 44), (9, 48), (134, 999)]
set_option maxHeartbeats 4000000 in
set_option maxRecDepth 100000 in
theorem h_crowd_X9 (l : Launch) (D : va_G) (g : Nat → ClassId) (σ : Nat → Option Nat) (Z : State → Heap → Prop) (hZ0 : hZ σ Z) (M : hM) (N : hN) (R : hR) (y : Nat) (g_y : σ y = some 9) (p1 : Int32) (m0_CW : CW M R y) : Met l yX9_crowd wsX9_crowd ({ frames := 5, cells := 0, slots := 0, locals := 112 }) (va_Pc [.ref y, .int p1] (hPre D g σ Z M N R)) (hQi D g σ e_h_crowd_X9 M (fun (r : Int32) (M1 : hM) (N1 : hN) (R1 : hR) => N = N1 ∧ R = R1 ∧ iv r (-1) 8)) 0 0 (hA σ) := by
  refine h_head (cc := cX9_crowd) (maxL := 7) (ret := (some .int)) (by decide) rfl (Nat.le_of_ble_eq_true rfl) e_h_crowd_X9 ?_
  intro p e s m below meth c ls Q ar hQ hx hb hr hlocks hml hown hts hK hE H locs hI hl
  have hown : s.vm.findClass RX9 = some m.cls := hown
  have hl : lv_has ls 7 [(0, .ref y), (1, .int p1)] := hl
  refine lv_aload_n hx hb dX9_crowd_0 rfl (lv_at hl 0 rfl) ?_
  refine lv_iload_n hx hb dX9_crowd_1 rfl (lv_at hl 1 rfl) ?_
  refine h_goi hI (by decide) (va_runV (As := [.int p1]) (rest := []) ⟨hx, hb, hml, hown, hts⟩ (h_isCat_X9 l D g σ Z hZ0 M N R y g_y p1) (cwV 1 hts gX9_crowd_X9_isCat rfl rfl rfl (by decide +kernel) ⟨Nat.le_of_ble_eq_true rfl, Nat.le_of_ble_eq_true rfl⟩) (h_preV hZ0 hK hE hI g_y (by decide) rfl) rfl rfl hl.1 rfl (lv_room (Nat.le_of_ble_eq_true rfl)) dX9_crowd_2 ⟨Nat.le_of_ble_eq_true rfl, Nat.le_of_ble_eq_true rfl⟩) (fun r1 M2 N3 R4 H locs q5 z_M2 hI => ?_)
  obtain ⟨rfl, rfl, rfl, i_r1, z6, z7⟩ := q5
  refine lv_if_eq (tgt := 16) hx hb dX9_crowd_5 (by decide) (fun c8 => ?_) (fun c8 => ?_)
  · have i9 : iv r1 0 0 := iv_eq1 c8 i_r1 kc_0
    refine lv_iconst (v := (-1)) hx hb dX9_crowd_16 (by decide) ?_
    exact h_iret hQ hx hb hr hlocks rfl hK hI ⟨rfl, rfl, (iv_w (lo' := (-1)) (hi' := 8) kc_m1 (by decide) (by decide))⟩ dX9_crowd_17
  · have i10 : iv p1 0 5 := z6 c8
    have i11 : iv r1 1 1 := iv_neL c8 i_r1 (by decide) (by decide)
    refine lv_aload_n hx hb dX9_crowd_8 rfl (lv_at hl 0 rfl) ?_
    refine lv_iload_n hx hb dX9_crowd_9 rfl (lv_at hl 1 rfl) ?_
    refine h_goi hI (by decide) (va_runV (As := [.int p1]) (rest := []) ⟨hx, hb, hml, hown, hts⟩ (h_lives_X9 l D g σ Z hZ0 M N R y g_y p1) (cwV 1 hts gX9_crowd_X9_lives rfl rfl rfl (by decide +kernel) ⟨Nat.le_of_ble_eq_true rfl, Nat.le_of_ble_eq_true rfl⟩) (h_preV hZ0 hK hE hI g_y (by decide) rfl) rfl rfl hl.1 rfl (lv_room (Nat.le_of_ble_eq_true rfl)) dX9_crowd_10 ⟨Nat.le_of_ble_eq_true rfl, Nat.le_of_ble_eq_true rfl⟩) (fun r12 M13 N14 R15 H locs q16 z_M13 hI => ?_)
    obtain ⟨rfl, rfl, rfl, i_r12⟩ := q16
    refine lv_if_ne (tgt := 18) hx hb dX9_crowd_13 (by decide) (fun c17 => ?_) (fun c17 => ?_)
    · have i18 : iv r12 1 1 := iv_neL c17 i_r12 (by decide) (by decide)
      refine lv_aload_n hx hb dX9_crowd_18 rfl (lv_at hl 0 rfl) ?_
      refine lv_aload_n hx hb dX9_crowd_19 rfl (lv_at hl 0 rfl) ?_
      refine lv_iload_n hx hb dX9_crowd_20 rfl (lv_at hl 1 rfl) ?_
      refine h_goi hI (by decide) (va_runV (As := [.int p1]) (rest := [.ref y]) ⟨hx, hb, hml, hown, hts⟩ (h_roomsOf_X9 l D g σ Z hZ0 M N R y g_y p1) (cwV 1 hts gX9_crowd_X9_roomsOf rfl rfl rfl (by decide +kernel) ⟨Nat.le_of_ble_eq_true rfl, Nat.le_of_ble_eq_true rfl⟩) (h_preV hZ0 hK hE hI g_y (by decide) rfl) rfl rfl hl.1 rfl (lv_room (Nat.le_of_ble_eq_true rfl)) dX9_crowd_21 ⟨Nat.le_of_ble_eq_true rfl, Nat.le_of_ble_eq_true rfl⟩) (fun r19 M20 N21 R22 H locs q23 z_M20 hI => ?_)
      obtain ⟨rfl, rfl, rfl, i_r19, z24⟩ := q23
      refine h_goi hI (by decide) (va_runV (As := [.int r19]) (rest := []) ⟨hx, hb, hml, hown, hts⟩ (h_thoseIn_X9 l D g σ Z hZ0 M N R y g_y r19) (cwV 1 hts gX9_crowd_X9_thoseIn rfl rfl rfl (by decide +kernel) ⟨Nat.le_of_ble_eq_true rfl, Nat.le_of_ble_eq_true rfl⟩) (h_preV hZ0 hK hE hI g_y (by decide) rfl) rfl rfl hl.1 rfl (lv_room (Nat.le_of_ble_eq_true rfl)) dX9_crowd_24 ⟨Nat.le_of_ble_eq_true rfl, Nat.le_of_ble_eq_true rfl⟩) (fun r25 M26 N27 R28 H locs q29 z_M26 hI => ?_)
      obtain ⟨rfl, rfl, rfl, i_r25, z30⟩ := q29
      have m31 : KS M R y r25 := KS_of z24 z30 i10
      refine lv_istore_n (lv' := [(2, .int r25), (0, .ref y), (1, .int p1)]) hx hb dX9_crowd_27 rfl hl (by decide) rfl (fun ls hl => ?_)
      refine lv_iconst (v := (-1)) hx hb dX9_crowd_28 (by decide) ?_
      refine lv_istore_n (lv' := [(3, .int (-1 : Int32)), (2, .int r25), (0, .ref y), (1, .int p1)]) hx hb dX9_crowd_29 rfl hl (by decide) rfl (fun ls hl => ?_)
      refine lv_iconst (v := 0) hx hb dX9_crowd_30 (by decide) ?_
      have J33 : ∀ (n : Nat) (M_33 : hM) (v3_33 : Int32) (v4_33 : Int32) (H : Heap) (locs : List Loc) (ls : Array Slot), kI D g σ e_h_crowd_X9 M s.heap M_33 N R H locs → lv_has ls 7 [(0, .ref y), (2, .int r25), (3, .int v3_33), (4, .int v4_33)] → CW M_33 R y → KS M_33 R y r25 → iv v3_33 (-1) 8 → iv v4_33 0 9 → 10 ≤ v4_33.toInt + (n : Int) → W p l e (headSpec wsX9_crowd ({ frames := 5, cells := 0, slots := 0, locals := 112 })).room s m ar below meth c H locs 0 0 Q (F0 m 33 ls []) := by
        intro n
        induction n with
        | zero => intro M_33 v3_33 v4_33 H locs ls hI hl m_CW_33 m_KS_33 i_v3_33 i_v4_33 hn; exfalso; have hz := i_v4_33; simp only [iv] at hz; omega
        | succ n ih33 =>
          intro M_33 v3_33 v4_33 H locs ls hI hl m_CW_33 m_KS_33 i_v3_33 i_v4_33 hn33
          refine lv_iload hx hb dX9_crowd_33 (lv_at hl 3 rfl) ?_
          refine lv_bipush (v := 8) hx hb dX9_crowd_35 (by decide) ?_
          refine lv_icmp_gt (tgt := 111) hx hb dX9_crowd_37 (by decide) (fun c32 => ?_) (fun c32 => ?_)
          · have i33 : iv v4_33 9 9 := iv_lt2 c32 kc_8 i_v4_33 (by decide)
            refine lv_aload_n hx hb dX9_crowd_111 rfl (lv_at hl 0 rfl) ?_
            refine lv_iconst (v := (-1)) hx hb dX9_crowd_112 (by decide) ?_
            refine h_puti hx hb hts iX9_crowd_X9 tyX9 tyX9_ok nmX9 hown hK hI g_y (by decide) rfl rfl 48 (by decide) rfl (hts (.fieldLink RX9 103 "CatLeasesModel" "crowded" "I") (List.mem_of_getElem? (i := 1) rfl)) (fun _ h9 => h9) rfl .int (by decide +kernel) rfl rfl (iv_w (lo' := (-2147483648)) (hi' := 2147483647) kc_m1 (by decide) (by decide)) rfl dX9_crowd_113 (fun M34 H locs e_M34 hI => ?_)
            refine lv_iload_n hx hb dX9_crowd_116 rfl (lv_at hl 2 rfl) ?_
            exact h_iret hQ hx hb hr hlocks rfl hK hI ⟨rfl, rfl, i_v3_33⟩ dX9_crowd_117
          · have i35 : iv v4_33 0 8 := iv_nlt2 c32 kc_8 i_v4_33 (by decide)
            refine lv_aload_n hx hb dX9_crowd_40 rfl (lv_at hl 0 rfl) ?_
            refine lv_iload hx hb dX9_crowd_41 (lv_at hl 3 rfl) ?_
            refine h_puti hx hb hts iX9_crowd_X9 tyX9 tyX9_ok nmX9 hown hK hI g_y (by decide) rfl rfl 48 (by decide) rfl (hts (.fieldLink RX9 103 "CatLeasesModel" "crowded" "I") (List.mem_of_getElem? (i := 1) rfl)) (fun _ h9 => h9) rfl .int (by decide +kernel) rfl rfl (iv_w (lo' := (-2147483648)) (hi' := 2147483647) i35 (by decide) (by decide)) rfl dX9_crowd_43 (fun M36 H locs e_M36 hI => ?_)
            refine lv_iconst (v := 1) hx hb dX9_crowd_46 (by decide) ?_
            refine lv_istore (lv' := [(5, .int (1 : Int32)), (0, .ref y), (2, .int r25), (3, .int v3_33), (4, .int v4_33)]) hx hb dX9_crowd_47 hl (by decide) rfl (fun ls hl => ?_)
            refine lv_iconst (v := 0) hx hb dX9_crowd_49 (by decide) ?_
            have J52 : ∀ (n : Nat) (M_52 : hM) (v5_52 : Int32) (v6_52 : Int32) (H : Heap) (locs : List Loc) (ls : Array Slot), kI D g σ e_h_crowd_X9 M s.heap M_52 N R H locs → lv_has ls 7 [(0, .ref y), (2, .int r25), (3, .int v3_33), (4, .int v4_33), (5, .int v5_52), (6, .int v6_52)] → v4_33 = M_52 y 48 → CW M_52 R y → KS M_52 R y r25 → iv v5_52 0 1 → iv v6_52 0 7 → 8 ≤ v6_52.toInt + (n : Int) → W p l e (headSpec wsX9_crowd ({ frames := 5, cells := 0, slots := 0, locals := 112 })).room s m ar below meth c H locs 0 0 Q (F0 m 52 ls []) := by
              intro n
              induction n with
              | zero => intro M_52 v5_52 v6_52 H locs ls hI hl k0_52 m_CW_52 m_KS_52 i_v5_52 i_v6_52 hn; exfalso; have hz := i_v6_52; simp only [iv] at hz; omega
              | succ n ih52 =>
                intro M_52 v5_52 v6_52 H locs ls hI hl k0_52 m_CW_52 m_KS_52 i_v5_52 i_v6_52 hn52
                refine lv_iload hx hb dX9_crowd_52 (lv_at hl 5 rfl) ?_
                refine lv_aload_n hx hb dX9_crowd_54 rfl (lv_at hl 0 rfl) ?_
                refine h_goi hI (by decide) (va_runV (As := []) (rest := [.int v6_52]) ⟨hx, hb, hml, hown, hts⟩ (h_many_X9 l D g σ Z hZ0 M_52 N R y g_y) (cwV 0 hts gX9_crowd_X9_many rfl rfl rfl (by decide +kernel) ⟨Nat.le_of_ble_eq_true rfl, Nat.le_of_ble_eq_true rfl⟩) (h_preV hZ0 hK hE hI g_y (by decide) rfl) rfl rfl hl.1 rfl (lv_room (Nat.le_of_ble_eq_true rfl)) dX9_crowd_55 ⟨Nat.le_of_ble_eq_true rfl, Nat.le_of_ble_eq_true rfl⟩) (fun r37 M38 N39 R40 H locs q41 z_M38 hI => ?_)
                obtain ⟨rfl, rfl, rfl, i_r37, z42⟩ := q41
                refine lv_icmp_ge (tgt := 97) hx hb dX9_crowd_58 (by decide) (fun c43 => ?_) (fun c43 => ?_)
                · refine lv_iload hx hb dX9_crowd_97 (lv_at hl 4 rfl) ?_
                  have J105 : ∀ (v3_105 : Int32) (H : Heap) (locs : List Loc) (ls : Array Slot), kI D g σ e_h_crowd_X9 M s.heap M_52 N R H locs → lv_has ls 7 [(0, .ref y), (2, .int r25), (3, .int v3_105), (4, .int v4_33)] → iv v3_105 (-1) 8 → W p l e (headSpec wsX9_crowd ({ frames := 5, cells := 0, slots := 0, locals := 112 })).room s m ar below meth c H locs 0 0 Q (F0 m 105 ls []) := by
                    intro v3_105 H locs ls hI hl i_v3_105
                    obtain ⟨v44, e_v44⟩ : ∃ z : Int32, z = v4_33 + Int32.ofInt 1 := ⟨_, rfl⟩
                    have i_v44 : iv v44 1 9 := by rw [e_v44]; exact iv_add i35 (ki_1) (by decide) (by decide) (by decide) (by decide)
                    refine lv_iinc (v := v44) (lv' := [(4, .int v44), (0, .ref y), (2, .int r25), (3, .int v3_105)]) hx hb dX9_crowd_105 hl (k := 3) rfl e_v44.symm (by decide) rfl (fun ls hl => ?_)
                    refine lv_goto (tgt := 33) hx hb dX9_crowd_108 (by decide) ?_
                    exact ih33 M_52 v3_105 v44 H locs ls hI (lv_sub hl [1, 2, 3, 0] rfl) m_CW_52 m_KS_52 i_v3_105 (iv_w (lo' := 0) (hi' := 9) i_v44 (by decide) (by decide)) (by have h9 := (h_inc e_v44 i35 ki_1 (by decide) (by decide)); omega)
                  refine lv_if_eq (tgt := 105) hx hb dX9_crowd_99 (by decide) (fun c45 => ?_) (fun c45 => ?_)
                  · have i46 : iv v5_52 0 0 := iv_eq1 c45 i_v5_52 kc_0
                    exact J105 v3_33 H locs ls hI (lv_sub hl [0, 1, 2, 3] rfl) i_v3_33
                  · have i47 : iv v5_52 1 1 := iv_neL c45 i_v5_52 (by decide) (by decide)
                    refine lv_iload hx hb dX9_crowd_102 (lv_at hl 3 rfl) ?_
                    refine lv_istore_n (lv' := [(3, .int v4_33), (0, .ref y), (2, .int r25), (4, .int v4_33), (5, .int v5_52), (6, .int v6_52)]) hx hb dX9_crowd_104 rfl hl (by decide) rfl (fun ls hl => ?_)
                    exact J105 v4_33 H locs ls hI (lv_sub hl [1, 2, 0, 3] rfl) (iv_w (lo' := (-1)) (hi' := 8) i35 (by decide) (by decide))
                · have i48 : iv r37 1 7 := iv_nle1 c43 i_r37 i_v6_52 (by decide)
                  have i49 : iv v6_52 0 6 := iv_nle2 c43 i_r37 i_v6_52 (by decide)
                  refine lv_iload hx hb dX9_crowd_61 (lv_at hl 4 rfl) ?_
                  have J89 : ∀ (M_89 : hM) (t0_89 : Int32) (H : Heap) (locs : List Loc) (ls : Array Slot), kI D g σ e_h_crowd_X9 M s.heap M_89 N R H locs → lv_has ls 7 [(0, .ref y), (2, .int r25), (3, .int v3_33), (4, .int v4_33), (6, .int v6_52)] → v4_33 = M_89 y 48 → CW M_89 R y → KS M_89 R y r25 → iv t0_89 0 1 → W p l e (headSpec wsX9_crowd ({ frames := 5, cells := 0, slots := 0, locals := 112 })).room s m ar below meth c H locs 0 0 Q (F0 m 89 ls [.int t0_89]) := by
                    intro M_89 t0_89 H locs ls hI hl k0_89 m_CW_89 m_KS_89 i_t0_89
                    refine lv_istore (lv' := [(5, .int t0_89), (0, .ref y), (2, .int r25), (3, .int v3_33), (4, .int v4_33), (6, .int v6_52)]) hx hb dX9_crowd_89 hl (by decide) rfl (fun ls hl => ?_)
                    obtain ⟨v50, e_v50⟩ : ∃ z : Int32, z = v6_52 + Int32.ofInt 1 := ⟨_, rfl⟩
                    have i_v50 : iv v50 1 7 := by rw [e_v50]; exact iv_add i49 (ki_1) (by decide) (by decide) (by decide) (by decide)
                    refine lv_iinc (v := v50) (lv' := [(6, .int v50), (5, .int t0_89), (0, .ref y), (2, .int r25), (3, .int v3_33), (4, .int v4_33)]) hx hb dX9_crowd_91 hl (k := 5) rfl e_v50.symm (by decide) rfl (fun ls hl => ?_)
                    refine lv_goto (tgt := 52) hx hb dX9_crowd_94 (by decide) ?_
                    exact ih52 M_89 t0_89 v50 H locs ls hI (lv_sub hl [2, 3, 4, 5, 1, 0] rfl) (k0_89) m_CW_89 m_KS_89 i_t0_89 (iv_w (lo' := 0) (hi' := 7) i_v50 (by decide) (by decide)) (by have h9 := (h_inc e_v50 i49 ki_1 (by decide) (by decide)); omega)
                  have J88 : ∀ (M_88 : hM) (H : Heap) (locs : List Loc) (ls : Array Slot), kI D g σ e_h_crowd_X9 M s.heap M_88 N R H locs → lv_has ls 7 [(0, .ref y), (2, .int r25), (3, .int v3_33), (4, .int v4_33), (6, .int v6_52)] → v4_33 = M_88 y 48 → CW M_88 R y → KS M_88 R y r25 → W p l e (headSpec wsX9_crowd ({ frames := 5, cells := 0, slots := 0, locals := 112 })).room s m ar below meth c H locs 0 0 Q (F0 m 88 ls []) := by
                    intro M_88 H locs ls hI hl k0_88 m_CW_88 m_KS_88
                    refine lv_iconst (v := 0) hx hb dX9_crowd_88 (by decide) ?_
                    exact J89 M_88 (0 : Int32) H locs ls hI hl (k0_88) m_CW_88 m_KS_88 (iv_w (lo' := 0) (hi' := 1) kc_0 (by decide) (by decide))
                  refine lv_if_eq (tgt := 88) hx hb dX9_crowd_63 (by decide) (fun c51 => ?_) (fun c51 => ?_)
                  · have i52 : iv v5_52 0 0 := iv_eq1 c51 i_v5_52 kc_0
                    exact J88 M_52 H locs ls hI (lv_sub hl [0, 1, 2, 3, 5] rfl) (k0_52) m_CW_52 m_KS_52
                  · have i53 : iv v5_52 1 1 := iv_neL c51 i_v5_52 (by decide) (by decide)
                    refine lv_iload_n hx hb dX9_crowd_66 rfl (lv_at hl 1 rfl) ?_
                    refine lv_iload hx hb dX9_crowd_67 (lv_at hl 5 rfl) ?_
                    refine h_goi hI (by decide) (va_runS (As := [.int r25, .int v6_52]) (rest := []) ⟨hx, hb, hml, hown, hts⟩ (h_bit_X9 l D g σ Z hZ0 M_52 N R r25 v6_52) (va_cwS 2 hts gX9_crowd_X9_bit rfl rfl rfl (by decide +kernel) ⟨Nat.le_of_ble_eq_true rfl, Nat.le_of_ble_eq_true rfl⟩) (h_preS hZ0 hK hE hI) rfl rfl hl.1 rfl (lv_room (Nat.le_of_ble_eq_true rfl)) dX9_crowd_69 ⟨Nat.le_of_ble_eq_true rfl, Nat.le_of_ble_eq_true rfl⟩) (fun r54 M55 N56 R57 H locs q58 z_M55 hI => ?_)
                    obtain ⟨rfl, rfl, rfl, i_r54, z59⟩ := q58
                    have J84 : ∀ (M_84 : hM) (H : Heap) (locs : List Loc) (ls : Array Slot), kI D g σ e_h_crowd_X9 M s.heap M_84 N R H locs → lv_has ls 7 [(0, .ref y), (2, .int r25), (3, .int v3_33), (4, .int v4_33), (6, .int v6_52)] → v4_33 = M_84 y 48 → CW M_84 R y → KS M_84 R y r25 → W p l e (headSpec wsX9_crowd ({ frames := 5, cells := 0, slots := 0, locals := 112 })).room s m ar below meth c H locs 0 0 Q (F0 m 84 ls []) := by
                      intro M_84 H locs ls hI hl k0_84 m_CW_84 m_KS_84
                      refine lv_iconst (v := 1) hx hb dX9_crowd_84 (by decide) ?_
                      refine lv_goto (tgt := 89) hx hb dX9_crowd_85 (by decide) ?_
                      exact J89 M_84 (1 : Int32) H locs ls hI hl (k0_84) m_CW_84 m_KS_84 (iv_w (lo' := 0) (hi' := 1) kc_1 (by decide) (by decide))
                    refine lv_if_eq (tgt := 84) hx hb dX9_crowd_72 (by decide) (fun c60 => ?_) (fun c60 => ?_)
                    · have i61 : iv r54 0 0 := iv_eq1 c60 i_r54 kc_0
                      exact J84 M_52 H locs ls hI (lv_sub hl [0, 1, 2, 3, 5] rfl) (k0_52) m_CW_52 m_KS_52
                    · have i62 := m_KS_52 v6_52 i49 (z59 c60)
                      have i63 : iv r54 1 1 := iv_neL c60 i_r54 (by decide) (by decide)
                      refine lv_aload_n hx hb dX9_crowd_75 rfl (lv_at hl 0 rfl) ?_
                      refine lv_iload hx hb dX9_crowd_76 (lv_at hl 5 rfl) ?_
                      refine h_goi hI (by decide) (va_runV (As := [.int v6_52]) (rest := []) ⟨hx, hb, hml, hown, hts⟩ (h_likingNow_X9 l D g σ Z hZ0 M_52 N R y g_y v6_52 i49 m_CW_52 i62.1 i62.2) (cwV 1 hts gX9_crowd_X9_likingNow rfl rfl rfl (by decide +kernel) ⟨Nat.le_of_ble_eq_true rfl, Nat.le_of_ble_eq_true rfl⟩) (h_preV hZ0 hK hE hI g_y (by decide) rfl) rfl rfl hl.1 rfl (lv_room (Nat.le_of_ble_eq_true rfl)) dX9_crowd_78 ⟨Nat.le_of_ble_eq_true rfl, Nat.le_of_ble_eq_true rfl⟩) (fun r64 M65 N66 R67 H locs q68 z_M65 hI => ?_)
                      obtain ⟨rfl, rfl⟩ := q68
                      refine lv_if_le (tgt := 88) hx hb dX9_crowd_81 (by decide) (fun c69 => ?_) (fun c69 => ?_)
                      · have i70 : iv r64 (-2147483648) 0 := iv_le1 c69 (iv_any r64) kc_0 (by decide)
                        have m71 : CW M65 R y := (CW_ag hI.2.1 g_y m_CW_52 (hAd.ag z_M65 (by decide)))
                        have m72 : KS M65 R y r25 := (KS_ag hI.2.1 g_y m_KS_52 (hAd.ag z_M65 (by decide)))
                        exact J88 M65 H locs ls hI (lv_sub hl [0, 1, 2, 3, 5] rfl) ((k0_52).trans (z_M65 y 9 48 g_y rfl).symm) m71 m72
                      · have i73 : iv r64 1 2147483647 := iv_nle1 c69 (iv_any r64) kc_0 (by decide)
                        have m74 : CW M65 R y := (CW_ag hI.2.1 g_y m_CW_52 (hAd.ag z_M65 (by decide)))
                        have m75 : KS M65 R y r25 := (KS_ag hI.2.1 g_y m_KS_52 (hAd.ag z_M65 (by decide)))
                        exact J84 M65 H locs ls hI (lv_sub hl [0, 1, 2, 3, 5] rfl) ((k0_52).trans (z_M65 y 9 48 g_y rfl).symm) m74 m75
            refine lv_istore (lv' := [(6, .int (0 : Int32)), (5, .int (1 : Int32)), (0, .ref y), (2, .int r25), (3, .int v3_33), (4, .int v4_33)]) hx hb dX9_crowd_50 hl (by decide) rfl (fun ls hl => ?_)
            have m76 : CW M36 R y := (CW_ag hI.2.1 g_y m_CW_33 (hAd.put e_M36 g_y rfl))
            have m77 : KS M36 R y r25 := (KS_ag hI.2.1 g_y m_KS_33 (hAd.put e_M36 g_y rfl))
            exact J52 8 M36 (1 : Int32) (0 : Int32) H locs ls hI (lv_sub hl [2, 3, 4, 5, 1, 0] rfl) ((u2_wr e_M36)) m76 m77 (iv_w (lo' := 0) (hi' := 1) kc_1 (by decide) (by decide)) (iv_w (lo' := 0) (hi' := 7) kc_0 (by decide) (by decide)) (by have h9 := kc_0; simp only [iv] at h9; omega)
      refine lv_istore (lv' := [(4, .int (0 : Int32)), (3, .int (-1 : Int32)), (2, .int r25), (0, .ref y), (1, .int p1)]) hx hb dX9_crowd_31 hl (by decide) rfl (fun ls hl => ?_)
      exact J33 10 M (-1 : Int32) (0 : Int32) H locs ls hI (lv_sub hl [3, 2, 1, 0] rfl) m0_CW m31 (iv_w (lo' := (-1)) (hi' := 8) kc_m1 (by decide) (by decide)) (iv_w (lo' := 0) (hi' := 9) kc_0 (by decide) (by decide)) (by have h9 := kc_0; simp only [iv] at h9; omega)
    · have i78 : iv r12 0 0 := iv_eq1 c17 i_r12 kc_0
      refine lv_iconst (v := (-1)) hx hb dX9_crowd_16 (by decide) ?_
      exact h_iret hQ hx hb hr hlocks rfl hK hI ⟨rfl, rfl, (iv_w (lo' := (-1)) (hi' := 8) kc_m1 (by decide) (by decide))⟩ dX9_crowd_17
abbrev e_h_letIn_X9 : List (Nat × Nat) := [(9, 41), (9, 42), (9, 43), (9, 44), (134, 999)]
set_option maxHeartbeats 4000000 in
set_option maxRecDepth 100000 in
theorem h_letIn_X9 (l : Launch) (D : va_G) (g : Nat → ClassId) (σ : Nat → Option Nat) (Z : State → Heap → Prop) (hZ0 : hZ σ Z) (M : hM) (N : hN) (R : hR) (y : Nat) (g_y : σ y = some 9) (p1 : Int32) (h_p1 : iv p1 0 6) (p2 : Int32) (h_p2 : iv p2 0 7) (m0_CW : CW M R y) : Met l yX9_letIn wsX9_letIn ({ frames := 4, cells := 0, slots := 0, locals := 91 }) (va_Pc [.ref y, .int p1, .int p2] (hPre D g σ Z M N R)) (hQi D g σ e_h_letIn_X9 M (fun (r : Int32) (M1 : hM) (N1 : hN) (R1 : hR) => N = N1 ∧ R = R1 ∧ iv r (-1) 109999)) 0 0 (hA σ) := by
  refine h_head (cc := cX9_letIn) (maxL := 4) (ret := (some .int)) (by decide) rfl (Nat.le_of_ble_eq_true rfl) e_h_letIn_X9 ?_
  intro p e s m below meth c ls Q ar hQ hx hb hr hlocks hml hown hts hK hE H locs hI hl
  have hown : s.vm.findClass RX9 = some m.cls := hown
  have hl : lv_has ls 4 [(0, .ref y), (1, .int p1), (2, .int p2)] := hl
  refine lv_aload_n hx hb dX9_letIn_0 rfl (lv_at hl 0 rfl) ?_
  refine lv_iload_n hx hb dX9_letIn_1 rfl (lv_at hl 2 rfl) ?_
  refine h_goi hI (by decide) (va_runV (As := [.int p2]) (rest := []) ⟨hx, hb, hml, hown, hts⟩ (h_keeperOf_X9 l D g σ Z hZ0 M N R y g_y p2 h_p2) (cwV 1 hts gX9_letIn_X9_keeperOf rfl rfl rfl (by decide +kernel) ⟨Nat.le_of_ble_eq_true rfl, Nat.le_of_ble_eq_true rfl⟩) (h_preV hZ0 hK hE hI g_y (by decide) rfl) rfl rfl hl.1 rfl (lv_room (Nat.le_of_ble_eq_true rfl)) dX9_letIn_2 ⟨Nat.le_of_ble_eq_true rfl, Nat.le_of_ble_eq_true rfl⟩) (fun r1 M2 N3 R4 H locs q5 z_M2 hI => ?_)
  obtain ⟨rfl, rfl, rfl, i_r1, z6⟩ := q5
  refine lv_if_ge (tgt := 10) hx hb dX9_letIn_5 (by decide) (fun c7 => ?_) (fun c7 => ?_)
  · have i8 : iv r1 0 5 := iv_le2 c7 kc_0 i_r1 (by decide)
    refine lv_aload_n hx hb dX9_letIn_10 rfl (lv_at hl 0 rfl) ?_
    refine lv_iload_n hx hb dX9_letIn_11 rfl (lv_at hl 1 rfl) ?_
    refine lv_iload_n hx hb dX9_letIn_12 rfl (lv_at hl 2 rfl) ?_
    have i9 : iv (M (R y 45) ((14 : Int32) + p2).toNatClampNeg) 0 5 := by rw [← z6]; exact i8
    refine h_goi hI (by decide) (va_runV (As := [.int p1, .int p2]) (rest := []) ⟨hx, hb, hml, hown, hts⟩ (h_likingIn_X9 l D g σ Z hZ0 M N R y g_y p1 h_p1 p2 h_p2 m0_CW i9) (cwV 2 hts gX9_letIn_X9_likingIn rfl rfl rfl (by decide +kernel) ⟨Nat.le_of_ble_eq_true rfl, Nat.le_of_ble_eq_true rfl⟩) (h_preV hZ0 hK hE hI g_y (by decide) rfl) rfl rfl hl.1 rfl (lv_room (Nat.le_of_ble_eq_true rfl)) dX9_letIn_13 ⟨Nat.le_of_ble_eq_true rfl, Nat.le_of_ble_eq_true rfl⟩) (fun r10 M11 N12 R13 H locs q14 z_M11 hI => ?_)
    obtain ⟨rfl, rfl⟩ := q14
    refine lv_istore_n (lv' := [(3, .int r10), (0, .ref y), (1, .int p1), (2, .int p2)]) hx hb dX9_letIn_16 rfl hl (by decide) rfl (fun ls hl => ?_)
    refine lv_iload_n hx hb dX9_letIn_17 rfl (lv_at hl 0 rfl) ?_
    refine lv_if_gt (tgt := 25) hx hb dX9_letIn_18 (by decide) (fun c15 => ?_) (fun c15 => ?_)
    · have i16 : iv r10 1 2147483647 := iv_lt2 c15 kc_0 (iv_any r10) (by decide)
      refine lv_ldcw (v := 100000) hx hb hown (hts (.constant RX9 512 (100000)) (List.mem_of_getElem? (i := 1) rfl)) dX9_letIn_25 ?_
      refine lv_iload_n hx hb dX9_letIn_28 rfl (lv_at hl 0 rfl) ?_
      refine h_goi hI (by decide) (va_runS (As := [.int r10]) (rest := [.int (100000 : Int32)]) ⟨hx, hb, hml, hown, hts⟩ (h_held_X9 l D g σ Z hZ0 M11 N R r10) (va_cwS 1 hts gX9_letIn_X9_held rfl rfl rfl (by decide +kernel) ⟨Nat.le_of_ble_eq_true rfl, Nat.le_of_ble_eq_true rfl⟩) (h_preS hZ0 hK hE hI) rfl rfl hl.1 rfl (lv_room (Nat.le_of_ble_eq_true rfl)) dX9_letIn_29 ⟨Nat.le_of_ble_eq_true rfl, Nat.le_of_ble_eq_true rfl⟩) (fun r17 M18 N19 R20 H locs q21 z_M18 hI => ?_)
      obtain ⟨rfl, rfl, rfl, i_r17⟩ := q21
      refine lv_iadd hx hb dX9_letIn_32 ?_
      refine h_nm (lo := 90001) (hi := 109999) (iv_add kc_100000 i_r17 (by decide) (by decide) (by decide) (by decide)) (fun v22 e_v22 i_v22 => ?_)
      exact h_iret hQ hx hb hr hlocks rfl hK hI ⟨rfl, rfl, (iv_w (lo' := (-1)) (hi' := 109999) i_v22 (by decide) (by decide))⟩ dX9_letIn_33
    · have i23 : iv r10 (-2147483648) 0 := iv_nlt2 c15 kc_0 (iv_any r10) (by decide)
      refine lv_iconst (v := (-1)) hx hb dX9_letIn_21 (by decide) ?_
      refine lv_goto (tgt := 33) hx hb dX9_letIn_22 (by decide) ?_
      exact h_iret hQ hx hb hr hlocks rfl hK hI ⟨rfl, rfl, (iv_w (lo' := (-1)) (hi' := 109999) kc_m1 (by decide) (by decide))⟩ dX9_letIn_33
  · have i24 : iv r1 (-1) (-1) := iv_nle2 c7 kc_0 i_r1 (by decide)
    refine lv_iconst (v := (-1)) hx hb dX9_letIn_8 (by decide) ?_
    exact h_iret hQ hx hb hr hlocks rfl hK hI ⟨rfl, rfl, (iv_w (lo' := (-1)) (hi' := 109999) kc_m1 (by decide) (by decide))⟩ dX9_letIn_9
