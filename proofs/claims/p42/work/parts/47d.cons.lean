abbrev e_h_readTenant_X9 : List (Nat × Nat) := [(9, 4), (9, 5), (9, 6), (9, 7), (9, 8), (9, 9), (113, 999), (121, 999), (122, 999), (123, 999), (124, 999)]
set_option maxHeartbeats 4000000 in
set_option maxRecDepth 100000 in
theorem h_readTenant_X9 (l : Launch) (D : va_G) (g : Nat → ClassId) (σ : Nat → Option Nat) (Z : State → Heap → Prop) (hZ0 : hZ σ Z) (M : hM) (N : hN) (R : hR) (y : Nat) (g_y : σ y = some 9) (m0_PI : PI M y) (m0_PH : PH M R y) (m0_RB : RB M y) (hn9 : (M (R y 13) (rbN M y)).toInt < 7) : Met l yX9_readTenant wsX9_readTenant ({ frames := 5, cells := 0, slots := 0, locals := 114 }) (va_Pc [.ref y] (hPre D g σ Z M N R)) (hQv D g σ e_h_readTenant_X9 M (fun (M1 : hM) (N1 : hN) (R1 : hR) => R = R1 ∧ (PI M1 y) ∧ (PN M M1 y) ∧ (PBx M M1 R y) ∧ (PH M1 R y))) 0 0 (hA σ) := by
  refine h_head (cc := cX9_readTenant) (maxL := 4) (ret := none) (by decide) rfl (Nat.le_of_ble_eq_true rfl) e_h_readTenant_X9 ?_
  intro p e s m below meth c ls Q ar hQ hx hb hr hlocks hml hown hts hK hE H locs hI hl
  have hown : s.vm.findClass RX9 = some m.cls := hown
  have hl : lv_has ls 4 [(0, .ref y)] := hl
  obtain ⟨v1, e_v1⟩ : ∃ z : Int32, z = M y 36 := ⟨_, rfl⟩
  have i_v1 : iv v1 0 1 := by rw [e_v1]; exact hI.iv1 (n := 67) g_y rfl (by decide) rfl
  have nb9 : v1.toNatClampNeg ≠ bk M y := rb_ne2 m0_RB e_v1 (hI.iv1 (a := y) (j := 35) (lo := 0) (hi := 1) (n := 67) g_y rfl (by decide) rfl)
  refine lv_bipush (v := 7) hx hb dX9_readTenant_0 (by decide) ?_
  refine lv_aload_n hx hb dX9_readTenant_2 rfl (lv_at hl 0 rfl) ?_
  refine h_geti (lo := 0) (hi := 1) hx hb hts iX9_readTenant_X9 hown hK hI g_y (by decide) rfl rfl 36 (by decide) rfl rfl (hts (.fieldLink RX9 259 "CatLeasesModel" "rb" "I") (List.mem_of_getElem? (i := 1) rfl)) (fun _ h9 => h9) dX9_readTenant_3 (fun v2 e_v2 i_v2 => ?_)
  have q3 : v1 = v2 := (e_v1).trans e_v2.symm
  subst q3
  refine lv_imul hx hb dX9_readTenant_6 ?_
  refine h_nm (lo := 0) (hi := 7) (iv_mul kc_7 i_v1 (by decide) (by decide) (by decide) (by decide) (by decide)) (fun v4 e_v4 i_v4 => ?_)
  refine lv_aload_n hx hb dX9_readTenant_7 rfl (lv_at hl 0 rfl) ?_
  refine h_getr hx hb hts iX9_readTenant_X9 hown hK hI g_y (by decide) rfl rfl 13 (by decide) rfl 113 rfl (hts (.fieldLink RX9 27 "CatLeasesModel" "tenants" "[I") (List.mem_of_getElem? (i := 2) rfl)) (fun _ h9 => h9) dX9_readTenant_8 (fun a5 e_a5 g_a5 => ?_)
  refine lv_aload_n hx hb dX9_readTenant_11 rfl (lv_at hl 0 rfl) ?_
  refine h_geti (lo := 0) (hi := 1) hx hb hts iX9_readTenant_X9 hown hK hI g_y (by decide) rfl rfl 36 (by decide) rfl rfl (hts (.fieldLink RX9 259 "CatLeasesModel" "rb" "I") (List.mem_of_getElem? (i := 1) rfl)) (fun _ h9 => h9) dX9_readTenant_12 (fun v6 e_v6 i_v6 => ?_)
  have q7 : v1 = v6 := (e_v1).trans e_v6.symm
  subst q7
  refine h_iald (j := v1.toNatClampNeg) (lo := 0) (hi := 7) hx hb hK hI g_a5 (by decide) rfl (iv_in (n := 2) i_v1 (by decide) (by decide)) rfl (hI.iv1 (n := 2) g_a5 rfl (in_lt (iv_in (n := 2) i_v1 (by decide) (by decide))) rfl) dX9_readTenant_15 (fun v8 e_v8 i_v8 => ?_)
  have i9 : iv v8 0 6 := ⟨(i_v8).1, by have h9 := hn9; rw [← (show v8 = M (R y 13) (rbN M y) by rw [e_v8, e_a5, rbN, ← (show v1 = M y 36 from e_v1)])] at h9; omega⟩
  refine lv_iadd hx hb dX9_readTenant_16 ?_
  refine h_nm (lo := 0) (hi := 13) (iv_add i_v4 i9 (by decide) (by decide) (by decide) (by decide)) (fun v10 e_v10 i_v10 => ?_)
  refine lv_istore_n (lv' := [(1, .int v10), (0, .ref y)]) hx hb dX9_readTenant_17 rfl hl (by decide) rfl (fun ls hl => ?_)
  refine lv_aload_n hx hb dX9_readTenant_18 rfl (lv_at hl 1 rfl) ?_
  refine h_getr hx hb hts iX9_readTenant_X9 hown hK hI g_y (by decide) rfl rfl 29 (by decide) rfl 129 rfl (hts (.fieldLink RX9 76 "CatLeasesModel" "tName" "[J") (List.mem_of_getElem? (i := 3) rfl)) (fun _ h9 => h9) dX9_readTenant_19 (fun a11 e_a11 g_a11 => ?_)
  refine lv_iload_n hx hb dX9_readTenant_22 rfl (lv_at hl 0 rfl) ?_
  refine lv_aload_n hx hb dX9_readTenant_23 rfl (lv_at hl 1 rfl) ?_
  refine lv_aload_n hx hb dX9_readTenant_24 rfl (lv_at hl 1 rfl) ?_
  refine lv_aload_n hx hb dX9_readTenant_25 rfl (lv_at hl 1 rfl) ?_
  refine h_getr hx hb hts iX9_readTenant_X9 hown hK hI g_y (by decide) rfl rfl 29 (by decide) rfl 129 rfl (hts (.fieldLink RX9 76 "CatLeasesModel" "tName" "[J") (List.mem_of_getElem? (i := 3) rfl)) (fun _ h9 => h9) dX9_readTenant_26 (fun a12 e_a12 g_a12 => ?_)
  have q13 : a11 = a12 := (e_a11).trans e_a12.symm
  subst q13
  refine lv_bipush (v := 7) hx hb dX9_readTenant_29 (by decide) ?_
  refine lv_aload_n hx hb dX9_readTenant_31 rfl (lv_at hl 1 rfl) ?_
  refine h_geti (lo := 0) (hi := 1) hx hb hts iX9_readTenant_X9 hown hK hI g_y (by decide) rfl rfl 36 (by decide) rfl rfl (hts (.fieldLink RX9 259 "CatLeasesModel" "rb" "I") (List.mem_of_getElem? (i := 1) rfl)) (fun _ h9 => h9) dX9_readTenant_32 (fun v14 e_v14 i_v14 => ?_)
  have q15 : v1 = v14 := (e_v1).trans e_v14.symm
  subst q15
  refine lv_imul hx hb dX9_readTenant_35 ?_
  refine h_nm (lo := 0) (hi := 7) (iv_mul kc_7 i_v1 (by decide) (by decide) (by decide) (by decide) (by decide)) (fun v16 e_v16 i_v16 => ?_)
  refine lv_aload_n hx hb dX9_readTenant_36 rfl (lv_at hl 1 rfl) ?_
  refine h_getr hx hb hts iX9_readTenant_X9 hown hK hI g_y (by decide) rfl rfl 13 (by decide) rfl 113 rfl (hts (.fieldLink RX9 27 "CatLeasesModel" "tenants" "[I") (List.mem_of_getElem? (i := 2) rfl)) (fun _ h9 => h9) dX9_readTenant_37 (fun a17 e_a17 g_a17 => ?_)
  have q18 : a5 = a17 := (e_a5).trans e_a17.symm
  subst q18
  refine lv_aload_n hx hb dX9_readTenant_40 rfl (lv_at hl 1 rfl) ?_
  refine h_geti (lo := 0) (hi := 1) hx hb hts iX9_readTenant_X9 hown hK hI g_y (by decide) rfl rfl 36 (by decide) rfl rfl (hts (.fieldLink RX9 259 "CatLeasesModel" "rb" "I") (List.mem_of_getElem? (i := 1) rfl)) (fun _ h9 => h9) dX9_readTenant_41 (fun v19 e_v19 i_v19 => ?_)
  have q20 : v1 = v19 := (e_v1).trans e_v19.symm
  subst q20
  refine h_iald (j := v1.toNatClampNeg) (lo := 0) (hi := 7) hx hb hK hI g_a5 (by decide) rfl (iv_in (n := 2) i_v1 (by decide) (by decide)) rfl (hI.iv1 (n := 2) g_a5 rfl (in_lt (iv_in (n := 2) i_v1 (by decide) (by decide))) rfl) dX9_readTenant_44 (fun v21 e_v21 i_v21 => ?_)
  have q22 : v8 = v21 := (e_v8).trans e_v21.symm
  subst q22
  refine h_goi hI (by decide) (va_runV (As := [.ref a11, .int v16, .int v8]) (rest := [.ref y, .int v10, .ref a11]) ⟨hx, hb, hml, hown, hts⟩ (h_here_129 l D g σ Z hZ0 M N R y g_y a11 g_a11 v16 i_v16 v8 (iv_w (lo' := 0) (hi' := 7) i9 (by decide) (by decide))) (cwV 3 hts gX9_readTenant_X9_here rfl rfl rfl (by decide +kernel) ⟨Nat.le_of_ble_eq_true rfl, Nat.le_of_ble_eq_true rfl⟩) (h_preV hZ0 hK hE hI g_y (by decide) rfl) rfl rfl hl.1 rfl (lv_room (Nat.le_of_ble_eq_true rfl)) dX9_readTenant_45 ⟨Nat.le_of_ble_eq_true rfl, Nat.le_of_ble_eq_true rfl⟩) (fun r23 M24 N25 R26 H locs q27 z_M24 hI => ?_)
  obtain ⟨rfl, rfl, rfl, i_r23, z28⟩ := q27
  refine h_gol hI (by decide) (va_runV (As := [.int r23]) (rest := [.int v10, .ref a11]) ⟨hx, hb, hml, hown, hts⟩ (h_fresh_X9 l D g σ Z hZ0 M N R y g_y r23 (iv_w (lo' := (-1)) (hi' := 7) i_r23 (by decide) (by decide)) m0_PI) (cwV 1 hts gX9_readTenant_X9_fresh rfl rfl rfl (by decide +kernel) ⟨Nat.le_of_ble_eq_true rfl, Nat.le_of_ble_eq_true rfl⟩) (h_preV hZ0 hK hE hI g_y (by decide) rfl) rfl rfl hl.1 rfl (lv_room (Nat.le_of_ble_eq_true rfl)) dX9_readTenant_48 ⟨Nat.le_of_ble_eq_true rfl, Nat.le_of_ble_eq_true rfl⟩) (fun w29 M30 N31 R32 H locs q33 z_M30 hI => ?_)
  obtain ⟨rfl, m34, m35⟩ := q33
  refine h_last (j := v10.toNatClampNeg) hx hb hK hI g_a11 (by decide) rfl (iv_in (n := 14) i_v10 (by decide) (by decide)) rfl dX9_readTenant_51 (fun N36 H locs e_N36 hI => ?_)
  refine lv_aload_n hx hb dX9_readTenant_52 rfl (lv_at hl 1 rfl) ?_
  refine h_getr hx hb hts iX9_readTenant_X9 hown hK hI g_y (by decide) rfl rfl 21 (by decide) rfl 121 rfl (hts (.fieldLink RX9 51 "CatLeasesModel" "hours" "[I") (List.mem_of_getElem? (i := 4) rfl)) (fun _ h9 => h9) dX9_readTenant_53 (fun a37 e_a37 g_a37 => ?_)
  refine lv_iload_n hx hb dX9_readTenant_56 rfl (lv_at hl 0 rfl) ?_
  refine lv_aload_n hx hb dX9_readTenant_57 rfl (lv_at hl 1 rfl) ?_
  refine lv_ldc2 (v := 448546566771) hx hb hown (hts (.constantLong RX9 170 (448546566771)) (List.mem_of_getElem? (i := 5) rfl)) dX9_readTenant_58 ?_
  refine lv_iconst (v := 0) hx hb dX9_readTenant_61 (by decide) ?_
  refine lv_bipush (v := 99) hx hb dX9_readTenant_62 (by decide) ?_
  refine h_goi hI (by decide) (va_runV (As := [.long (448546566771 : Int64), .int (0 : Int32), .int (99 : Int32)]) (rest := [.int v10, .ref a37]) ⟨hx, hb, hml, hown, hts⟩ (h_after_X9 l D g σ Z hZ0 M30 N36 R y g_y (448546566771 : Int64) (0 : Int32) (99 : Int32) m34) (cwV 3 hts gX9_readTenant_X9_after rfl rfl rfl (by decide +kernel) ⟨Nat.le_of_ble_eq_true rfl, Nat.le_of_ble_eq_true rfl⟩) (h_preV hZ0 hK hE hI g_y (by decide) rfl) rfl rfl hl.1 rfl (lv_room (Nat.le_of_ble_eq_true rfl)) dX9_readTenant_64 ⟨Nat.le_of_ble_eq_true rfl, Nat.le_of_ble_eq_true rfl⟩) (fun r38 M39 N40 R41 H locs q42 z_M39 hI => ?_)
  obtain ⟨rfl, m43, m44⟩ := q42
  refine h_iast (j := v10.toNatClampNeg) hx hb hK hI g_a37 (by decide) rfl (iv_in (n := 14) i_v10 (by decide) (by decide)) rfl (iv_any _) rfl dX9_readTenant_67 (fun M45 H locs e_M45 hI => ?_)
  refine lv_aload_n hx hb dX9_readTenant_68 rfl (lv_at hl 1 rfl) ?_
  refine h_getr hx hb hts iX9_readTenant_X9 hown hK hI g_y (by decide) rfl rfl 22 (by decide) rfl 122 rfl (hts (.fieldLink RX9 54 "CatLeasesModel" "warm" "[I") (List.mem_of_getElem? (i := 6) rfl)) (fun _ h9 => h9) dX9_readTenant_69 (fun a46 e_a46 g_a46 => ?_)
  refine lv_iload_n hx hb dX9_readTenant_72 rfl (lv_at hl 0 rfl) ?_
  refine lv_aload_n hx hb dX9_readTenant_73 rfl (lv_at hl 1 rfl) ?_
  refine lv_ldc2 (v := 2002874989) hx hb hown (hts (.constantLong RX9 172 (2002874989)) (List.mem_of_getElem? (i := 7) rfl)) dX9_readTenant_74 ?_
  refine lv_bipush (v := 9) hx hb dX9_readTenant_77 (by decide) ?_
  have m47 : PI M45 y := (PI_ag hI.2.1 g_y m43 (hAd.put e_M45 g_a37 rfl))
  refine h_goi hI (by decide) (va_runV (As := [.long (2002874989 : Int64), .int (9 : Int32)]) (rest := [.int v10, .ref a46]) ⟨hx, hb, hml, hown, hts⟩ (h_perhaps_X9 l D g σ Z hZ0 M45 N40 R y g_y (2002874989 : Int64) (9 : Int32) m47) (cwV 2 hts gX9_readTenant_X9_perhaps rfl rfl rfl (by decide +kernel) ⟨Nat.le_of_ble_eq_true rfl, Nat.le_of_ble_eq_true rfl⟩) (h_preV hZ0 hK hE hI g_y (by decide) rfl) rfl rfl hl.1 rfl (lv_room (Nat.le_of_ble_eq_true rfl)) dX9_readTenant_79 ⟨Nat.le_of_ble_eq_true rfl, Nat.le_of_ble_eq_true rfl⟩) (fun r48 M49 N50 R51 H locs q52 z_M49 hI => ?_)
  obtain ⟨rfl, m53, m54⟩ := q52
  refine h_iast (j := v10.toNatClampNeg) hx hb hK hI g_a46 (by decide) rfl (iv_in (n := 14) i_v10 (by decide) (by decide)) rfl (iv_any _) rfl dX9_readTenant_82 (fun M55 H locs e_M55 hI => ?_)
  refine lv_aload_n hx hb dX9_readTenant_83 rfl (lv_at hl 1 rfl) ?_
  refine h_getr hx hb hts iX9_readTenant_X9 hown hK hI g_y (by decide) rfl rfl 23 (by decide) rfl 123 rfl (hts (.fieldLink RX9 57 "CatLeasesModel" "fidget" "[I") (List.mem_of_getElem? (i := 8) rfl)) (fun _ h9 => h9) dX9_readTenant_84 (fun a56 e_a56 g_a56 => ?_)
  refine lv_iload_n hx hb dX9_readTenant_87 rfl (lv_at hl 0 rfl) ?_
  refine lv_aload_n hx hb dX9_readTenant_88 rfl (lv_at hl 1 rfl) ?_
  refine lv_ldc2 (v := 28826327576835187) hx hb hown (hts (.constantLong RX9 174 (28826327576835187)) (List.mem_of_getElem? (i := 9) rfl)) dX9_readTenant_89 ?_
  refine lv_bipush (v := 9) hx hb dX9_readTenant_92 (by decide) ?_
  have m57 : PI M55 y := (PI_ag hI.2.1 g_y m53 (hAd.put e_M55 g_a46 rfl))
  refine h_goi hI (by decide) (va_runV (As := [.long (28826327576835187 : Int64), .int (9 : Int32)]) (rest := [.int v10, .ref a56]) ⟨hx, hb, hml, hown, hts⟩ (h_perhaps_X9 l D g σ Z hZ0 M55 N50 R y g_y (28826327576835187 : Int64) (9 : Int32) m57) (cwV 2 hts gX9_readTenant_X9_perhaps rfl rfl rfl (by decide +kernel) ⟨Nat.le_of_ble_eq_true rfl, Nat.le_of_ble_eq_true rfl⟩) (h_preV hZ0 hK hE hI g_y (by decide) rfl) rfl rfl hl.1 rfl (lv_room (Nat.le_of_ble_eq_true rfl)) dX9_readTenant_94 ⟨Nat.le_of_ble_eq_true rfl, Nat.le_of_ble_eq_true rfl⟩) (fun r58 M59 N60 R61 H locs q62 z_M59 hI => ?_)
  obtain ⟨rfl, m63, m64⟩ := q62
  refine h_iast (j := v10.toNatClampNeg) hx hb hK hI g_a56 (by decide) rfl (iv_in (n := 14) i_v10 (by decide) (by decide)) rfl (iv_any _) rfl dX9_readTenant_97 (fun M65 H locs e_M65 hI => ?_)
  refine lv_aload_n hx hb dX9_readTenant_98 rfl (lv_at hl 1 rfl) ?_
  refine h_getr hx hb hts iX9_readTenant_X9 hown hK hI g_y (by decide) rfl rfl 24 (by decide) rfl 124 rfl (hts (.fieldLink RX9 60 "CatLeasesModel" "inRoom" "[I") (List.mem_of_getElem? (i := 10) rfl)) (fun _ h9 => h9) dX9_readTenant_99 (fun a66 e_a66 g_a66 => ?_)
  refine lv_iload_n hx hb dX9_readTenant_102 rfl (lv_at hl 0 rfl) ?_
  refine lv_iconst (v := (-1)) hx hb dX9_readTenant_103 (by decide) ?_
  refine h_iast (j := v10.toNatClampNeg) hx hb hK hI g_a66 (by decide) rfl (iv_in (n := 14) i_v10 (by decide) (by decide)) rfl (iv_w (lo' := (-1)) (hi' := 7) kc_m1 (by decide) (by decide)) rfl dX9_readTenant_104 (fun M67 H locs e_M67 hI => ?_)
  refine lv_aload_n hx hb dX9_readTenant_105 rfl (lv_at hl 1 rfl) ?_
  refine lv_ldc2 (v := 26990) hx hb hown (hts (.constantLong RX9 176 (26990)) (List.mem_of_getElem? (i := 11) rfl)) dX9_readTenant_106 ?_
  have m68 : PI M67 y := (PI_ag hI.2.1 g_y (PI_ag hI.2.1 g_y m63 (hAd.put e_M65 g_a56 rfl)) (hAd.put e_M67 g_a66 rfl))
  refine h_goi hI (by decide) (va_runV (As := [.long (26990 : Int64)]) (rest := []) ⟨hx, hb, hml, hown, hts⟩ (h_passes_X9 l D g σ Z hZ0 M67 N60 R y g_y (26990 : Int64) m68) (cwV 1 hts gX9_readTenant_X9_passes rfl rfl rfl (by decide +kernel) ⟨Nat.le_of_ble_eq_true rfl, Nat.le_of_ble_eq_true rfl⟩) (h_preV hZ0 hK hE hI g_y (by decide) rfl) rfl rfl hl.1 rfl (lv_room (Nat.le_of_ble_eq_true rfl)) dX9_readTenant_109 ⟨Nat.le_of_ble_eq_true rfl, Nat.le_of_ble_eq_true rfl⟩) (fun r69 M70 N71 R72 H locs q73 z_M70 hI => ?_)
  obtain ⟨rfl, i_r69, m74, m75⟩ := q73
  refine lv_if_eq (tgt := 201) hx hb dX9_readTenant_112 (by decide) (fun c76 => ?_) (fun c76 => ?_)
  · have i77 : iv r69 0 0 := iv_eq1 c76 i_r69 kc_0
    refine lv_aload_n hx hb dX9_readTenant_201 rfl (lv_at hl 1 rfl) ?_
    refine h_getr hx hb hts iX9_readTenant_X9 hown hK hI g_y (by decide) rfl rfl 13 (by decide) rfl 113 rfl (hts (.fieldLink RX9 27 "CatLeasesModel" "tenants" "[I") (List.mem_of_getElem? (i := 2) rfl)) (fun _ h9 => h9) dX9_readTenant_202 (fun a78 e_a78 g_a78 => ?_)
    have q79 : a5 = a78 := (e_a5).trans e_a78.symm
    subst q79
    refine lv_aload_n hx hb dX9_readTenant_205 rfl (lv_at hl 1 rfl) ?_
    refine h_geti (lo := 0) (hi := 1) hx hb hts iX9_readTenant_X9 hown hK hI g_y (by decide) rfl rfl 36 (by decide) rfl rfl (hts (.fieldLink RX9 259 "CatLeasesModel" "rb" "I") (List.mem_of_getElem? (i := 1) rfl)) (fun _ h9 => h9) dX9_readTenant_206 (fun v80 e_v80 i_v80 => ?_)
    have q81 : v1 = v80 := ((((((((((e_v1).trans (z_M30 y 9 36 g_y rfl).symm).trans (z_M39 y 9 36 g_y rfl).symm).trans (u2_st (a := y) (k := 36) e_M45 (u2_a (so_ne g_y g_a37 (by decide)))).symm).trans (z_M49 y 9 36 g_y rfl).symm).trans (u2_st (a := y) (k := 36) e_M55 (u2_a (so_ne g_y g_a46 (by decide)))).symm).trans (z_M59 y 9 36 g_y rfl).symm).trans (u2_st (a := y) (k := 36) e_M65 (u2_a (so_ne g_y g_a56 (by decide)))).symm).trans (u2_st (a := y) (k := 36) e_M67 (u2_a (so_ne g_y g_a66 (by decide)))).symm).trans (z_M70 y 9 36 g_y rfl).symm).trans e_v80.symm
    subst q81
    refine lv_dup2_11 hx hb dX9_readTenant_209 rfl rfl ?_
    refine h_iald (j := v1.toNatClampNeg) (lo := 0) (hi := 7) hx hb hK hI g_a5 (by decide) rfl (iv_in (n := 2) i_v1 (by decide) (by decide)) rfl (hI.iv1 (n := 2) g_a5 rfl (in_lt (iv_in (n := 2) i_v1 (by decide) (by decide))) rfl) dX9_readTenant_210 (fun v82 e_v82 i_v82 => ?_)
    have q83 : v8 = v82 := ((((((((((e_v8).trans (z_M30 a5 113 v1.toNatClampNeg g_a5 rfl).symm).trans (z_M39 a5 113 v1.toNatClampNeg g_a5 rfl).symm).trans (u2_st (a := a5) (k := v1.toNatClampNeg) e_M45 (u2_a (so_ne g_a5 g_a37 (by decide)))).symm).trans (z_M49 a5 113 v1.toNatClampNeg g_a5 rfl).symm).trans (u2_st (a := a5) (k := v1.toNatClampNeg) e_M55 (u2_a (so_ne g_a5 g_a46 (by decide)))).symm).trans (z_M59 a5 113 v1.toNatClampNeg g_a5 rfl).symm).trans (u2_st (a := a5) (k := v1.toNatClampNeg) e_M65 (u2_a (so_ne g_a5 g_a56 (by decide)))).symm).trans (u2_st (a := a5) (k := v1.toNatClampNeg) e_M67 (u2_a (so_ne g_a5 g_a66 (by decide)))).symm).trans (z_M70 a5 113 v1.toNatClampNeg g_a5 rfl).symm).trans e_v82.symm
    subst q83
    refine lv_iconst (v := 1) hx hb dX9_readTenant_211 (by decide) ?_
    refine lv_iadd hx hb dX9_readTenant_212 ?_
    refine h_nm (lo := 1) (hi := 7) (iv_add i9 kc_1 (by decide) (by decide) (by decide) (by decide)) (fun v84 e_v84 i_v84 => ?_)
    refine h_iast (j := v1.toNatClampNeg) hx hb hK hI g_a5 (by decide) rfl (iv_in (n := 2) i_v1 (by decide) (by decide)) rfl (iv_w (lo' := 0) (hi' := 7) i_v84 (by decide) (by decide)) rfl dX9_readTenant_213 (fun M85 H locs e_M85 hI => ?_)
    have m86 : PI M85 y := (PI_ag hI.2.1 g_y m74 (hAd.put e_M85 g_a5 rfl))
    have m87 : PN M M85 y := (PN_ag hI.2.1 g_y (PN_tr (PN_ag hI.2.1 g_y (PN_ag hI.2.1 g_y (PN_tr (PN_ag hI.2.1 g_y (PN_tr (PN_ag hI.2.1 g_y (PN_tr (PN_tr PN_rf m35) m44) (hAd.put e_M45 g_a37 rfl)) m54) (hAd.put e_M55 g_a46 rfl)) m64) (hAd.put e_M65 g_a56 rfl)) (hAd.put e_M67 g_a66 rfl)) m75) (hAd.put e_M85 g_a5 rfl))
    have m88 : PBx M M85 R y := (PBx_ag hI.2.1 g_y (PBx_ag hI.2.1 g_y (PBx_ag hI.2.1 g_y (PBx_ag hI.2.1 g_y (PBx_ag hI.2.1 g_y (PBx_ag hI.2.1 g_y (PBx_ag hI.2.1 g_y (PBx_ag hI.2.1 g_y (PBx_ag hI.2.1 g_y (PBx_ag hI.2.1 g_y PBx_rf (hAd.ag z_M30 (by decide))) (hAd.ag z_M39 (by decide))) (hAd.put e_M45 g_a37 rfl)) (hAd.ag z_M49 (by decide))) (hAd.put e_M55 g_a46 rfl)) (hAd.ag z_M59 (by decide))) (hAd.put e_M65 g_a56 rfl)) (hAd.put e_M67 g_a66 rfl)) (hAd.ag z_M70 (by decide))) (hAd.put e_M85 g_a5 rfl))
    have m89 : PH M85 R y := (PH_ag hI.2.1 g_y (PH_call9 hI.2.1 g_y m75 z_M70 (by decide) (PH_ag hI.2.1 g_y (PH_ag hI.2.1 g_y (PH_call9 hI.2.1 g_y m64 z_M59 (by decide) (PH_ag hI.2.1 g_y (PH_call9 hI.2.1 g_y m54 z_M49 (by decide) (PH_ag hI.2.1 g_y (PH_call9 hI.2.1 g_y m44 z_M39 (by decide) (PH_call9 hI.2.1 g_y m35 z_M30 (by decide) m0_PH)) (hAd.put e_M45 g_a37 rfl))) (hAd.put e_M55 g_a46 rfl))) (hAd.put e_M65 g_a56 rfl)) (hAd.put e_M67 g_a66 rfl))) (hAd.put e_M85 g_a5 rfl))
    exact h_vret hQ hx hb hr hlocks hK hI ⟨rfl, m86, m87, m88, m89⟩ dX9_readTenant_214
  · have i90 : iv r69 1 1 := iv_neL c76 i_r69 (by decide) (by decide)
    refine lv_aload_n hx hb dX9_readTenant_115 rfl (lv_at hl 1 rfl) ?_
    refine h_goi hI (by decide) (va_runV (As := []) (rest := []) ⟨hx, hb, hml, hown, hts⟩ (h_isGood_X9 l D g σ Z hZ0 M70 N71 R y g_y) (cwV 0 hts gX9_readTenant_X9_isGood rfl rfl rfl (by decide +kernel) ⟨Nat.le_of_ble_eq_true rfl, Nat.le_of_ble_eq_true rfl⟩) (h_preV hZ0 hK hE hI g_y (by decide) rfl) rfl rfl hl.1 rfl (lv_room (Nat.le_of_ble_eq_true rfl)) dX9_readTenant_116 ⟨Nat.le_of_ble_eq_true rfl, Nat.le_of_ble_eq_true rfl⟩) (fun r91 M92 N93 R94 H locs q95 z_M92 hI => ?_)
    obtain ⟨rfl, rfl, rfl, i_r91, z96, z97⟩ := q95
    have J130 : ∀ (t0_130 : Int32) (H : Heap) (locs : List Loc) (ls : Array Slot), kI D g σ e_h_readTenant_X9 M s.heap M70 N71 R H locs → lv_has ls 4 [(0, .ref y), (1, .int v10)] → iv t0_130 (-1) 7 → W p l e (headSpec wsX9_readTenant ({ frames := 5, cells := 0, slots := 0, locals := 114 })).room s m ar below meth c H locs 0 0 Q (F0 m 130 ls [.int t0_130]) := by
      intro t0_130 H locs ls hI hl i_t0_130
      refine lv_istore_n (lv' := [(2, .int t0_130), (0, .ref y), (1, .int v10)]) hx hb dX9_readTenant_130 rfl hl (by decide) rfl (fun ls hl => ?_)
      refine lv_iconst (v := 0) hx hb dX9_readTenant_131 (by decide) ?_
      have J133 : ∀ (n : Nat) (M_133 : hM) (v3_133 : Int32) (H : Heap) (locs : List Loc) (ls : Array Slot), kI D g σ e_h_readTenant_X9 M s.heap M_133 N71 R H locs → lv_has ls 4 [(0, .ref y), (1, .int v10), (2, .int t0_130), (3, .int v3_133)] → v1 = M_133 y 36 → PI M_133 y → PN M M_133 y → PBx M M_133 R y → PH M_133 R y → RB M_133 y → iv v3_133 0 6 → (M_133 (R y 13) (rbN M_133 y)).toInt < 7 → 7 ≤ v3_133.toInt + (n : Int) → W p l e (headSpec wsX9_readTenant ({ frames := 5, cells := 0, slots := 0, locals := 114 })).room s m ar below meth c H locs 0 0 Q (F0 m 133 ls []) := by
        intro n
        induction n with
        | zero => intro M_133 v3_133 H locs ls hI hl k0_133 m_PI_133 m_PN_133 m_PB_133 m_PH_133 m_RB_133 i_v3_133 hn_133 hn; exfalso; have hz := i_v3_133; simp only [iv] at hz; omega
        | succ n ih133 =>
          intro M_133 v3_133 H locs ls hI hl k0_133 m_PI_133 m_PN_133 m_PB_133 m_PH_133 m_RB_133 i_v3_133 hn_133 hn133
          refine lv_iload_n hx hb dX9_readTenant_133 rfl (lv_at hl 3 rfl) ?_
          refine lv_aload_n hx hb dX9_readTenant_134 rfl (lv_at hl 0 rfl) ?_
          refine h_getr hx hb hts iX9_readTenant_X9 hown hK hI g_y (by decide) rfl rfl 13 (by decide) rfl 113 rfl (hts (.fieldLink RX9 27 "CatLeasesModel" "tenants" "[I") (List.mem_of_getElem? (i := 2) rfl)) (fun _ h9 => h9) dX9_readTenant_135 (fun a98 e_a98 g_a98 => ?_)
          have q99 : a5 = a98 := (e_a5).trans e_a98.symm
          subst q99
          refine lv_aload_n hx hb dX9_readTenant_138 rfl (lv_at hl 0 rfl) ?_
          refine h_geti (lo := 0) (hi := 1) hx hb hts iX9_readTenant_X9 hown hK hI g_y (by decide) rfl rfl 36 (by decide) rfl rfl (hts (.fieldLink RX9 259 "CatLeasesModel" "rb" "I") (List.mem_of_getElem? (i := 1) rfl)) (fun _ h9 => h9) dX9_readTenant_139 (fun v100 e_v100 i_v100 => ?_)
          have q101 : v1 = v100 := (k0_133).trans e_v100.symm
          subst q101
          refine h_iald (j := v1.toNatClampNeg) (lo := 0) (hi := 7) hx hb hK hI g_a5 (by decide) rfl (iv_in (n := 2) i_v1 (by decide) (by decide)) rfl (hI.iv1 (n := 2) g_a5 rfl (in_lt (iv_in (n := 2) i_v1 (by decide) (by decide))) rfl) dX9_readTenant_142 (fun v102 e_v102 i_v102 => ?_)
          have i103 : iv v102 0 6 := ⟨(i_v102).1, by have h9 := hn_133; rw [← (show v102 = M_133 (R y 13) (rbN M_133 y) by rw [e_v102, e_a5, rbN, ← (show v1 = M_133 y 36 from k0_133)])] at h9; omega⟩
          refine lv_icmp_ge (tgt := 190) hx hb dX9_readTenant_143 (by decide) (fun c104 => ?_) (fun c104 => ?_)
          · refine lv_aload_n hx hb dX9_readTenant_190 rfl (lv_at hl 0 rfl) ?_
            refine h_getr hx hb hts iX9_readTenant_X9 hown hK hI g_y (by decide) rfl rfl 24 (by decide) rfl 124 rfl (hts (.fieldLink RX9 60 "CatLeasesModel" "inRoom" "[I") (List.mem_of_getElem? (i := 10) rfl)) (fun _ h9 => h9) dX9_readTenant_191 (fun a105 e_a105 g_a105 => ?_)
            have q106 : a66 = a105 := (e_a66).trans e_a105.symm
            subst q106
            refine lv_iload_n hx hb dX9_readTenant_194 rfl (lv_at hl 1 rfl) ?_
            refine lv_aload_n hx hb dX9_readTenant_195 rfl (lv_at hl 0 rfl) ?_
            refine lv_iload_n hx hb dX9_readTenant_196 rfl (lv_at hl 2 rfl) ?_
            refine h_goi hI (by decide) (va_runV (As := [.int t0_130]) (rest := [.int v10, .ref a66]) ⟨hx, hb, hml, hown, hts⟩ (h_known_7 l D g σ Z hZ0 M_133 N71 R y g_y t0_130 i_t0_130 m_PI_133) (cwV 1 hts gX9_readTenant_X9_known rfl rfl rfl (by decide +kernel) ⟨Nat.le_of_ble_eq_true rfl, Nat.le_of_ble_eq_true rfl⟩) (h_preV hZ0 hK hE hI g_y (by decide) rfl) rfl rfl hl.1 rfl (lv_room (Nat.le_of_ble_eq_true rfl)) dX9_readTenant_197 ⟨Nat.le_of_ble_eq_true rfl, Nat.le_of_ble_eq_true rfl⟩) (fun r107 M108 N109 R110 H locs q111 z_M108 hI => ?_)
            obtain ⟨rfl, i_r107, m112, m113, z114⟩ := q111
            refine h_iast (j := v10.toNatClampNeg) hx hb hK hI g_a66 (by decide) rfl (iv_in (n := 14) i_v10 (by decide) (by decide)) rfl (iv_w (lo' := (-1)) (hi' := 7) i_r107 (by decide) (by decide)) rfl dX9_readTenant_200 (fun M115 H locs e_M115 hI => ?_)
            refine lv_aload_n hx hb dX9_readTenant_201 rfl (lv_at hl 0 rfl) ?_
            refine h_getr hx hb hts iX9_readTenant_X9 hown hK hI g_y (by decide) rfl rfl 13 (by decide) rfl 113 rfl (hts (.fieldLink RX9 27 "CatLeasesModel" "tenants" "[I") (List.mem_of_getElem? (i := 2) rfl)) (fun _ h9 => h9) dX9_readTenant_202 (fun a116 e_a116 g_a116 => ?_)
            have q117 : a5 = a116 := (e_a5).trans e_a116.symm
            subst q117
            refine lv_aload_n hx hb dX9_readTenant_205 rfl (lv_at hl 0 rfl) ?_
            refine h_geti (lo := 0) (hi := 1) hx hb hts iX9_readTenant_X9 hown hK hI g_y (by decide) rfl rfl 36 (by decide) rfl rfl (hts (.fieldLink RX9 259 "CatLeasesModel" "rb" "I") (List.mem_of_getElem? (i := 1) rfl)) (fun _ h9 => h9) dX9_readTenant_206 (fun v118 e_v118 i_v118 => ?_)
            have q119 : v1 = v118 := (((k0_133).trans (z_M108 y 9 36 g_y rfl).symm).trans (u2_st (a := y) (k := 36) e_M115 (u2_a (so_ne g_y g_a66 (by decide)))).symm).trans e_v118.symm
            subst q119
            refine lv_dup2_11 hx hb dX9_readTenant_209 rfl rfl ?_
            refine h_iald (j := v1.toNatClampNeg) (lo := 0) (hi := 7) hx hb hK hI g_a5 (by decide) rfl (iv_in (n := 2) i_v1 (by decide) (by decide)) rfl (hI.iv1 (n := 2) g_a5 rfl (in_lt (iv_in (n := 2) i_v1 (by decide) (by decide))) rfl) dX9_readTenant_210 (fun v120 e_v120 i_v120 => ?_)
            have q121 : v102 = v120 := (((e_v102).trans (z_M108 a5 113 v1.toNatClampNeg g_a5 rfl).symm).trans (u2_st (a := a5) (k := v1.toNatClampNeg) e_M115 (u2_a (so_ne g_a5 g_a66 (by decide)))).symm).trans e_v120.symm
            subst q121
            refine lv_iconst (v := 1) hx hb dX9_readTenant_211 (by decide) ?_
            refine lv_iadd hx hb dX9_readTenant_212 ?_
            refine h_nm (lo := 1) (hi := 7) (iv_add i103 kc_1 (by decide) (by decide) (by decide) (by decide)) (fun v122 e_v122 i_v122 => ?_)
            refine h_iast (j := v1.toNatClampNeg) hx hb hK hI g_a5 (by decide) rfl (iv_in (n := 2) i_v1 (by decide) (by decide)) rfl (iv_w (lo' := 0) (hi' := 7) i_v122 (by decide) (by decide)) rfl dX9_readTenant_213 (fun M123 H locs e_M123 hI => ?_)
            have m124 : PI M123 y := (PI_ag hI.2.1 g_y (PI_ag hI.2.1 g_y m112 (hAd.put e_M115 g_a66 rfl)) (hAd.put e_M123 g_a5 rfl))
            have m125 : PN M M123 y := (PN_ag hI.2.1 g_y (PN_ag hI.2.1 g_y (PN_tr m_PN_133 m113) (hAd.put e_M115 g_a66 rfl)) (hAd.put e_M123 g_a5 rfl))
            have m126 : PBx M M123 R y := (PBx_ag hI.2.1 g_y (PBx_ag hI.2.1 g_y (PBx_ag hI.2.1 g_y m_PB_133 (hAd.ag z_M108 (by decide))) (hAd.put e_M115 g_a66 rfl)) (hAd.put e_M123 g_a5 rfl))
            have m127 : PH M123 R y := (PH_ag hI.2.1 g_y (PH_ag hI.2.1 g_y (PH_call9 hI.2.1 g_y m113 z_M108 (by decide) m_PH_133) (hAd.put e_M115 g_a66 rfl)) (hAd.put e_M123 g_a5 rfl))
            exact h_vret hQ hx hb hr hlocks hK hI ⟨rfl, m124, m125, m126, m127⟩ dX9_readTenant_214
          · have i128 : iv v102 1 6 := iv_nle1 c104 i103 i_v3_133 (by decide)
            have i129 : iv v3_133 0 5 := iv_nle2 c104 i103 i_v3_133 (by decide)
            refine lv_aload_n hx hb dX9_readTenant_146 rfl (lv_at hl 0 rfl) ?_
            refine h_goi hI (by decide) (va_runV (As := []) (rest := []) ⟨hx, hb, hml, hown, hts⟩ (h_isGood_X9 l D g σ Z hZ0 M_133 N71 R y g_y) (cwV 0 hts gX9_readTenant_X9_isGood rfl rfl rfl (by decide +kernel) ⟨Nat.le_of_ble_eq_true rfl, Nat.le_of_ble_eq_true rfl⟩) (h_preV hZ0 hK hE hI g_y (by decide) rfl) rfl rfl hl.1 rfl (lv_room (Nat.le_of_ble_eq_true rfl)) dX9_readTenant_147 ⟨Nat.le_of_ble_eq_true rfl, Nat.le_of_ble_eq_true rfl⟩) (fun r130 M131 N132 R133 H locs q134 z_M131 hI => ?_)
            obtain ⟨rfl, rfl, rfl, i_r130, z135, z136⟩ := q134
            refine lv_if_eq (tgt := 184) hx hb dX9_readTenant_150 (by decide) (fun c137 => ?_) (fun c137 => ?_)
            · obtain ⟨v138, e_v138⟩ : ∃ z : Int32, z = M_133 y 4 := ⟨_, rfl⟩
              have i_v138 : iv v138 0 5 := by rw [e_v138]; exact hI.iv1 (n := 67) g_y rfl (by decide) rfl
              have i139 : iv v138 1 5 := iv_neL (fun h9 => z136 c137 (e_v138.symm.trans h9)) i_v138 (by decide) (by decide)
              have i140 : iv r130 0 0 := iv_eq1 c137 i_r130 kc_0
              obtain ⟨v141, e_v141⟩ : ∃ z : Int32, z = v3_133 + Int32.ofInt 1 := ⟨_, rfl⟩
              have i_v141 : iv v141 1 6 := by rw [e_v141]; exact iv_add i129 (ki_1) (by decide) (by decide) (by decide) (by decide)
              refine lv_iinc (v := v141) (lv' := [(3, .int v141), (0, .ref y), (1, .int v10), (2, .int t0_130)]) hx hb dX9_readTenant_184 hl (k := 3) rfl e_v141.symm (by decide) rfl (fun ls hl => ?_)
              refine lv_goto (tgt := 133) hx hb dX9_readTenant_187 (by decide) ?_
              exact ih133 M_133 v141 H locs ls hI (lv_sub hl [1, 2, 3, 0] rfl) (k0_133) m_PI_133 m_PN_133 m_PB_133 m_PH_133 m_RB_133 (iv_w (lo' := 0) (hi' := 6) i_v141 (by decide) (by decide)) (by rw [rbN]; exact hn_133) (by have h9 := (h_inc e_v141 i129 ki_1 (by decide) (by decide)); omega)
            · obtain ⟨v142, e_v142⟩ : ∃ z : Int32, z = M_133 y 4 := ⟨_, rfl⟩
              have i_v142 : iv v142 0 5 := by rw [e_v142]; exact hI.iv1 (n := 67) g_y rfl (by decide) rfl
              have i143 : iv v142 0 0 := by rw [e_v142, z135 c137]; exact kc_0
              have i144 : iv r130 1 1 := iv_neL c137 i_r130 (by decide) (by decide)
              refine lv_iload_n hx hb dX9_readTenant_153 rfl (lv_at hl 2 rfl) ?_
              refine lv_if_lt (tgt := 184) hx hb dX9_readTenant_154 (by decide) (fun c145 => ?_) (fun c145 => ?_)
              · have i146 : iv t0_130 (-1) (-1) := iv_lt1 c145 i_t0_130 kc_0 (by decide)
                obtain ⟨v147, e_v147⟩ : ∃ z : Int32, z = v3_133 + Int32.ofInt 1 := ⟨_, rfl⟩
                have i_v147 : iv v147 1 6 := by rw [e_v147]; exact iv_add i129 (ki_1) (by decide) (by decide) (by decide) (by decide)
                refine lv_iinc (v := v147) (lv' := [(3, .int v147), (0, .ref y), (1, .int v10), (2, .int t0_130)]) hx hb dX9_readTenant_184 hl (k := 3) rfl e_v147.symm (by decide) rfl (fun ls hl => ?_)
                refine lv_goto (tgt := 133) hx hb dX9_readTenant_187 (by decide) ?_
                exact ih133 M_133 v147 H locs ls hI (lv_sub hl [1, 2, 3, 0] rfl) (k0_133) m_PI_133 m_PN_133 m_PB_133 m_PH_133 m_RB_133 (iv_w (lo' := 0) (hi' := 6) i_v147 (by decide) (by decide)) (by rw [rbN]; exact hn_133) (by have h9 := (h_inc e_v147 i129 ki_1 (by decide) (by decide)); omega)
              · have i148 : iv t0_130 0 7 := iv_nlt1 c145 i_t0_130 kc_0 (by decide)
                refine lv_aload_n hx hb dX9_readTenant_157 rfl (lv_at hl 0 rfl) ?_
                refine h_getr hx hb hts iX9_readTenant_X9 hown hK hI g_y (by decide) rfl rfl 24 (by decide) rfl 124 rfl (hts (.fieldLink RX9 60 "CatLeasesModel" "inRoom" "[I") (List.mem_of_getElem? (i := 10) rfl)) (fun _ h9 => h9) dX9_readTenant_158 (fun a149 e_a149 g_a149 => ?_)
                have q150 : a66 = a149 := (e_a66).trans e_a149.symm
                subst q150
                refine lv_bipush (v := 7) hx hb dX9_readTenant_161 (by decide) ?_
                refine lv_aload_n hx hb dX9_readTenant_163 rfl (lv_at hl 0 rfl) ?_
                refine h_geti (lo := 0) (hi := 1) hx hb hts iX9_readTenant_X9 hown hK hI g_y (by decide) rfl rfl 36 (by decide) rfl rfl (hts (.fieldLink RX9 259 "CatLeasesModel" "rb" "I") (List.mem_of_getElem? (i := 1) rfl)) (fun _ h9 => h9) dX9_readTenant_164 (fun v151 e_v151 i_v151 => ?_)
                have q152 : v1 = v151 := (k0_133).trans e_v151.symm
                subst q152
                refine lv_imul hx hb dX9_readTenant_167 ?_
                refine h_nm (lo := 0) (hi := 7) (iv_mul kc_7 i_v1 (by decide) (by decide) (by decide) (by decide) (by decide)) (fun v153 e_v153 i_v153 => ?_)
                refine lv_iload_n hx hb dX9_readTenant_168 rfl (lv_at hl 3 rfl) ?_
                refine lv_iadd hx hb dX9_readTenant_169 ?_
                refine h_nm (lo := 0) (hi := 12) (iv_add i_v153 i129 (by decide) (by decide) (by decide) (by decide)) (fun v154 e_v154 i_v154 => ?_)
                refine h_iald (j := v154.toNatClampNeg) (lo := (-1)) (hi := 7) hx hb hK hI g_a66 (by decide) rfl (iv_in (n := 14) i_v154 (by decide) (by decide)) rfl (hI.iv1 (n := 14) g_a66 rfl (in_lt (iv_in (n := 14) i_v154 (by decide) (by decide))) rfl) dX9_readTenant_170 (fun v155 e_v155 i_v155 => ?_)
                refine lv_iload_n hx hb dX9_readTenant_171 rfl (lv_at hl 2 rfl) ?_
                refine lv_icmp_ne (tgt := 184) hx hb dX9_readTenant_172 (by decide) (fun c156 => ?_) (fun c156 => ?_)
                · obtain ⟨v157, e_v157⟩ : ∃ z : Int32, z = v3_133 + Int32.ofInt 1 := ⟨_, rfl⟩
                  have i_v157 : iv v157 1 6 := by rw [e_v157]; exact iv_add i129 (ki_1) (by decide) (by decide) (by decide) (by decide)
                  refine lv_iinc (v := v157) (lv' := [(3, .int v157), (0, .ref y), (1, .int v10), (2, .int t0_130)]) hx hb dX9_readTenant_184 hl (k := 3) rfl e_v157.symm (by decide) rfl (fun ls hl => ?_)
                  refine lv_goto (tgt := 133) hx hb dX9_readTenant_187 (by decide) ?_
                  exact ih133 M_133 v157 H locs ls hI (lv_sub hl [1, 2, 3, 0] rfl) (k0_133) m_PI_133 m_PN_133 m_PB_133 m_PH_133 m_RB_133 (iv_w (lo' := 0) (hi' := 6) i_v157 (by decide) (by decide)) (by rw [rbN]; exact hn_133) (by have h9 := (h_inc e_v157 i129 ki_1 (by decide) (by decide)); omega)
                · have i158 : iv v155 0 7 := iv_eq1 c156 i_v155 i148
                  refine lv_aload_n hx hb dX9_readTenant_175 rfl (lv_at hl 0 rfl) ?_
                  refine lv_iconst (v := 3) hx hb dX9_readTenant_176 (by decide) ?_
                  refine lv_aload_n hx hb dX9_readTenant_177 rfl (lv_at hl 0 rfl) ?_
                  refine h_geti (lo := 0) (hi := 1600) hx hb hts iX9_readTenant_X9 hown hK hI g_y (by decide) rfl rfl 6 (by decide) rfl rfl (hts (.fieldLink RX9 199 "CatLeasesModel" "at" "I") (List.mem_of_getElem? (i := 12) rfl)) (fun _ h9 => h9) dX9_readTenant_178 (fun v159 e_v159 i_v159 => ?_)
                  refine h_gov hI (by decide) (va_runV (As := [.int (3 : Int32), .int v159]) (rest := []) ⟨hx, hb, hml, hown, hts⟩ (h_fails_X9 l D g σ Z hZ0 M_133 N71 R y g_y (3 : Int32) (iv_w (lo' := 1) (hi' := 5) kc_3 (by decide) (by decide)) v159 m_PI_133) (cwV 2 hts gX9_readTenant_X9_fails rfl rfl rfl (by decide +kernel) ⟨Nat.le_of_ble_eq_true rfl, Nat.le_of_ble_eq_true rfl⟩) (h_preV hZ0 hK hE hI g_y (by decide) rfl) rfl rfl hl.1 rfl (lv_room (Nat.le_of_ble_eq_true rfl)) dX9_readTenant_181 ⟨Nat.le_of_ble_eq_true rfl, Nat.le_of_ble_eq_true rfl⟩) (fun M161 N162 R163 H locs q164 z_M161 hI => ?_)
                  obtain ⟨rfl, rfl, m165, m166, z167⟩ := q164
                  obtain ⟨v168, e_v168⟩ : ∃ z : Int32, z = M161 y 4 := ⟨_, rfl⟩
                  have i_v168 : iv v168 1 5 := by rw [e_v168]; exact z167
                  obtain ⟨v169, e_v169⟩ : ∃ z : Int32, z = v3_133 + Int32.ofInt 1 := ⟨_, rfl⟩
                  have i_v169 : iv v169 1 6 := by rw [e_v169]; exact iv_add i129 (ki_1) (by decide) (by decide) (by decide) (by decide)
                  refine lv_iinc (v := v169) (lv' := [(3, .int v169), (0, .ref y), (1, .int v10), (2, .int t0_130)]) hx hb dX9_readTenant_184 hl (k := 3) rfl e_v169.symm (by decide) rfl (fun ls hl => ?_)
                  refine lv_goto (tgt := 133) hx hb dX9_readTenant_187 (by decide) ?_
                  have m170 : PN M M161 y := (PN_tr m_PN_133 m166)
                  have m171 : PBx M M161 R y := (PBx_ag hI.2.1 g_y m_PB_133 (hAd.ag z_M161 (by decide)))
                  have m172 : PH M161 R y := (PH_call9 hI.2.1 g_y m166 z_M161 (by decide) m_PH_133)
                  have m173 : RB M161 y := (RB_ag hI.2.1 g_y m_RB_133 (hAd.ag z_M161 (by decide)))
                  exact ih133 M161 v169 H locs ls hI (lv_sub hl [1, 2, 3, 0] rfl) ((k0_133).trans (z_M161 y 9 36 g_y rfl).symm) m165 m170 m171 m172 m173 (iv_w (lo' := 0) (hi' := 6) i_v169 (by decide) (by decide)) (by rw [rbN, (z_M161 y 9 36 g_y rfl), (hAg.row z_M161 (hI.2.1.r1 g_y 13 113 (by decide) rfl) (fun _ => rfl))]; exact hn_133) (by have h9 := (h_inc e_v169 i129 ki_1 (by decide) (by decide)); omega)
      refine lv_istore_n (lv' := [(3, .int (0 : Int32)), (2, .int t0_130), (0, .ref y), (1, .int v10)]) hx hb dX9_readTenant_132 rfl hl (by decide) rfl (fun ls hl => ?_)
      have m174 : PN M M70 y := (PN_tr (PN_ag hI.2.1 g_y (PN_ag hI.2.1 g_y (PN_tr (PN_ag hI.2.1 g_y (PN_tr (PN_ag hI.2.1 g_y (PN_tr (PN_tr PN_rf m35) m44) (hAd.put e_M45 g_a37 rfl)) m54) (hAd.put e_M55 g_a46 rfl)) m64) (hAd.put e_M65 g_a56 rfl)) (hAd.put e_M67 g_a66 rfl)) m75)
      have m175 : PBx M M70 R y := (PBx_ag hI.2.1 g_y (PBx_ag hI.2.1 g_y (PBx_ag hI.2.1 g_y (PBx_ag hI.2.1 g_y (PBx_ag hI.2.1 g_y (PBx_ag hI.2.1 g_y (PBx_ag hI.2.1 g_y (PBx_ag hI.2.1 g_y (PBx_ag hI.2.1 g_y PBx_rf (hAd.ag z_M30 (by decide))) (hAd.ag z_M39 (by decide))) (hAd.put e_M45 g_a37 rfl)) (hAd.ag z_M49 (by decide))) (hAd.put e_M55 g_a46 rfl)) (hAd.ag z_M59 (by decide))) (hAd.put e_M65 g_a56 rfl)) (hAd.put e_M67 g_a66 rfl)) (hAd.ag z_M70 (by decide)))
      have m176 : PH M70 R y := (PH_call9 hI.2.1 g_y m75 z_M70 (by decide) (PH_ag hI.2.1 g_y (PH_ag hI.2.1 g_y (PH_call9 hI.2.1 g_y m64 z_M59 (by decide) (PH_ag hI.2.1 g_y (PH_call9 hI.2.1 g_y m54 z_M49 (by decide) (PH_ag hI.2.1 g_y (PH_call9 hI.2.1 g_y m44 z_M39 (by decide) (PH_call9 hI.2.1 g_y m35 z_M30 (by decide) m0_PH)) (hAd.put e_M45 g_a37 rfl))) (hAd.put e_M55 g_a46 rfl))) (hAd.put e_M65 g_a56 rfl)) (hAd.put e_M67 g_a66 rfl)))
      have m177 : RB M70 y := (RB_ag hI.2.1 g_y (RB_ag hI.2.1 g_y (RB_ag hI.2.1 g_y (RB_ag hI.2.1 g_y (RB_ag hI.2.1 g_y (RB_ag hI.2.1 g_y (RB_ag hI.2.1 g_y (RB_ag hI.2.1 g_y (RB_ag hI.2.1 g_y m0_RB (hAd.ag z_M30 (by decide))) (hAd.ag z_M39 (by decide))) (hAd.put e_M45 g_a37 rfl)) (hAd.ag z_M49 (by decide))) (hAd.put e_M55 g_a46 rfl)) (hAd.ag z_M59 (by decide))) (hAd.put e_M65 g_a56 rfl)) (hAd.put e_M67 g_a66 rfl)) (hAd.ag z_M70 (by decide)))
      exact J133 7 M70 (0 : Int32) H locs ls hI (lv_sub hl [2, 3, 1, 0] rfl) ((((((((((e_v1).trans (z_M30 y 9 36 g_y rfl).symm).trans (z_M39 y 9 36 g_y rfl).symm).trans (u2_st (a := y) (k := 36) e_M45 (u2_a (so_ne g_y g_a37 (by decide)))).symm).trans (z_M49 y 9 36 g_y rfl).symm).trans (u2_st (a := y) (k := 36) e_M55 (u2_a (so_ne g_y g_a46 (by decide)))).symm).trans (z_M59 y 9 36 g_y rfl).symm).trans (u2_st (a := y) (k := 36) e_M65 (u2_a (so_ne g_y g_a56 (by decide)))).symm).trans (u2_st (a := y) (k := 36) e_M67 (u2_a (so_ne g_y g_a66 (by decide)))).symm).trans (z_M70 y 9 36 g_y rfl).symm) m74 m174 m175 m176 m177 (iv_w (lo' := 0) (hi' := 6) kc_0 (by decide) (by decide)) (by rw [rbN, ((z_M70 y 9 36 g_y rfl).trans ((u2_st (a := y) (k := 36) e_M67 (u2_a (so_ne g_y g_a66 (by decide)))).trans ((u2_st (a := y) (k := 36) e_M65 (u2_a (so_ne g_y g_a56 (by decide)))).trans ((z_M59 y 9 36 g_y rfl).trans ((u2_st (a := y) (k := 36) e_M55 (u2_a (so_ne g_y g_a46 (by decide)))).trans ((z_M49 y 9 36 g_y rfl).trans ((u2_st (a := y) (k := 36) e_M45 (u2_a (so_ne g_y g_a37 (by decide)))).trans ((z_M39 y 9 36 g_y rfl).trans (z_M30 y 9 36 g_y rfl))))))))), ((hAg.row z_M70 (hI.2.1.r1 g_y 13 113 (by decide) rfl) (fun _ => rfl)).trans ((u2_row e_M67 (so_ne (hI.2.1.r1 g_y 13 113 (by decide) rfl) g_a66 (by decide))).trans ((u2_row e_M65 (so_ne (hI.2.1.r1 g_y 13 113 (by decide) rfl) g_a56 (by decide))).trans ((hAg.row z_M59 (hI.2.1.r1 g_y 13 113 (by decide) rfl) (fun _ => rfl)).trans ((u2_row e_M55 (so_ne (hI.2.1.r1 g_y 13 113 (by decide) rfl) g_a46 (by decide))).trans ((hAg.row z_M49 (hI.2.1.r1 g_y 13 113 (by decide) rfl) (fun _ => rfl)).trans ((u2_row e_M45 (so_ne (hI.2.1.r1 g_y 13 113 (by decide) rfl) g_a37 (by decide))).trans ((hAg.row z_M39 (hI.2.1.r1 g_y 13 113 (by decide) rfl) (fun _ => rfl)).trans (hAg.row z_M30 (hI.2.1.r1 g_y 13 113 (by decide) rfl) (fun _ => rfl))))))))))]; exact hn9) (by have h9 := kc_0; simp only [iv] at h9; omega)
    refine lv_if_eq (tgt := 129) hx hb dX9_readTenant_119 (by decide) (fun c178 => ?_) (fun c178 => ?_)
    · obtain ⟨v179, e_v179⟩ : ∃ z : Int32, z = M70 y 4 := ⟨_, rfl⟩
      have i_v179 : iv v179 0 5 := by rw [e_v179]; exact hI.iv1 (n := 67) g_y rfl (by decide) rfl
      have i180 : iv v179 1 5 := iv_neL (fun h9 => z97 c178 (e_v179.symm.trans h9)) i_v179 (by decide) (by decide)
      have i181 : iv r91 0 0 := iv_eq1 c178 i_r91 kc_0
      refine lv_iconst (v := (-1)) hx hb dX9_readTenant_129 (by decide) ?_
      exact J130 (-1 : Int32) H locs ls hI (lv_sub hl [1, 0] rfl) (iv_w (lo' := (-1)) (hi' := 7) kc_m1 (by decide) (by decide))
    · obtain ⟨v182, e_v182⟩ : ∃ z : Int32, z = M70 y 4 := ⟨_, rfl⟩
      have i_v182 : iv v182 0 5 := by rw [e_v182]; exact hI.iv1 (n := 67) g_y rfl (by decide) rfl
      have i183 : iv v182 0 0 := by rw [e_v182, z96 c178]; exact kc_0
      have i184 : iv r91 1 1 := iv_neL c178 i_r91 (by decide) (by decide)
      refine lv_aload_n hx hb dX9_readTenant_122 rfl (lv_at hl 1 rfl) ?_
      refine h_goi hI (by decide) (va_runV (As := []) (rest := []) ⟨hx, hb, hml, hown, hts⟩ (h_roomHere_X9 l D g σ Z hZ0 M70 N71 R y g_y) (cwV 0 hts gX9_readTenant_X9_roomHere rfl rfl rfl (by decide +kernel) ⟨Nat.le_of_ble_eq_true rfl, Nat.le_of_ble_eq_true rfl⟩) (h_preV hZ0 hK hE hI g_y (by decide) rfl) rfl rfl hl.1 rfl (lv_room (Nat.le_of_ble_eq_true rfl)) dX9_readTenant_123 ⟨Nat.le_of_ble_eq_true rfl, Nat.le_of_ble_eq_true rfl⟩) (fun r185 M186 N187 R188 H locs q189 z_M186 hI => ?_)
      obtain ⟨rfl, rfl, rfl, i_r185, z190⟩ := q189
      refine lv_goto (tgt := 130) hx hb dX9_readTenant_126 (by decide) ?_
      exact J130 r185 H locs ls hI (lv_sub hl [1, 0] rfl) i_r185
