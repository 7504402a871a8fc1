abbrev e_h_cat_X8 : List (Nat × Nat) := []
set_option maxHeartbeats 4000000 in
set_option maxRecDepth 100000 in
theorem h_cat_X8 (l : Launch) (D : va_G) (g : Nat → ClassId) (σ : Nat → Option Nat) (Z : State → Heap → Prop) (hZ0 : hZ σ Z) (M : hM) (N : hN) (R : hR) (x : Nat) (g_x : σ x = some 8) (p1 : Int32) (p2 : Int32) : Met l yX8_cat wsX8_cat ({ frames := 2, cells := 0, slots := 0, locals := 46 }) (va_Pc [.ref x, .int p1, .int p2] (hPre D g σ Z M N R)) (hQi D g σ e_h_cat_X8 M (fun (r : Int32) (M1 : hM) (N1 : hN) (R1 : hR) => M = M1 ∧ N = N1 ∧ R = R1)) 0 0 (hA σ) := by
  refine h_head (cc := cX8_cat) (maxL := 4) (ret := (some .int)) (by decide) rfl (Nat.le_of_ble_eq_true rfl) e_h_cat_X8 ?_
  intro p e s m below meth c ls Q ar hQ hx hb hr hlocks hml hown hts hK hE H locs hI hl
  have hown : s.vm.findClass RX8 = some m.cls := hown
  have hl : lv_has ls 4 [(0, .ref x), (1, .int p1), (2, .int p2)] := hl
  refine lv_aload_n hx hb dX8_cat_0 rfl (lv_at hl 0 rfl) ?_
  refine lv_iload_n hx hb dX8_cat_1 rfl (lv_at hl 1 rfl) ?_
  refine h_goi hI (by decide) (va_runV (As := [.int p1]) (rest := []) ⟨hx, hb, hml, hown, hts⟩ (h_isCat_X8 l D g σ Z hZ0 M N R x g_x p1) (cwV 1 hts gX8_cat_X8_isCat rfl rfl rfl (by decide +kernel) ⟨Nat.le_of_ble_eq_true rfl, Nat.le_of_ble_eq_true rfl⟩) (h_preV hZ0 hK hE hI g_x (by decide) rfl) rfl rfl hl.1 rfl (lv_room (Nat.le_of_ble_eq_true rfl)) dX8_cat_2 ⟨Nat.le_of_ble_eq_true rfl, Nat.le_of_ble_eq_true rfl⟩) (fun r1 M2 N3 R4 H locs q5 z_M2 hI => ?_)
  obtain ⟨rfl, rfl, rfl, i_r1, z6⟩ := q5
  refine lv_if_ne (tgt := 11) hx hb dX8_cat_5 (by decide) (fun c7 => ?_) (fun c7 => ?_)
  · have i8 : iv p1 0 5 := z6 c7
    have i9 : iv r1 1 1 := iv_neL c7 i_r1 (by decide) (by decide)
    refine lv_aload_n hx hb dX8_cat_11 rfl (lv_at hl 0 rfl) ?_
    refine h_getr hx hb hts iX8_cat_X8 hown hK hI g_x (by decide) rfl rfl 4 (by decide) rfl 0 rfl (hts (.fieldLink RX8 34 "CatLeases" "acts" "LCatLeases$Acts;") (List.mem_of_getElem? (i := 1) rfl)) (fun _ h9 => h9) dX8_cat_12 (fun a10 e_a10 g_a10 => ?_)
    refine h_gor hI (by decide) (va_runV (As := []) (rest := []) ⟨hx, hb, hml, hown, hts⟩ (h_current_X0 l D g σ Z hZ0 M N R a10 g_a10) (cwV 0 hts gX8_cat_X0_current rfl rfl rfl (by decide +kernel) ⟨Nat.le_of_ble_eq_true rfl, Nat.le_of_ble_eq_true rfl⟩) (h_preV hZ0 hK hE hI g_a10 (by decide) rfl) rfl rfl hl.1 rfl (lv_room (Nat.le_of_ble_eq_true rfl)) dX8_cat_15 ⟨Nat.le_of_ble_eq_true rfl, Nat.le_of_ble_eq_true rfl⟩) (fun a11 M12 N13 R14 H locs q15 z_M12 hI => ?_)
    obtain ⟨rfl, rfl, rfl, g_a11⟩ := q15
    refine lv_astore_n (lv' := [(3, .ref a11), (0, .ref x), (1, .int p1), (2, .int p2)]) hx hb dX8_cat_18 rfl hl (by decide) rfl (fun ls hl => ?_)
    refine lv_iload_n hx hb dX8_cat_19 rfl (lv_at hl 3 rfl) ?_
    by_cases c16 : p2 = 0
    · refine lv_tableIn (tgt := 56) hx hb dX8_cat_20 (by rw [c16]; decide) (by rw [c16]; decide) (by rw [c16] <;> rfl) (by decide) ?_
      have i17 : iv p2 0 0 := iv_eq1 c16 (iv_any p2) kc_0
      refine lv_aload_n hx hb dX8_cat_56 rfl (lv_at hl 0 rfl) ?_
      refine lv_iload_n hx hb dX8_cat_57 rfl (lv_at hl 2 rfl) ?_
      refine h_goi hI (by decide) (va_runV (As := [.int p1]) (rest := []) ⟨hx, hb, hml, hown, hts⟩ (h_isLiving_X7 l D g σ Z hZ0 M N R a11 g_a11 p1) (cwV 1 hts gX8_cat_X7_isLiving rfl rfl rfl (by decide +kernel) ⟨Nat.le_of_ble_eq_true rfl, Nat.le_of_ble_eq_true rfl⟩) (h_preV hZ0 hK hE hI g_a11 (by decide) rfl) rfl rfl hl.1 rfl (lv_room (Nat.le_of_ble_eq_true rfl)) dX8_cat_58 ⟨Nat.le_of_ble_eq_true rfl, Nat.le_of_ble_eq_true rfl⟩) (fun r18 M19 N20 R21 H locs q22 z_M19 hI => ?_)
      obtain ⟨rfl, rfl, rfl, i_r18⟩ := q22
      refine lv_if_eq (tgt := 68) hx hb dX8_cat_61 (by decide) (fun c23 => ?_) (fun c23 => ?_)
      · have i24 : iv r18 0 0 := iv_eq1 c23 i_r18 kc_0
        refine lv_iconst (v := 0) hx hb dX8_cat_68 (by decide) ?_
        exact h_iret hQ hx hb hr hlocks rfl hK hI ⟨rfl, rfl, rfl⟩ dX8_cat_69
      · have i25 : iv r18 1 1 := iv_neL c23 i_r18 (by decide) (by decide)
        refine lv_iconst (v := 1) hx hb dX8_cat_64 (by decide) ?_
        refine lv_goto (tgt := 69) hx hb dX8_cat_65 (by decide) ?_
        exact h_iret hQ hx hb hr hlocks rfl hK hI ⟨rfl, rfl, rfl⟩ dX8_cat_69
    by_cases c26 : p2 = 1
    · refine lv_tableIn (tgt := 70) hx hb dX8_cat_20 (by rw [c26]; decide) (by rw [c26]; decide) (by rw [c26] <;> rfl) (by decide) ?_
      have i27 : iv p2 1 1 := iv_eq1 c26 (iv_any p2) kc_1
      refine lv_aload_n hx hb dX8_cat_70 rfl (lv_at hl 1 rfl) ?_
      refine h_getr hx hb hts iX8_cat_X8 hown hK hI g_x (by decide) rfl rfl 3 (by decide) rfl 4 rfl (hts (.fieldLink RX8 27 "CatLeases" "mews" "LCatLeases$Mews;") (List.mem_of_getElem? (i := 2) rfl)) (fun _ h9 => h9) dX8_cat_71 (fun a28 e_a28 g_a28 => ?_)
      refine h_getr hx hb hts iX8_cat_X4 hown hK hI g_a28 (by decide) rfl rfl 5 (by decide) rfl 15 rfl (hts (.fieldLink RX8 122 "CatLeases$Mews" "wants" "[I") (List.mem_of_getElem? (i := 3) rfl)) (fun _ h9 => h9) dX8_cat_74 (fun a29 e_a29 g_a29 => ?_)
      refine lv_iload_n hx hb dX8_cat_77 rfl (lv_at hl 2 rfl) ?_
      refine h_iald (j := p1.toNatClampNeg) (lo := (-2147483648)) (hi := 2147483647) hx hb hK hI g_a29 (by decide) rfl (iv_in (n := 6) i8 (by decide) (by decide)) rfl (iv_any _) dX8_cat_78 (fun v30 e_v30 i_v30 => ?_)
      exact h_iret hQ hx hb hr hlocks rfl hK hI ⟨rfl, rfl, rfl⟩ dX8_cat_79
    by_cases c31 : p2 = 2
    · refine lv_tableIn (tgt := 80) hx hb dX8_cat_20 (by rw [c31]; decide) (by rw [c31]; decide) (by rw [c31] <;> rfl) (by decide) ?_
      have i32 : iv p2 2 2 := iv_eq1 c31 (iv_any p2) kc_2
      refine lv_aload_n hx hb dX8_cat_80 rfl (lv_at hl 1 rfl) ?_
      refine h_getr hx hb hts iX8_cat_X8 hown hK hI g_x (by decide) rfl rfl 3 (by decide) rfl 4 rfl (hts (.fieldLink RX8 27 "CatLeases" "mews" "LCatLeases$Mews;") (List.mem_of_getElem? (i := 2) rfl)) (fun _ h9 => h9) dX8_cat_81 (fun a33 e_a33 g_a33 => ?_)
      refine h_getr hx hb hts iX8_cat_X4 hown hK hI g_a33 (by decide) rfl rfl 6 (by decide) rfl 15 rfl (hts (.fieldLink RX8 125 "CatLeases$Mews" "heirs" "[I") (List.mem_of_getElem? (i := 4) rfl)) (fun _ h9 => h9) dX8_cat_84 (fun a34 e_a34 g_a34 => ?_)
      refine lv_iload_n hx hb dX8_cat_87 rfl (lv_at hl 2 rfl) ?_
      refine h_iald (j := p1.toNatClampNeg) (lo := (-2147483648)) (hi := 2147483647) hx hb hK hI g_a34 (by decide) rfl (iv_in (n := 6) i8 (by decide) (by decide)) rfl (iv_any _) dX8_cat_88 (fun v35 e_v35 i_v35 => ?_)
      exact h_iret hQ hx hb hr hlocks rfl hK hI ⟨rfl, rfl, rfl⟩ dX8_cat_89
    by_cases c36 : p2 = 3
    · refine lv_tableIn (tgt := 90) hx hb dX8_cat_20 (by rw [c36]; decide) (by rw [c36]; decide) (by rw [c36] <;> rfl) (by decide) ?_
      have i37 : iv p2 3 3 := iv_eq1 c36 (iv_any p2) kc_3
      refine lv_aload_n hx hb dX8_cat_90 rfl (lv_at hl 1 rfl) ?_
      refine h_getr hx hb hts iX8_cat_X8 hown hK hI g_x (by decide) rfl rfl 3 (by decide) rfl 4 rfl (hts (.fieldLink RX8 27 "CatLeases" "mews" "LCatLeases$Mews;") (List.mem_of_getElem? (i := 2) rfl)) (fun _ h9 => h9) dX8_cat_91 (fun a38 e_a38 g_a38 => ?_)
      refine lv_aload_n hx hb dX8_cat_94 rfl (lv_at hl 0 rfl) ?_
      refine lv_iload_n hx hb dX8_cat_95 rfl (lv_at hl 2 rfl) ?_
      refine h_goi hI (by decide) (va_runV (As := [.ref a11, .int p1]) (rest := []) ⟨hx, hb, hml, hown, hts⟩ (h_roomsOf_X4 l D g σ Z hZ0 M N R a38 g_a38 a11 g_a11 p1) (cwV 2 hts gX8_cat_X4_roomsOf rfl rfl rfl (by decide +kernel) ⟨Nat.le_of_ble_eq_true rfl, Nat.le_of_ble_eq_true rfl⟩) (h_preV hZ0 hK hE hI g_a38 (by decide) rfl) rfl rfl hl.1 rfl (lv_room (Nat.le_of_ble_eq_true rfl)) dX8_cat_96 ⟨Nat.le_of_ble_eq_true rfl, Nat.le_of_ble_eq_true rfl⟩) (fun r39 M40 N41 R42 H locs q43 z_M40 hI => ?_)
      obtain ⟨rfl, rfl, rfl, i_r39⟩ := q43
      exact h_iret hQ hx hb hr hlocks rfl hK hI ⟨rfl, rfl, rfl⟩ dX8_cat_99
    by_cases c44 : p2 = 4
    · refine lv_tableIn (tgt := 100) hx hb dX8_cat_20 (by rw [c44]; decide) (by rw [c44]; decide) (by rw [c44] <;> rfl) (by decide) ?_
      have i45 : iv p2 4 4 := iv_eq1 c44 (iv_any p2) kc_4
      refine lv_aload_n hx hb dX8_cat_100 rfl (lv_at hl 1 rfl) ?_
      refine h_getr hx hb hts iX8_cat_X8 hown hK hI g_x (by decide) rfl rfl 3 (by decide) rfl 4 rfl (hts (.fieldLink RX8 27 "CatLeases" "mews" "LCatLeases$Mews;") (List.mem_of_getElem? (i := 2) rfl)) (fun _ h9 => h9) dX8_cat_101 (fun a46 e_a46 g_a46 => ?_)
      refine lv_aload_n hx hb dX8_cat_104 rfl (lv_at hl 0 rfl) ?_
      refine lv_iload_n hx hb dX8_cat_105 rfl (lv_at hl 2 rfl) ?_
      refine h_goi hI (by decide) (va_runV (As := [.ref a11, .int p1]) (rest := []) ⟨hx, hb, hml, hown, hts⟩ (h_tenantsOf_X4 l D g σ Z hZ0 M N R a46 g_a46 a11 g_a11 p1) (cwV 2 hts gX8_cat_X4_tenantsOf rfl rfl rfl (by decide +kernel) ⟨Nat.le_of_ble_eq_true rfl, Nat.le_of_ble_eq_true rfl⟩) (h_preV hZ0 hK hE hI g_a46 (by decide) rfl) rfl rfl hl.1 rfl (lv_room (Nat.le_of_ble_eq_true rfl)) dX8_cat_106 ⟨Nat.le_of_ble_eq_true rfl, Nat.le_of_ble_eq_true rfl⟩) (fun r47 M48 N49 R50 H locs q51 z_M48 hI => ?_)
      obtain ⟨rfl, rfl, rfl, i_r47⟩ := q51
      exact h_iret hQ hx hb hr hlocks rfl hK hI ⟨rfl, rfl, rfl⟩ dX8_cat_109
    refine lv_tableOut (tgt := 110) hx hb dX8_cat_20 (by have k0 : (0 : Int32).toInt = 0 := (by decide); have zc16 : ¬ p2.toInt = 0 := fun h9 => c16 (Int32.toInt_inj.mp (h9.trans k0.symm)); have k1 : (1 : Int32).toInt = 1 := (by decide); have zc26 : ¬ p2.toInt = 1 := fun h9 => c26 (Int32.toInt_inj.mp (h9.trans k1.symm)); have k2 : (2 : Int32).toInt = 2 := (by decide); have zc31 : ¬ p2.toInt = 2 := fun h9 => c31 (Int32.toInt_inj.mp (h9.trans k2.symm)); have k3 : (3 : Int32).toInt = 3 := (by decide); have zc36 : ¬ p2.toInt = 3 := fun h9 => c36 (Int32.toInt_inj.mp (h9.trans k3.symm)); have k4 : (4 : Int32).toInt = 4 := (by decide); have zc44 : ¬ p2.toInt = 4 := fun h9 => c44 (Int32.toInt_inj.mp (h9.trans k4.symm)); have h8 := (iv_any p2); simp only [iv] at h8; omega) (by decide) ?_
    refine lv_bipush (v := (-2)) hx hb dX8_cat_110 (by decide) ?_
    exact h_iret hQ hx hb hr hlocks rfl hK hI ⟨rfl, rfl, rfl⟩ dX8_cat_112
  · have i52 : iv r1 0 0 := iv_eq1 c7 i_r1 kc_0
    refine lv_bipush (v := (-2)) hx hb dX8_cat_8 (by decide) ?_
    exact h_iret hQ hx hb hr hlocks rfl hK hI ⟨rfl, rfl, rfl⟩ dX8_cat_10
abbrev e_h_room_X8 : List (Nat × Nat) := []
set_option maxHeartbeats 4000000 in
set_option maxRecDepth 100000 in
theorem h_room_X8 (l : Launch) (D : va_G) (g : Nat → ClassId) (σ : Nat → Option Nat) (Z : State → Heap → Prop) (hZ0 : hZ σ Z) (M : hM) (N : hN) (R : hR) (x : Nat) (g_x : σ x = some 8) (p1 : Int32) (p2 : Int32) : Met l yX8_room wsX8_room ({ frames := 1, cells := 0, slots := 0, locals := 23 }) (va_Pc [.ref x, .int p1, .int p2] (hPre D g σ Z M N R)) (hQi D g σ e_h_room_X8 M (fun (r : Int32) (M1 : hM) (N1 : hN) (R1 : hR) => M = M1 ∧ N = N1 ∧ R = R1 ∧ iv r (-2) 6)) 0 0 (hA σ) := by
  refine h_head (cc := cX8_room) (maxL := 4) (ret := (some .int)) (by decide) rfl (Nat.le_of_ble_eq_true rfl) e_h_room_X8 ?_
  intro p e s m below meth c ls Q ar hQ hx hb hr hlocks hml hown hts hK hE H locs hI hl
  have hown : s.vm.findClass RX8 = some m.cls := hown
  have hl : lv_has ls 4 [(0, .ref x), (1, .int p1), (2, .int p2)] := hl
  refine lv_aload_n hx hb dX8_room_0 rfl (lv_at hl 0 rfl) ?_
  refine lv_iload_n hx hb dX8_room_1 rfl (lv_at hl 1 rfl) ?_
  refine h_goi hI (by decide) (va_runV (As := [.int p1]) (rest := []) ⟨hx, hb, hml, hown, hts⟩ (h_isRoom_X8 l D g σ Z hZ0 M N R x g_x p1) (cwV 1 hts gX8_room_X8_isRoom rfl rfl rfl (by decide +kernel) ⟨Nat.le_of_ble_eq_true rfl, Nat.le_of_ble_eq_true rfl⟩) (h_preV hZ0 hK hE hI g_x (by decide) rfl) rfl rfl hl.1 rfl (lv_room (Nat.le_of_ble_eq_true rfl)) dX8_room_2 ⟨Nat.le_of_ble_eq_true rfl, Nat.le_of_ble_eq_true rfl⟩) (fun r1 M2 N3 R4 H locs q5 z_M2 hI => ?_)
  obtain ⟨rfl, rfl, rfl, i_r1, z6⟩ := q5
  refine lv_if_ne (tgt := 11) hx hb dX8_room_5 (by decide) (fun c7 => ?_) (fun c7 => ?_)
  · have i8 : iv p1 0 7 := z6 c7
    have i9 : iv r1 1 1 := iv_neL c7 i_r1 (by decide) (by decide)
    refine lv_aload_n hx hb dX8_room_11 rfl (lv_at hl 0 rfl) ?_
    refine h_getr hx hb hts iX8_room_X8 hown hK hI g_x (by decide) rfl rfl 4 (by decide) rfl 0 rfl (hts (.fieldLink RX8 34 "CatLeases" "acts" "LCatLeases$Acts;") (List.mem_of_getElem? (i := 1) rfl)) (fun _ h9 => h9) dX8_room_12 (fun a10 e_a10 g_a10 => ?_)
    refine h_gor hI (by decide) (va_runV (As := []) (rest := []) ⟨hx, hb, hml, hown, hts⟩ (h_current_X0 l D g σ Z hZ0 M N R a10 g_a10) (cwV 0 hts gX8_room_X0_current rfl rfl rfl (by decide +kernel) ⟨Nat.le_of_ble_eq_true rfl, Nat.le_of_ble_eq_true rfl⟩) (h_preV hZ0 hK hE hI g_a10 (by decide) rfl) rfl rfl hl.1 rfl (lv_room (Nat.le_of_ble_eq_true rfl)) dX8_room_15 ⟨Nat.le_of_ble_eq_true rfl, Nat.le_of_ble_eq_true rfl⟩) (fun a11 M12 N13 R14 H locs q15 z_M12 hI => ?_)
    obtain ⟨rfl, rfl, rfl, g_a11⟩ := q15
    refine lv_astore_n (lv' := [(3, .ref a11), (0, .ref x), (1, .int p1), (2, .int p2)]) hx hb dX8_room_18 rfl hl (by decide) rfl (fun ls hl => ?_)
    refine lv_iload_n hx hb dX8_room_19 rfl (lv_at hl 3 rfl) ?_
    by_cases c16 : p2 = 0
    · refine lv_lookup (off := 28) (tgt := 48) hx hb dX8_room_20 (by decide) (by rw [c16] <;> rfl) (by decide) ?_
      have i17 : iv p2 0 0 := iv_eq1 c16 (iv_any p2) kc_0
      refine lv_aload_n hx hb dX8_room_48 rfl (lv_at hl 0 rfl) ?_
      refine h_getr hx hb hts iX8_room_X7 hown hK hI g_a11 (by decide) rfl rfl 0 (by decide) rfl 12 rfl (hts (.fieldLink RX8 138 "CatLeases$State" "keepers" "[I") (List.mem_of_getElem? (i := 2) rfl)) (fun _ h9 => h9) dX8_room_49 (fun a18 e_a18 g_a18 => ?_)
      refine lv_iload_n hx hb dX8_room_52 rfl (lv_at hl 2 rfl) ?_
      refine h_iald (j := p1.toNatClampNeg) (lo := (-1)) (hi := 5) hx hb hK hI g_a18 (by decide) rfl (iv_in (n := 8) i8 (by decide) (by decide)) rfl (hI.iv1 (n := 8) g_a18 rfl (in_lt (iv_in (n := 8) i8 (by decide) (by decide))) rfl) dX8_room_53 (fun v19 e_v19 i_v19 => ?_)
      exact h_iret hQ hx hb hr hlocks rfl hK hI ⟨rfl, rfl, rfl, (iv_w (lo' := (-2)) (hi' := 6) i_v19 (by decide) (by decide))⟩ dX8_room_54
    by_cases c20 : p2 = 1
    · refine lv_lookup (off := 35) (tgt := 55) hx hb dX8_room_20 (by decide) (by rw [c20] <;> rfl) (by decide) ?_
      have i21 : iv p2 1 1 := iv_eq1 c20 (iv_any p2) kc_1
      refine lv_aload_n hx hb dX8_room_55 rfl (lv_at hl 1 rfl) ?_
      refine h_getr hx hb hts iX8_room_X8 hown hK hI g_x (by decide) rfl rfl 3 (by decide) rfl 4 rfl (hts (.fieldLink RX8 27 "CatLeases" "mews" "LCatLeases$Mews;") (List.mem_of_getElem? (i := 3) rfl)) (fun _ h9 => h9) dX8_room_56 (fun a22 e_a22 g_a22 => ?_)
      refine lv_aload_n hx hb dX8_room_59 rfl (lv_at hl 0 rfl) ?_
      refine lv_iload_n hx hb dX8_room_60 rfl (lv_at hl 2 rfl) ?_
      refine h_goi hI (by decide) (va_runV (As := [.ref a11, .int p1]) (rest := []) ⟨hx, hb, hml, hown, hts⟩ (h_whoIsIn_X4 l D g σ Z hZ0 M N R a22 g_a22 a11 g_a11 p1) (cwV 2 hts gX8_room_X4_whoIsIn rfl rfl rfl (by decide +kernel) ⟨Nat.le_of_ble_eq_true rfl, Nat.le_of_ble_eq_true rfl⟩) (h_preV hZ0 hK hE hI g_a22 (by decide) rfl) rfl rfl hl.1 rfl (lv_room (Nat.le_of_ble_eq_true rfl)) dX8_room_61 ⟨Nat.le_of_ble_eq_true rfl, Nat.le_of_ble_eq_true rfl⟩) (fun r23 M24 N25 R26 H locs q27 z_M24 hI => ?_)
      obtain ⟨rfl, rfl, rfl, i_r23⟩ := q27
      exact h_iret hQ hx hb hr hlocks rfl hK hI ⟨rfl, rfl, rfl, (iv_w (lo' := (-2)) (hi' := 6) i_r23 (by decide) (by decide))⟩ dX8_room_64
    refine lv_lookup (off := 45) (tgt := 65) hx hb dX8_room_20 (by decide) ((lv_osw c16 (by decide)).trans ((lv_osw c20 (by decide)).trans rfl)) (by decide) ?_
    refine lv_bipush (v := (-2)) hx hb dX8_room_65 (by decide) ?_
    exact h_iret hQ hx hb hr hlocks rfl hK hI ⟨rfl, rfl, rfl, (iv_w (lo' := (-2)) (hi' := 6) kc_m2 (by decide) (by decide))⟩ dX8_room_67
  · have i28 : iv r1 0 0 := iv_eq1 c7 i_r1 kc_0
    refine lv_bipush (v := (-2)) hx hb dX8_room_8 (by decide) ?_
    exact h_iret hQ hx hb hr hlocks rfl hK hI ⟨rfl, rfl, rfl, (iv_w (lo' := (-2)) (hi' := 6) kc_m2 (by decide) (by decide))⟩ dX8_room_10
abbrev e_h_tenant_X8 : List (Nat × Nat) := []
set_option maxHeartbeats 4000000 in
set_option maxRecDepth 100000 in
theorem h_tenant_X8 (l : Launch) (D : va_G) (g : Nat → ClassId) (σ : Nat → Option Nat) (Z : State → Heap → Prop) (hZ0 : hZ σ Z) (M : hM) (N : hN) (R : hR) (x : Nat) (g_x : σ x = some 8) (p1 : Int32) (p2 : Int32) : Met l yX8_tenant wsX8_tenant ({ frames := 1, cells := 0, slots := 0, locals := 21 }) (va_Pc [.ref x, .int p1, .int p2] (hPre D g σ Z M N R)) (hQi D g σ e_h_tenant_X8 M (fun (r : Int32) (M1 : hM) (N1 : hN) (R1 : hR) => M = M1 ∧ N = N1 ∧ R = R1)) 0 0 (hA σ) := by
  refine h_head (cc := cX8_tenant) (maxL := 4) (ret := (some .int)) (by decide) rfl (Nat.le_of_ble_eq_true rfl) e_h_tenant_X8 ?_
  intro p e s m below meth c ls Q ar hQ hx hb hr hlocks hml hown hts hK hE H locs hI hl
  have hown : s.vm.findClass RX8 = some m.cls := hown
  have hl : lv_has ls 4 [(0, .ref x), (1, .int p1), (2, .int p2)] := hl
  refine lv_aload_n hx hb dX8_tenant_0 rfl (lv_at hl 0 rfl) ?_
  refine lv_iload_n hx hb dX8_tenant_1 rfl (lv_at hl 1 rfl) ?_
  refine h_goi hI (by decide) (va_runV (As := [.int p1]) (rest := []) ⟨hx, hb, hml, hown, hts⟩ (h_isTenant_X8 l D g σ Z hZ0 M N R x g_x p1) (cwV 1 hts gX8_tenant_X8_isTenant rfl rfl rfl (by decide +kernel) ⟨Nat.le_of_ble_eq_true rfl, Nat.le_of_ble_eq_true rfl⟩) (h_preV hZ0 hK hE hI g_x (by decide) rfl) rfl rfl hl.1 rfl (lv_room (Nat.le_of_ble_eq_true rfl)) dX8_tenant_2 ⟨Nat.le_of_ble_eq_true rfl, Nat.le_of_ble_eq_true rfl⟩) (fun r1 M2 N3 R4 H locs q5 z_M2 hI => ?_)
  obtain ⟨rfl, rfl, rfl, i_r1, z6⟩ := q5
  refine lv_if_ne (tgt := 11) hx hb dX8_tenant_5 (by decide) (fun c7 => ?_) (fun c7 => ?_)
  · have i8 : iv p1 0 6 := z6 c7
    have i9 : iv r1 1 1 := iv_neL c7 i_r1 (by decide) (by decide)
    refine lv_aload_n hx hb dX8_tenant_11 rfl (lv_at hl 0 rfl) ?_
    refine h_getr hx hb hts iX8_tenant_X8 hown hK hI g_x (by decide) rfl rfl 4 (by decide) rfl 0 rfl (hts (.fieldLink RX8 34 "CatLeases" "acts" "LCatLeases$Acts;") (List.mem_of_getElem? (i := 1) rfl)) (fun _ h9 => h9) dX8_tenant_12 (fun a10 e_a10 g_a10 => ?_)
    refine h_gor hI (by decide) (va_runV (As := []) (rest := []) ⟨hx, hb, hml, hown, hts⟩ (h_current_X0 l D g σ Z hZ0 M N R a10 g_a10) (cwV 0 hts gX8_tenant_X0_current rfl rfl rfl (by decide +kernel) ⟨Nat.le_of_ble_eq_true rfl, Nat.le_of_ble_eq_true rfl⟩) (h_preV hZ0 hK hE hI g_a10 (by decide) rfl) rfl rfl hl.1 rfl (lv_room (Nat.le_of_ble_eq_true rfl)) dX8_tenant_15 ⟨Nat.le_of_ble_eq_true rfl, Nat.le_of_ble_eq_true rfl⟩) (fun a11 M12 N13 R14 H locs q15 z_M12 hI => ?_)
    obtain ⟨rfl, rfl, rfl, g_a11⟩ := q15
    refine lv_astore_n (lv' := [(3, .ref a11), (0, .ref x), (1, .int p1), (2, .int p2)]) hx hb dX8_tenant_18 rfl hl (by decide) rfl (fun ls hl => ?_)
    refine lv_iload_n hx hb dX8_tenant_19 rfl (lv_at hl 3 rfl) ?_
    by_cases c16 : p2 = 0
    · refine lv_tableIn (tgt := 56) hx hb dX8_tenant_20 (by rw [c16]; decide) (by rw [c16]; decide) (by rw [c16] <;> rfl) (by decide) ?_
      have i17 : iv p2 0 0 := iv_eq1 c16 (iv_any p2) kc_0
      refine lv_aload_n hx hb dX8_tenant_56 rfl (lv_at hl 0 rfl) ?_
      refine h_getr hx hb hts iX8_tenant_X7 hown hK hI g_a11 (by decide) rfl rfl 1 (by decide) rfl 13 rfl (hts (.fieldLink RX8 147 "CatLeases$State" "places" "[I") (List.mem_of_getElem? (i := 2) rfl)) (fun _ h9 => h9) dX8_tenant_57 (fun a18 e_a18 g_a18 => ?_)
      refine lv_iload_n hx hb dX8_tenant_60 rfl (lv_at hl 2 rfl) ?_
      refine h_iald (j := p1.toNatClampNeg) (lo := (-1)) (hi := 7) hx hb hK hI g_a18 (by decide) rfl (iv_in (n := 7) i8 (by decide) (by decide)) rfl (hI.iv1 (n := 7) g_a18 rfl (in_lt (iv_in (n := 7) i8 (by decide) (by decide))) rfl) dX8_tenant_61 (fun v19 e_v19 i_v19 => ?_)
      exact h_iret hQ hx hb hr hlocks rfl hK hI ⟨rfl, rfl, rfl⟩ dX8_tenant_62
    by_cases c20 : p2 = 1
    · refine lv_tableIn (tgt := 63) hx hb dX8_tenant_20 (by rw [c20]; decide) (by rw [c20]; decide) (by rw [c20] <;> rfl) (by decide) ?_
      have i21 : iv p2 1 1 := iv_eq1 c20 (iv_any p2) kc_1
      refine lv_aload_n hx hb dX8_tenant_63 rfl (lv_at hl 0 rfl) ?_
      refine h_getr hx hb hts iX8_tenant_X7 hown hK hI g_a11 (by decide) rfl rfl 3 (by decide) rfl 14 rfl (hts (.fieldLink RX8 150 "CatLeases$State" "hours" "[I") (List.mem_of_getElem? (i := 3) rfl)) (fun _ h9 => h9) dX8_tenant_64 (fun a22 e_a22 g_a22 => ?_)
      refine lv_iload_n hx hb dX8_tenant_67 rfl (lv_at hl 2 rfl) ?_
      refine h_iald (j := p1.toNatClampNeg) (lo := (-2147483648)) (hi := 2147483647) hx hb hK hI g_a22 (by decide) rfl (iv_in (n := 7) i8 (by decide) (by decide)) rfl (iv_any _) dX8_tenant_68 (fun v23 e_v23 i_v23 => ?_)
      exact h_iret hQ hx hb hr hlocks rfl hK hI ⟨rfl, rfl, rfl⟩ dX8_tenant_69
    by_cases c24 : p2 = 2
    · refine lv_tableIn (tgt := 70) hx hb dX8_tenant_20 (by rw [c24]; decide) (by rw [c24]; decide) (by rw [c24] <;> rfl) (by decide) ?_
      have i25 : iv p2 2 2 := iv_eq1 c24 (iv_any p2) kc_2
      refine lv_aload_n hx hb dX8_tenant_70 rfl (lv_at hl 1 rfl) ?_
      refine h_getr hx hb hts iX8_tenant_X8 hown hK hI g_x (by decide) rfl rfl 3 (by decide) rfl 4 rfl (hts (.fieldLink RX8 27 "CatLeases" "mews" "LCatLeases$Mews;") (List.mem_of_getElem? (i := 4) rfl)) (fun _ h9 => h9) dX8_tenant_71 (fun a26 e_a26 g_a26 => ?_)
      refine h_getr hx hb hts iX8_tenant_X4 hown hK hI g_a26 (by decide) rfl rfl 7 (by decide) rfl 14 rfl (hts (.fieldLink RX8 153 "CatLeases$Mews" "warmths" "[I") (List.mem_of_getElem? (i := 5) rfl)) (fun _ h9 => h9) dX8_tenant_74 (fun a27 e_a27 g_a27 => ?_)
      refine lv_iload_n hx hb dX8_tenant_77 rfl (lv_at hl 2 rfl) ?_
      refine h_iald (j := p1.toNatClampNeg) (lo := (-2147483648)) (hi := 2147483647) hx hb hK hI g_a27 (by decide) rfl (iv_in (n := 7) i8 (by decide) (by decide)) rfl (iv_any _) dX8_tenant_78 (fun v28 e_v28 i_v28 => ?_)
      exact h_iret hQ hx hb hr hlocks rfl hK hI ⟨rfl, rfl, rfl⟩ dX8_tenant_79
    by_cases c29 : p2 = 3
    · refine lv_tableIn (tgt := 80) hx hb dX8_tenant_20 (by rw [c29]; decide) (by rw [c29]; decide) (by rw [c29] <;> rfl) (by decide) ?_
      have i30 : iv p2 3 3 := iv_eq1 c29 (iv_any p2) kc_3
      refine lv_aload_n hx hb dX8_tenant_80 rfl (lv_at hl 0 rfl) ?_
      refine h_getr hx hb hts iX8_tenant_X7 hown hK hI g_a11 (by decide) rfl rfl 4 (by decide) rfl 14 rfl (hts (.fieldLink RX8 156 "CatLeases$State" "fidgets" "[I") (List.mem_of_getElem? (i := 6) rfl)) (fun _ h9 => h9) dX8_tenant_81 (fun a31 e_a31 g_a31 => ?_)
      refine lv_iload_n hx hb dX8_tenant_84 rfl (lv_at hl 2 rfl) ?_
      refine h_iald (j := p1.toNatClampNeg) (lo := (-2147483648)) (hi := 2147483647) hx hb hK hI g_a31 (by decide) rfl (iv_in (n := 7) i8 (by decide) (by decide)) rfl (iv_any _) dX8_tenant_85 (fun v32 e_v32 i_v32 => ?_)
      exact h_iret hQ hx hb hr hlocks rfl hK hI ⟨rfl, rfl, rfl⟩ dX8_tenant_86
    by_cases c33 : p2 = 4
    · refine lv_tableIn (tgt := 87) hx hb dX8_tenant_20 (by rw [c33]; decide) (by rw [c33]; decide) (by rw [c33] <;> rfl) (by decide) ?_
      have i34 : iv p2 4 4 := iv_eq1 c33 (iv_any p2) kc_4
      refine lv_aload_n hx hb dX8_tenant_87 rfl (lv_at hl 0 rfl) ?_
      refine h_getr hx hb hts iX8_tenant_X7 hown hK hI g_a11 (by decide) rfl rfl 2 (by decide) rfl 14 rfl (hts (.fieldLink RX8 159 "CatLeases$State" "stays" "[I") (List.mem_of_getElem? (i := 7) rfl)) (fun _ h9 => h9) dX8_tenant_88 (fun a35 e_a35 g_a35 => ?_)
      refine lv_iload_n hx hb dX8_tenant_91 rfl (lv_at hl 2 rfl) ?_
      refine h_iald (j := p1.toNatClampNeg) (lo := (-2147483648)) (hi := 2147483647) hx hb hK hI g_a35 (by decide) rfl (iv_in (n := 7) i8 (by decide) (by decide)) rfl (iv_any _) dX8_tenant_92 (fun v36 e_v36 i_v36 => ?_)
      exact h_iret hQ hx hb hr hlocks rfl hK hI ⟨rfl, rfl, rfl⟩ dX8_tenant_93
    refine lv_tableOut (tgt := 94) hx hb dX8_tenant_20 (by have k0 : (0 : Int32).toInt = 0 := (by decide); have zc16 : ¬ p2.toInt = 0 := fun h9 => c16 (Int32.toInt_inj.mp (h9.trans k0.symm)); have k1 : (1 : Int32).toInt = 1 := (by decide); have zc20 : ¬ p2.toInt = 1 := fun h9 => c20 (Int32.toInt_inj.mp (h9.trans k1.symm)); have k2 : (2 : Int32).toInt = 2 := (by decide); have zc24 : ¬ p2.toInt = 2 := fun h9 => c24 (Int32.toInt_inj.mp (h9.trans k2.symm)); have k3 : (3 : Int32).toInt = 3 := (by decide); have zc29 : ¬ p2.toInt = 3 := fun h9 => c29 (Int32.toInt_inj.mp (h9.trans k3.symm)); have k4 : (4 : Int32).toInt = 4 := (by decide); have zc33 : ¬ p2.toInt = 4 := fun h9 => c33 (Int32.toInt_inj.mp (h9.trans k4.symm)); have h8 := (iv_any p2); simp only [iv] at h8; omega) (by decide) ?_
    refine lv_bipush (v := (-2)) hx hb dX8_tenant_94 (by decide) ?_
    exact h_iret hQ hx hb hr hlocks rfl hK hI ⟨rfl, rfl, rfl⟩ dX8_tenant_96
  · have i37 : iv r1 0 0 := iv_eq1 c7 i_r1 kc_0
    refine lv_bipush (v := (-2)) hx hb dX8_tenant_8 (by decide) ?_
    exact h_iret hQ hx hb hr hlocks rfl hK hI ⟨rfl, rfl, rfl⟩ dX8_tenant_10
abbrev e_h_liking_X8 : List (Nat × Nat) := [(14, 999), (18, 999)]
set_option maxHeartbeats 4000000 in
set_option maxRecDepth 100000 in
theorem h_liking_X8 (l : Launch) (D : va_G) (g : Nat → ClassId) (σ : Nat → Option Nat) (Z : State → Heap → Prop) (hZ0 : hZ σ Z) (M : hM) (N : hN) (R : hR) (x : Nat) (g_x : σ x = some 8) (p1 : Int32) (p2 : Int32) : Met l yX8_liking wsX8_liking ({ frames := 3, cells := 0, slots := 0, locals := 70 }) (va_Pc [.ref x, .int p1, .int p2] (hPre D g σ Z M N R)) (hQi D g σ e_h_liking_X8 M (fun (r : Int32) (M1 : hM) (N1 : hN) (R1 : hR) => N = N1 ∧ R = R1)) 0 0 (hA σ) := by
  refine h_head (cc := cX8_liking) (maxL := 4) (ret := (some .int)) (by decide) rfl (Nat.le_of_ble_eq_true rfl) e_h_liking_X8 ?_
  intro p e s m below meth c ls Q ar hQ hx hb hr hlocks hml hown hts hK hE H locs hI hl
  have hown : s.vm.findClass RX8 = some m.cls := hown
  have hl : lv_has ls 4 [(0, .ref x), (1, .int p1), (2, .int p2)] := hl
  refine lv_aload_n hx hb dX8_liking_0 rfl (lv_at hl 0 rfl) ?_
  refine h_getr hx hb hts iX8_liking_X8 hown hK hI g_x (by decide) rfl rfl 4 (by decide) rfl 0 rfl (hts (.fieldLink RX8 34 "CatLeases" "acts" "LCatLeases$Acts;") (List.mem_of_getElem? (i := 1) rfl)) (fun _ h9 => h9) dX8_liking_1 (fun a1 e_a1 g_a1 => ?_)
  refine h_gor hI (by decide) (va_runV (As := []) (rest := []) ⟨hx, hb, hml, hown, hts⟩ (h_current_X0 l D g σ Z hZ0 M N R a1 g_a1) (cwV 0 hts gX8_liking_X0_current rfl rfl rfl (by decide +kernel) ⟨Nat.le_of_ble_eq_true rfl, Nat.le_of_ble_eq_true rfl⟩) (h_preV hZ0 hK hE hI g_a1 (by decide) rfl) rfl rfl hl.1 rfl (lv_room (Nat.le_of_ble_eq_true rfl)) dX8_liking_4 ⟨Nat.le_of_ble_eq_true rfl, Nat.le_of_ble_eq_true rfl⟩) (fun a2 M3 N4 R5 H locs q6 z_M3 hI => ?_)
  obtain ⟨rfl, rfl, rfl, g_a2⟩ := q6
  refine lv_astore_n (lv' := [(3, .ref a2), (0, .ref x), (1, .int p1), (2, .int p2)]) hx hb dX8_liking_7 rfl hl (by decide) rfl (fun ls hl => ?_)
  refine lv_aload_n hx hb dX8_liking_8 rfl (lv_at hl 1 rfl) ?_
  refine lv_iload_n hx hb dX8_liking_9 rfl (lv_at hl 2 rfl) ?_
  refine h_goi hI (by decide) (va_runV (As := [.int p1]) (rest := []) ⟨hx, hb, hml, hown, hts⟩ (h_isTenant_X8 l D g σ Z hZ0 M N R x g_x p1) (cwV 1 hts gX8_liking_X8_isTenant rfl rfl rfl (by decide +kernel) ⟨Nat.le_of_ble_eq_true rfl, Nat.le_of_ble_eq_true rfl⟩) (h_preV hZ0 hK hE hI g_x (by decide) rfl) rfl rfl hl.1 rfl (lv_room (Nat.le_of_ble_eq_true rfl)) dX8_liking_10 ⟨Nat.le_of_ble_eq_true rfl, Nat.le_of_ble_eq_true rfl⟩) (fun r7 M8 N9 R10 H locs q11 z_M8 hI => ?_)
  obtain ⟨rfl, rfl, rfl, i_r7, z12⟩ := q11
  refine lv_if_eq (tgt := 32) hx hb dX8_liking_13 (by decide) (fun c13 => ?_) (fun c13 => ?_)
  · have i14 : iv r7 0 0 := iv_eq1 c13 i_r7 kc_0
    refine lv_ldc (v := (-1000000000)) hx hb hown (hts (.constant RX8 165 (-1000000000)) (List.mem_of_getElem? (i := 2) rfl)) dX8_liking_32 ?_
    exact h_iret hQ hx hb hr hlocks rfl hK hI ⟨rfl, rfl⟩ dX8_liking_34
  · have i15 : iv p1 0 6 := z12 c13
    have i16 : iv r7 1 1 := iv_neL c13 i_r7 (by decide) (by decide)
    refine lv_aload_n hx hb dX8_liking_16 rfl (lv_at hl 1 rfl) ?_
    refine lv_iload_n hx hb dX8_liking_17 rfl (lv_at hl 3 rfl) ?_
    refine h_goi hI (by decide) (va_runV (As := [.int p2]) (rest := []) ⟨hx, hb, hml, hown, hts⟩ (h_isRoom_X8 l D g σ Z hZ0 M N R x g_x p2) (cwV 1 hts gX8_liking_X8_isRoom rfl rfl rfl (by decide +kernel) ⟨Nat.le_of_ble_eq_true rfl, Nat.le_of_ble_eq_true rfl⟩) (h_preV hZ0 hK hE hI g_x (by decide) rfl) rfl rfl hl.1 rfl (lv_room (Nat.le_of_ble_eq_true rfl)) dX8_liking_18 ⟨Nat.le_of_ble_eq_true rfl, Nat.le_of_ble_eq_true rfl⟩) (fun r17 M18 N19 R20 H locs q21 z_M18 hI => ?_)
    obtain ⟨rfl, rfl, rfl, i_r17, z22⟩ := q21
    refine lv_if_eq (tgt := 32) hx hb dX8_liking_21 (by decide) (fun c23 => ?_) (fun c23 => ?_)
    · have i24 : iv r17 0 0 := iv_eq1 c23 i_r17 kc_0
      refine lv_ldc (v := (-1000000000)) hx hb hown (hts (.constant RX8 165 (-1000000000)) (List.mem_of_getElem? (i := 2) rfl)) dX8_liking_32 ?_
      exact h_iret hQ hx hb hr hlocks rfl hK hI ⟨rfl, rfl⟩ dX8_liking_34
    · have i25 : iv p2 0 7 := z22 c23
      have i26 : iv r17 1 1 := iv_neL c23 i_r17 (by decide) (by decide)
      refine lv_aload_n hx hb dX8_liking_24 rfl (lv_at hl 0 rfl) ?_
      refine lv_iload_n hx hb dX8_liking_25 rfl (lv_at hl 3 rfl) ?_
      refine h_goi hI (by decide) (va_runV (As := [.int p2]) (rest := []) ⟨hx, hb, hml, hown, hts⟩ (h_isKept_X7 l D g σ Z hZ0 M N R a2 g_a2 p2) (cwV 1 hts gX8_liking_X7_isKept rfl rfl rfl (by decide +kernel) ⟨Nat.le_of_ble_eq_true rfl, Nat.le_of_ble_eq_true rfl⟩) (h_preV hZ0 hK hE hI g_a2 (by decide) rfl) rfl rfl hl.1 rfl (lv_room (Nat.le_of_ble_eq_true rfl)) dX8_liking_26 ⟨Nat.le_of_ble_eq_true rfl, Nat.le_of_ble_eq_true rfl⟩) (fun r27 M28 N29 R30 H locs q31 z_M28 hI => ?_)
      obtain ⟨rfl, rfl, rfl, i_r27, z32, z33⟩ := q31
      refine lv_if_ne (tgt := 35) hx hb dX8_liking_29 (by decide) (fun c34 => ?_) (fun c34 => ?_)
      · have i35 := z33 c34
        have i36 : iv r27 1 1 := iv_neL c34 i_r27 (by decide) (by decide)
        refine lv_aload_n hx hb dX8_liking_35 rfl (lv_at hl 1 rfl) ?_
        refine h_getr hx hb hts iX8_liking_X8 hown hK hI g_x (by decide) rfl rfl 3 (by decide) rfl 4 rfl (hts (.fieldLink RX8 27 "CatLeases" "mews" "LCatLeases$Mews;") (List.mem_of_getElem? (i := 3) rfl)) (fun _ h9 => h9) dX8_liking_36 (fun a37 e_a37 g_a37 => ?_)
        refine lv_aload_n hx hb dX8_liking_39 rfl (lv_at hl 0 rfl) ?_
        refine lv_iload_n hx hb dX8_liking_40 rfl (lv_at hl 2 rfl) ?_
        refine lv_iload_n hx hb dX8_liking_41 rfl (lv_at hl 3 rfl) ?_
        refine h_goi hI (by decide) (va_runV (As := [.ref a2, .int p1, .int p2]) (rest := []) ⟨hx, hb, hml, hown, hts⟩ (h_likes_X4 l D g σ Z hZ0 M N R a37 g_a37 a2 g_a2 p1 p2) (cwV 3 hts gX8_liking_X4_likes rfl rfl rfl (by decide +kernel) ⟨Nat.le_of_ble_eq_true rfl, Nat.le_of_ble_eq_true rfl⟩) (h_preV hZ0 hK hE hI g_a37 (by decide) rfl) rfl rfl hl.1 rfl (lv_room (Nat.le_of_ble_eq_true rfl)) dX8_liking_42 ⟨Nat.le_of_ble_eq_true rfl, Nat.le_of_ble_eq_true rfl⟩) (fun r38 M39 N40 R41 H locs q42 z_M39 hI => ?_)
        obtain ⟨rfl, rfl⟩ := q42
        exact h_iret hQ hx hb hr hlocks rfl hK hI ⟨rfl, rfl⟩ dX8_liking_45
      · have i43 : iv r27 0 0 := iv_eq1 c34 i_r27 kc_0
        refine lv_ldc (v := (-1000000000)) hx hb hown (hts (.constant RX8 165 (-1000000000)) (List.mem_of_getElem? (i := 2) rfl)) dX8_liking_32 ?_
        exact h_iret hQ hx hb hr hlocks rfl hK hI ⟨rfl, rfl⟩ dX8_liking_34
abbrev e_h_move_X8 : List (Nat × Nat) := [(0, 0), (0, 1), (0, 3), (7, 5), (7, 6), (7, 7), (12, 999), (13, 999), (14, 999)]
set_option maxHeartbeats 4000000 in
set_option maxRecDepth 100000 in
theorem h_move_X8 (l : Launch) (D : va_G) (g : Nat → ClassId) (σ : Nat → Option Nat) (Z : State → Heap → Prop) (hZ0 : hZ σ Z) (M : hM) (N : hN) (R : hR) (x : Nat) (g_x : σ x = some 8) (p1 : Int32) (p2 : Int32) : Met l yX8_move wsX8_move ({ frames := 3, cells := 0, slots := 0, locals := 82 }) (va_Pc [.ref x, .int p1, .int p2] (hPre D g σ Z M N R)) (hQi D g σ e_h_move_X8 M (fun (r : Int32) (M1 : hM) (N1 : hN) (R1 : hR) => N = N1 ∧ R = R1 ∧ iv r (-2) 7)) 0 0 (hA σ) := by
  refine h_head (cc := cX8_move) (maxL := 5) (ret := (some .int)) (by decide) rfl (Nat.le_of_ble_eq_true rfl) e_h_move_X8 ?_
  intro p e s m below meth c ls Q ar hQ hx hb hr hlocks hml hown hts hK hE H locs hI hl
  have hown : s.vm.findClass RX8 = some m.cls := hown
  have hl : lv_has ls 5 [(0, .ref x), (1, .int p1), (2, .int p2)] := hl
  refine lv_aload_n hx hb dX8_move_0 rfl (lv_at hl 0 rfl) ?_
  refine lv_iload_n hx hb dX8_move_1 rfl (lv_at hl 1 rfl) ?_
  refine h_goi hI (by decide) (va_runV (As := [.int p1]) (rest := []) ⟨hx, hb, hml, hown, hts⟩ (h_isTenant_X8 l D g σ Z hZ0 M N R x g_x p1) (cwV 1 hts gX8_move_X8_isTenant rfl rfl rfl (by decide +kernel) ⟨Nat.le_of_ble_eq_true rfl, Nat.le_of_ble_eq_true rfl⟩) (h_preV hZ0 hK hE hI g_x (by decide) rfl) rfl rfl hl.1 rfl (lv_room (Nat.le_of_ble_eq_true rfl)) dX8_move_2 ⟨Nat.le_of_ble_eq_true rfl, Nat.le_of_ble_eq_true rfl⟩) (fun r1 M2 N3 R4 H locs q5 z_M2 hI => ?_)
  obtain ⟨rfl, rfl, rfl, i_r1, z6⟩ := q5
  refine lv_if_eq (tgt := 35) hx hb dX8_move_5 (by decide) (fun c7 => ?_) (fun c7 => ?_)
  · have i8 : iv r1 0 0 := iv_eq1 c7 i_r1 kc_0
    refine lv_bipush (v := (-2)) hx hb dX8_move_35 (by decide) ?_
    exact h_iret hQ hx hb hr hlocks rfl hK hI ⟨rfl, rfl, (iv_w (lo' := (-2)) (hi' := 7) kc_m2 (by decide) (by decide))⟩ dX8_move_37
  · have i9 : iv p1 0 6 := z6 c7
    have i10 : iv r1 1 1 := iv_neL c7 i_r1 (by decide) (by decide)
    refine lv_aload_n hx hb dX8_move_8 rfl (lv_at hl 0 rfl) ?_
    refine lv_iload_n hx hb dX8_move_9 rfl (lv_at hl 2 rfl) ?_
    refine h_goi hI (by decide) (va_runV (As := [.int p2]) (rest := []) ⟨hx, hb, hml, hown, hts⟩ (h_isRoom_X8 l D g σ Z hZ0 M N R x g_x p2) (cwV 1 hts gX8_move_X8_isRoom rfl rfl rfl (by decide +kernel) ⟨Nat.le_of_ble_eq_true rfl, Nat.le_of_ble_eq_true rfl⟩) (h_preV hZ0 hK hE hI g_x (by decide) rfl) rfl rfl hl.1 rfl (lv_room (Nat.le_of_ble_eq_true rfl)) dX8_move_10 ⟨Nat.le_of_ble_eq_true rfl, Nat.le_of_ble_eq_true rfl⟩) (fun r11 M12 N13 R14 H locs q15 z_M12 hI => ?_)
    obtain ⟨rfl, rfl, rfl, i_r11, z16⟩ := q15
    refine lv_if_eq (tgt := 35) hx hb dX8_move_13 (by decide) (fun c17 => ?_) (fun c17 => ?_)
    · have i18 : iv r11 0 0 := iv_eq1 c17 i_r11 kc_0
      refine lv_bipush (v := (-2)) hx hb dX8_move_35 (by decide) ?_
      exact h_iret hQ hx hb hr hlocks rfl hK hI ⟨rfl, rfl, (iv_w (lo' := (-2)) (hi' := 7) kc_m2 (by decide) (by decide))⟩ dX8_move_37
    · have i19 : iv p2 0 7 := z16 c17
      have i20 : iv r11 1 1 := iv_neL c17 i_r11 (by decide) (by decide)
      refine lv_aload_n hx hb dX8_move_16 rfl (lv_at hl 0 rfl) ?_
      refine h_getr hx hb hts iX8_move_X8 hown hK hI g_x (by decide) rfl rfl 3 (by decide) rfl 4 rfl (hts (.fieldLink RX8 27 "CatLeases" "mews" "LCatLeases$Mews;") (List.mem_of_getElem? (i := 1) rfl)) (fun _ h9 => h9) dX8_move_17 (fun a21 e_a21 g_a21 => ?_)
      refine lv_aload_n hx hb dX8_move_20 rfl (lv_at hl 0 rfl) ?_
      refine h_getr hx hb hts iX8_move_X8 hown hK hI g_x (by decide) rfl rfl 4 (by decide) rfl 0 rfl (hts (.fieldLink RX8 34 "CatLeases" "acts" "LCatLeases$Acts;") (List.mem_of_getElem? (i := 2) rfl)) (fun _ h9 => h9) dX8_move_21 (fun a22 e_a22 g_a22 => ?_)
      refine h_gor hI (by decide) (va_runV (As := []) (rest := [.ref a21]) ⟨hx, hb, hml, hown, hts⟩ (h_current_X0 l D g σ Z hZ0 M N R a22 g_a22) (cwV 0 hts gX8_move_X0_current rfl rfl rfl (by decide +kernel) ⟨Nat.le_of_ble_eq_true rfl, Nat.le_of_ble_eq_true rfl⟩) (h_preV hZ0 hK hE hI g_a22 (by decide) rfl) rfl rfl hl.1 rfl (lv_room (Nat.le_of_ble_eq_true rfl)) dX8_move_24 ⟨Nat.le_of_ble_eq_true rfl, Nat.le_of_ble_eq_true rfl⟩) (fun a23 M24 N25 R26 H locs q27 z_M24 hI => ?_)
      obtain ⟨rfl, rfl, rfl, g_a23⟩ := q27
      refine lv_iload_n hx hb dX8_move_27 rfl (lv_at hl 2 rfl) ?_
      refine h_goi hI (by decide) (va_runV (As := [.ref a23, .int p2]) (rest := []) ⟨hx, hb, hml, hown, hts⟩ (h_whoIsIn_X4 l D g σ Z hZ0 M N R a21 g_a21 a23 g_a23 p2) (cwV 2 hts gX8_move_X4_whoIsIn rfl rfl rfl (by decide +kernel) ⟨Nat.le_of_ble_eq_true rfl, Nat.le_of_ble_eq_true rfl⟩) (h_preV hZ0 hK hE hI g_a21 (by decide) rfl) rfl rfl hl.1 rfl (lv_room (Nat.le_of_ble_eq_true rfl)) dX8_move_28 ⟨Nat.le_of_ble_eq_true rfl, Nat.le_of_ble_eq_true rfl⟩) (fun r28 M29 N30 R31 H locs q32 z_M29 hI => ?_)
      obtain ⟨rfl, rfl, rfl, i_r28⟩ := q32
      refine lv_iconst (v := (-1)) hx hb dX8_move_31 (by decide) ?_
      refine lv_icmp_eq (tgt := 38) hx hb dX8_move_32 (by decide) (fun c33 => ?_) (fun c33 => ?_)
      · have i34 : iv r28 (-1) (-1) := iv_eq1 c33 i_r28 kc_m1
        refine lv_aload_n hx hb dX8_move_38 rfl (lv_at hl 0 rfl) ?_
        refine h_getr hx hb hts iX8_move_X8 hown hK hI g_x (by decide) rfl rfl 4 (by decide) rfl 0 rfl (hts (.fieldLink RX8 34 "CatLeases" "acts" "LCatLeases$Acts;") (List.mem_of_getElem? (i := 2) rfl)) (fun _ h9 => h9) dX8_move_39 (fun a35 e_a35 g_a35 => ?_)
        have q36 : a22 = a35 := (e_a22).trans e_a35.symm
        subst q36
        refine h_gor hI (by decide) (va_runV (As := []) (rest := []) ⟨hx, hb, hml, hown, hts⟩ (h_begin_X0 l D g σ Z hZ0 M N R a22 g_a22) (cwV 0 hts gX8_move_X0_begin rfl rfl rfl (by decide +kernel) ⟨Nat.le_of_ble_eq_true rfl, Nat.le_of_ble_eq_true rfl⟩) (h_preV hZ0 hK hE hI g_a22 (by decide) rfl) rfl rfl hl.1 rfl (lv_room (Nat.le_of_ble_eq_true rfl)) dX8_move_42 ⟨Nat.le_of_ble_eq_true rfl, Nat.le_of_ble_eq_true rfl⟩) (fun a37 M38 N39 R40 H locs q41 z_M38 hI => ?_)
        obtain ⟨rfl, rfl, g_a37⟩ := q41
        refine lv_astore_n (lv' := [(3, .ref a37), (0, .ref x), (1, .int p1), (2, .int p2)]) hx hb dX8_move_45 rfl hl (by decide) rfl (fun ls hl => ?_)
        refine lv_aload_n hx hb dX8_move_46 rfl (lv_at hl 0 rfl) ?_
        refine h_getr hx hb hts iX8_move_X7 hown hK hI g_a37 (by decide) rfl rfl 1 (by decide) rfl 13 rfl (hts (.fieldLink RX8 147 "CatLeases$State" "places" "[I") (List.mem_of_getElem? (i := 3) rfl)) (fun _ h9 => h9) dX8_move_47 (fun a42 e_a42 g_a42 => ?_)
        refine lv_iload_n hx hb dX8_move_50 rfl (lv_at hl 2 rfl) ?_
        refine h_iald (j := p1.toNatClampNeg) (lo := (-1)) (hi := 7) hx hb hK hI g_a42 (by decide) rfl (iv_in (n := 7) i9 (by decide) (by decide)) rfl (hI.iv1 (n := 7) g_a42 rfl (in_lt (iv_in (n := 7) i9 (by decide) (by decide))) rfl) dX8_move_51 (fun v43 e_v43 i_v43 => ?_)
        refine lv_istore (lv' := [(4, .int v43), (3, .ref a37), (0, .ref x), (1, .int p1), (2, .int p2)]) hx hb dX8_move_52 hl (by decide) rfl (fun ls hl => ?_)
        refine lv_aload_n hx hb dX8_move_54 rfl (lv_at hl 1 rfl) ?_
        refine lv_iload_n hx hb dX8_move_55 rfl (lv_at hl 3 rfl) ?_
        refine lv_iload_n hx hb dX8_move_56 rfl (lv_at hl 4 rfl) ?_
        refine h_gov hI (by decide) (va_runV (As := [.int p1, .int p2]) (rest := []) ⟨hx, hb, hml, hown, hts⟩ (h_place_X7 l D g σ Z hZ0 M38 N R a37 g_a37 p1 p2 (iv_w (lo' := (-1)) (hi' := 7) i19 (by decide) (by decide))) (cwV 2 hts gX8_move_X7_place rfl rfl rfl (by decide +kernel) ⟨Nat.le_of_ble_eq_true rfl, Nat.le_of_ble_eq_true rfl⟩) (h_preV hZ0 hK hE hI g_a37 (by decide) rfl) rfl rfl hl.1 rfl (lv_room (Nat.le_of_ble_eq_true rfl)) dX8_move_57 ⟨Nat.le_of_ble_eq_true rfl, Nat.le_of_ble_eq_true rfl⟩) (fun M45 N46 R47 H locs q48 z_M45 hI => ?_)
        obtain ⟨rfl, rfl⟩ := q48
        refine lv_iload hx hb dX8_move_60 (lv_at hl 0 rfl) ?_
        exact h_iret hQ hx hb hr hlocks rfl hK hI ⟨rfl, rfl, (iv_w (lo' := (-2)) (hi' := 7) i_v43 (by decide) (by decide))⟩ dX8_move_62
      · have i49 : iv r28 0 6 := iv_neL c33 i_r28 (by decide) (by decide)
        refine lv_bipush (v := (-2)) hx hb dX8_move_35 (by decide) ?_
        exact h_iret hQ hx hb hr hlocks rfl hK hI ⟨rfl, rfl, (iv_w (lo' := (-2)) (hi' := 7) kc_m2 (by decide) (by decide))⟩ dX8_move_37
abbrev e_h_exchange_X8 : List (Nat × Nat) := [(0, 0), (0, 1), (0, 3), (7, 5), (7, 6), (7, 7), (12, 999), (13, 999), (14, 999)]
set_option maxHeartbeats 4000000 in
set_option maxRecDepth 100000 in
theorem h_exchange_X8 (l : Launch) (D : va_G) (g : Nat → ClassId) (σ : Nat → Option Nat) (Z : State → Heap → Prop) (hZ0 : hZ σ Z) (M : hM) (N : hN) (R : hR) (x : Nat) (g_x : σ x = some 8) (p1 : Int32) (p2 : Int32) : Met l yX8_exchange wsX8_exchange ({ frames := 3, cells := 0, slots := 0, locals := 82 }) (va_Pc [.ref x, .int p1, .int p2] (hPre D g σ Z M N R)) (hQi D g σ e_h_exchange_X8 M (fun (r : Int32) (M1 : hM) (N1 : hN) (R1 : hR) => N = N1 ∧ R = R1 ∧ iv r (-1) 7)) 0 0 (hA σ) := by
  refine h_head (cc := cX8_exchange) (maxL := 5) (ret := (some .int)) (by decide) rfl (Nat.le_of_ble_eq_true rfl) e_h_exchange_X8 ?_
  intro p e s m below meth c ls Q ar hQ hx hb hr hlocks hml hown hts hK hE H locs hI hl
  have hown : s.vm.findClass RX8 = some m.cls := hown
  have hl : lv_has ls 5 [(0, .ref x), (1, .int p1), (2, .int p2)] := hl
  refine lv_iload_n hx hb dX8_exchange_0 rfl (lv_at hl 1 rfl) ?_
  refine lv_iload_n hx hb dX8_exchange_1 rfl (lv_at hl 2 rfl) ?_
  refine lv_icmp_eq (tgt := 21) hx hb dX8_exchange_2 (by decide) (fun c1 => ?_) (fun c1 => ?_)
  · refine lv_iconst (v := (-1)) hx hb dX8_exchange_21 (by decide) ?_
    exact h_iret hQ hx hb hr hlocks rfl hK hI ⟨rfl, rfl, (iv_w (lo' := (-1)) (hi' := 7) kc_m1 (by decide) (by decide))⟩ dX8_exchange_22
  · refine lv_aload_n hx hb dX8_exchange_5 rfl (lv_at hl 0 rfl) ?_
    refine lv_iload_n hx hb dX8_exchange_6 rfl (lv_at hl 1 rfl) ?_
    refine h_goi hI (by decide) (va_runV (As := [.int p1]) (rest := []) ⟨hx, hb, hml, hown, hts⟩ (h_isHoused_X8 l D g σ Z hZ0 M N R x g_x p1) (cwV 1 hts gX8_exchange_X8_isHoused rfl rfl rfl (by decide +kernel) ⟨Nat.le_of_ble_eq_true rfl, Nat.le_of_ble_eq_true rfl⟩) (h_preV hZ0 hK hE hI g_x (by decide) rfl) rfl rfl hl.1 rfl (lv_room (Nat.le_of_ble_eq_true rfl)) dX8_exchange_7 ⟨Nat.le_of_ble_eq_true rfl, Nat.le_of_ble_eq_true rfl⟩) (fun r2 M3 N4 R5 H locs q6 z_M3 hI => ?_)
    obtain ⟨rfl, rfl, rfl, i_r2, z7⟩ := q6
    refine lv_if_eq (tgt := 21) hx hb dX8_exchange_10 (by decide) (fun c8 => ?_) (fun c8 => ?_)
    · have i9 : iv r2 0 0 := iv_eq1 c8 i_r2 kc_0
      refine lv_iconst (v := (-1)) hx hb dX8_exchange_21 (by decide) ?_
      exact h_iret hQ hx hb hr hlocks rfl hK hI ⟨rfl, rfl, (iv_w (lo' := (-1)) (hi' := 7) kc_m1 (by decide) (by decide))⟩ dX8_exchange_22
    · have i10 : iv p1 0 6 := z7 c8
      have i11 : iv r2 1 1 := iv_neL c8 i_r2 (by decide) (by decide)
      refine lv_aload_n hx hb dX8_exchange_13 rfl (lv_at hl 0 rfl) ?_
      refine lv_iload_n hx hb dX8_exchange_14 rfl (lv_at hl 2 rfl) ?_
      refine h_goi hI (by decide) (va_runV (As := [.int p2]) (rest := []) ⟨hx, hb, hml, hown, hts⟩ (h_isHoused_X8 l D g σ Z hZ0 M N R x g_x p2) (cwV 1 hts gX8_exchange_X8_isHoused rfl rfl rfl (by decide +kernel) ⟨Nat.le_of_ble_eq_true rfl, Nat.le_of_ble_eq_true rfl⟩) (h_preV hZ0 hK hE hI g_x (by decide) rfl) rfl rfl hl.1 rfl (lv_room (Nat.le_of_ble_eq_true rfl)) dX8_exchange_15 ⟨Nat.le_of_ble_eq_true rfl, Nat.le_of_ble_eq_true rfl⟩) (fun r12 M13 N14 R15 H locs q16 z_M13 hI => ?_)
      obtain ⟨rfl, rfl, rfl, i_r12, z17⟩ := q16
      refine lv_if_ne (tgt := 23) hx hb dX8_exchange_18 (by decide) (fun c18 => ?_) (fun c18 => ?_)
      · have i19 : iv p2 0 6 := z17 c18
        have i20 : iv r12 1 1 := iv_neL c18 i_r12 (by decide) (by decide)
        refine lv_aload_n hx hb dX8_exchange_23 rfl (lv_at hl 0 rfl) ?_
        refine h_getr hx hb hts iX8_exchange_X8 hown hK hI g_x (by decide) rfl rfl 4 (by decide) rfl 0 rfl (hts (.fieldLink RX8 34 "CatLeases" "acts" "LCatLeases$Acts;") (List.mem_of_getElem? (i := 1) rfl)) (fun _ h9 => h9) dX8_exchange_24 (fun a21 e_a21 g_a21 => ?_)
        refine h_gor hI (by decide) (va_runV (As := []) (rest := []) ⟨hx, hb, hml, hown, hts⟩ (h_begin_X0 l D g σ Z hZ0 M N R a21 g_a21) (cwV 0 hts gX8_exchange_X0_begin rfl rfl rfl (by decide +kernel) ⟨Nat.le_of_ble_eq_true rfl, Nat.le_of_ble_eq_true rfl⟩) (h_preV hZ0 hK hE hI g_a21 (by decide) rfl) rfl rfl hl.1 rfl (lv_room (Nat.le_of_ble_eq_true rfl)) dX8_exchange_27 ⟨Nat.le_of_ble_eq_true rfl, Nat.le_of_ble_eq_true rfl⟩) (fun a22 M23 N24 R25 H locs q26 z_M23 hI => ?_)
        obtain ⟨rfl, rfl, g_a22⟩ := q26
        refine lv_astore_n (lv' := [(3, .ref a22), (0, .ref x), (1, .int p1), (2, .int p2)]) hx hb dX8_exchange_30 rfl hl (by decide) rfl (fun ls hl => ?_)
        refine lv_aload_n hx hb dX8_exchange_31 rfl (lv_at hl 0 rfl) ?_
        refine h_getr hx hb hts iX8_exchange_X7 hown hK hI g_a22 (by decide) rfl rfl 1 (by decide) rfl 13 rfl (hts (.fieldLink RX8 147 "CatLeases$State" "places" "[I") (List.mem_of_getElem? (i := 2) rfl)) (fun _ h9 => h9) dX8_exchange_32 (fun a27 e_a27 g_a27 => ?_)
        refine lv_iload_n hx hb dX8_exchange_35 rfl (lv_at hl 2 rfl) ?_
        refine h_iald (j := p1.toNatClampNeg) (lo := (-1)) (hi := 7) hx hb hK hI g_a27 (by decide) rfl (iv_in (n := 7) i10 (by decide) (by decide)) rfl (hI.iv1 (n := 7) g_a27 rfl (in_lt (iv_in (n := 7) i10 (by decide) (by decide))) rfl) dX8_exchange_36 (fun v28 e_v28 i_v28 => ?_)
        refine lv_istore (lv' := [(4, .int v28), (3, .ref a22), (0, .ref x), (1, .int p1), (2, .int p2)]) hx hb dX8_exchange_37 hl (by decide) rfl (fun ls hl => ?_)
        refine lv_aload_n hx hb dX8_exchange_39 rfl (lv_at hl 1 rfl) ?_
        refine lv_iload_n hx hb dX8_exchange_40 rfl (lv_at hl 3 rfl) ?_
        refine lv_aload_n hx hb dX8_exchange_41 rfl (lv_at hl 1 rfl) ?_
        refine h_getr hx hb hts iX8_exchange_X7 hown hK hI g_a22 (by decide) rfl rfl 1 (by decide) rfl 13 rfl (hts (.fieldLink RX8 147 "CatLeases$State" "places" "[I") (List.mem_of_getElem? (i := 2) rfl)) (fun _ h9 => h9) dX8_exchange_42 (fun a29 e_a29 g_a29 => ?_)
        have q30 : a27 = a29 := (e_a27).trans e_a29.symm
        subst q30
        refine lv_iload_n hx hb dX8_exchange_45 rfl (lv_at hl 4 rfl) ?_
        refine h_iald (j := p2.toNatClampNeg) (lo := (-1)) (hi := 7) hx hb hK hI g_a27 (by decide) rfl (iv_in (n := 7) i19 (by decide) (by decide)) rfl (hI.iv1 (n := 7) g_a27 rfl (in_lt (iv_in (n := 7) i19 (by decide) (by decide))) rfl) dX8_exchange_46 (fun v31 e_v31 i_v31 => ?_)
        refine h_gov hI (by decide) (va_runV (As := [.int p1, .int v31]) (rest := []) ⟨hx, hb, hml, hown, hts⟩ (h_place_X7 l D g σ Z hZ0 M23 N R a22 g_a22 p1 v31 i_v31) (cwV 2 hts gX8_exchange_X7_place rfl rfl rfl (by decide +kernel) ⟨Nat.le_of_ble_eq_true rfl, Nat.le_of_ble_eq_true rfl⟩) (h_preV hZ0 hK hE hI g_a22 (by decide) rfl) rfl rfl hl.1 rfl (lv_room (Nat.le_of_ble_eq_true rfl)) dX8_exchange_47 ⟨Nat.le_of_ble_eq_true rfl, Nat.le_of_ble_eq_true rfl⟩) (fun M33 N34 R35 H locs q36 z_M33 hI => ?_)
        obtain ⟨rfl, rfl⟩ := q36
        refine lv_aload_n hx hb dX8_exchange_50 rfl (lv_at hl 1 rfl) ?_
        refine lv_iload_n hx hb dX8_exchange_51 rfl (lv_at hl 4 rfl) ?_
        refine lv_iload hx hb dX8_exchange_52 (lv_at hl 0 rfl) ?_
        refine h_gov hI (by decide) (va_runV (As := [.int p2, .int v28]) (rest := []) ⟨hx, hb, hml, hown, hts⟩ (h_place_X7 l D g σ Z hZ0 M33 N R a22 g_a22 p2 v28 i_v28) (cwV 2 hts gX8_exchange_X7_place rfl rfl rfl (by decide +kernel) ⟨Nat.le_of_ble_eq_true rfl, Nat.le_of_ble_eq_true rfl⟩) (h_preV hZ0 hK hE hI g_a22 (by decide) rfl) rfl rfl hl.1 rfl (lv_room (Nat.le_of_ble_eq_true rfl)) dX8_exchange_54 ⟨Nat.le_of_ble_eq_true rfl, Nat.le_of_ble_eq_true rfl⟩) (fun M38 N39 R40 H locs q41 z_M38 hI => ?_)
        obtain ⟨rfl, rfl⟩ := q41
        refine lv_aload_n hx hb dX8_exchange_57 rfl (lv_at hl 1 rfl) ?_
        refine h_getr hx hb hts iX8_exchange_X7 hown hK hI g_a22 (by decide) rfl rfl 1 (by decide) rfl 13 rfl (hts (.fieldLink RX8 147 "CatLeases$State" "places" "[I") (List.mem_of_getElem? (i := 2) rfl)) (fun _ h9 => h9) dX8_exchange_58 (fun a42 e_a42 g_a42 => ?_)
        have q43 : a27 = a42 := (e_a27).trans e_a42.symm
        subst q43
        refine lv_iload_n hx hb dX8_exchange_61 rfl (lv_at hl 3 rfl) ?_
        refine h_iald (j := p1.toNatClampNeg) (lo := (-1)) (hi := 7) hx hb hK hI g_a27 (by decide) rfl (iv_in (n := 7) i10 (by decide) (by decide)) rfl (hI.iv1 (n := 7) g_a27 rfl (in_lt (iv_in (n := 7) i10 (by decide) (by decide))) rfl) dX8_exchange_62 (fun v44 e_v44 i_v44 => ?_)
        exact h_iret hQ hx hb hr hlocks rfl hK hI ⟨rfl, rfl, i_v44⟩ dX8_exchange_63
      · have i45 : iv r12 0 0 := iv_eq1 c18 i_r12 kc_0
        refine lv_iconst (v := (-1)) hx hb dX8_exchange_21 (by decide) ?_
        exact h_iret hQ hx hb hr hlocks rfl hK hI ⟨rfl, rfl, (iv_w (lo' := (-1)) (hi' := 7) kc_m1 (by decide) (by decide))⟩ dX8_exchange_22
abbrev e_h_claim_X8 : List (Nat × Nat) := [(0, 0), (0, 1), (0, 3), (7, 5), (7, 6), (7, 7), (12, 999), (13, 999), (14, 999)]
set_option maxHeartbeats 4000000 in
set_option maxRecDepth 100000 in
theorem h_claim_X8 (l : Launch) (D : va_G) (g : Nat → ClassId) (σ : Nat → Option Nat) (Z : State → Heap → Prop) (hZ0 : hZ σ Z) (M : hM) (N : hN) (R : hR) (x : Nat) (g_x : σ x = some 8) (p1 : Int32) (p2 : Int32) : Met l yX8_claim wsX8_claim ({ frames := 3, cells := 0, slots := 0, locals := 82 }) (va_Pc [.ref x, .int p1, .int p2] (hPre D g σ Z M N R)) (hQi D g σ e_h_claim_X8 M (fun (r : Int32) (M1 : hM) (N1 : hN) (R1 : hR) => N = N1 ∧ R = R1)) 0 0 (hA σ) := by
  refine h_head (cc := cX8_claim) (maxL := 4) (ret := (some .int)) (by decide) rfl (Nat.le_of_ble_eq_true rfl) e_h_claim_X8 ?_
  intro p e s m below meth c ls Q ar hQ hx hb hr hlocks hml hown hts hK hE H locs hI hl
  have hown : s.vm.findClass RX8 = some m.cls := hown
  have hl : lv_has ls 4 [(0, .ref x), (1, .int p1), (2, .int p2)] := hl
  refine lv_aload_n hx hb dX8_claim_0 rfl (lv_at hl 0 rfl) ?_
  refine lv_iload_n hx hb dX8_claim_1 rfl (lv_at hl 1 rfl) ?_
  refine h_goi hI (by decide) (va_runV (As := [.int p1]) (rest := []) ⟨hx, hb, hml, hown, hts⟩ (h_isRoom_X8 l D g σ Z hZ0 M N R x g_x p1) (cwV 1 hts gX8_claim_X8_isRoom rfl rfl rfl (by decide +kernel) ⟨Nat.le_of_ble_eq_true rfl, Nat.le_of_ble_eq_true rfl⟩) (h_preV hZ0 hK hE hI g_x (by decide) rfl) rfl rfl hl.1 rfl (lv_room (Nat.le_of_ble_eq_true rfl)) dX8_claim_2 ⟨Nat.le_of_ble_eq_true rfl, Nat.le_of_ble_eq_true rfl⟩) (fun r1 M2 N3 R4 H locs q5 z_M2 hI => ?_)
  obtain ⟨rfl, rfl, rfl, i_r1, z6⟩ := q5
  refine lv_if_eq (tgt := 30) hx hb dX8_claim_5 (by decide) (fun c7 => ?_) (fun c7 => ?_)
  · have i8 : iv r1 0 0 := iv_eq1 c7 i_r1 kc_0
    refine lv_iconst (v := (-1)) hx hb dX8_claim_30 (by decide) ?_
    exact h_iret hQ hx hb hr hlocks rfl hK hI ⟨rfl, rfl⟩ dX8_claim_31
  · have i9 : iv p1 0 7 := z6 c7
    have i10 : iv r1 1 1 := iv_neL c7 i_r1 (by decide) (by decide)
    refine lv_aload_n hx hb dX8_claim_8 rfl (lv_at hl 0 rfl) ?_
    refine lv_iload_n hx hb dX8_claim_9 rfl (lv_at hl 2 rfl) ?_
    refine h_goi hI (by decide) (va_runV (As := [.int p2]) (rest := []) ⟨hx, hb, hml, hown, hts⟩ (h_isLivingCat_X8 l D g σ Z hZ0 M N R x g_x p2) (cwV 1 hts gX8_claim_X8_isLivingCat rfl rfl rfl (by decide +kernel) ⟨Nat.le_of_ble_eq_true rfl, Nat.le_of_ble_eq_true rfl⟩) (h_preV hZ0 hK hE hI g_x (by decide) rfl) rfl rfl hl.1 rfl (lv_room (Nat.le_of_ble_eq_true rfl)) dX8_claim_10 ⟨Nat.le_of_ble_eq_true rfl, Nat.le_of_ble_eq_true rfl⟩) (fun r11 M12 N13 R14 H locs q15 z_M12 hI => ?_)
    obtain ⟨rfl, rfl, rfl, i_r11, z16⟩ := q15
    refine lv_if_eq (tgt := 30) hx hb dX8_claim_13 (by decide) (fun c17 => ?_) (fun c17 => ?_)
    · have i18 : iv r11 0 0 := iv_eq1 c17 i_r11 kc_0
      refine lv_iconst (v := (-1)) hx hb dX8_claim_30 (by decide) ?_
      exact h_iret hQ hx hb hr hlocks rfl hK hI ⟨rfl, rfl⟩ dX8_claim_31
    · have i19 : iv p2 0 5 := z16 c17
      have i20 : iv r11 1 1 := iv_neL c17 i_r11 (by decide) (by decide)
      refine lv_aload_n hx hb dX8_claim_16 rfl (lv_at hl 0 rfl) ?_
      refine h_getr hx hb hts iX8_claim_X8 hown hK hI g_x (by decide) rfl rfl 4 (by decide) rfl 0 rfl (hts (.fieldLink RX8 34 "CatLeases" "acts" "LCatLeases$Acts;") (List.mem_of_getElem? (i := 1) rfl)) (fun _ h9 => h9) dX8_claim_17 (fun a21 e_a21 g_a21 => ?_)
      refine h_gor hI (by decide) (va_runV (As := []) (rest := []) ⟨hx, hb, hml, hown, hts⟩ (h_current_X0 l D g σ Z hZ0 M N R a21 g_a21) (cwV 0 hts gX8_claim_X0_current rfl rfl rfl (by decide +kernel) ⟨Nat.le_of_ble_eq_true rfl, Nat.le_of_ble_eq_true rfl⟩) (h_preV hZ0 hK hE hI g_a21 (by decide) rfl) rfl rfl hl.1 rfl (lv_room (Nat.le_of_ble_eq_true rfl)) dX8_claim_20 ⟨Nat.le_of_ble_eq_true rfl, Nat.le_of_ble_eq_true rfl⟩) (fun a22 M23 N24 R25 H locs q26 z_M23 hI => ?_)
      obtain ⟨rfl, rfl, rfl, g_a22⟩ := q26
      refine lv_iload_n hx hb dX8_claim_23 rfl (lv_at hl 1 rfl) ?_
      refine h_goi hI (by decide) (va_runV (As := [.int p1]) (rest := []) ⟨hx, hb, hml, hown, hts⟩ (h_isKept_X7 l D g σ Z hZ0 M N R a22 g_a22 p1) (cwV 1 hts gX8_claim_X7_isKept rfl rfl rfl (by decide +kernel) ⟨Nat.le_of_ble_eq_true rfl, Nat.le_of_ble_eq_true rfl⟩) (h_preV hZ0 hK hE hI g_a22 (by decide) rfl) rfl rfl hl.1 rfl (lv_room (Nat.le_of_ble_eq_true rfl)) dX8_claim_24 ⟨Nat.le_of_ble_eq_true rfl, Nat.le_of_ble_eq_true rfl⟩) (fun r27 M28 N29 R30 H locs q31 z_M28 hI => ?_)
      obtain ⟨rfl, rfl, rfl, i_r27, z32, z33⟩ := q31
      refine lv_if_eq (tgt := 32) hx hb dX8_claim_27 (by decide) (fun c34 => ?_) (fun c34 => ?_)
      · have i35 : iv r27 0 0 := iv_eq1 c34 i_r27 kc_0
        refine lv_aload_n hx hb dX8_claim_32 rfl (lv_at hl 0 rfl) ?_
        refine h_getr hx hb hts iX8_claim_X8 hown hK hI g_x (by decide) rfl rfl 4 (by decide) rfl 0 rfl (hts (.fieldLink RX8 34 "CatLeases" "acts" "LCatLeases$Acts;") (List.mem_of_getElem? (i := 1) rfl)) (fun _ h9 => h9) dX8_claim_33 (fun a36 e_a36 g_a36 => ?_)
        have q37 : a21 = a36 := (e_a21).trans e_a36.symm
        subst q37
        refine h_gor hI (by decide) (va_runV (As := []) (rest := []) ⟨hx, hb, hml, hown, hts⟩ (h_begin_X0 l D g σ Z hZ0 M N R a21 g_a21) (cwV 0 hts gX8_claim_X0_begin rfl rfl rfl (by decide +kernel) ⟨Nat.le_of_ble_eq_true rfl, Nat.le_of_ble_eq_true rfl⟩) (h_preV hZ0 hK hE hI g_a21 (by decide) rfl) rfl rfl hl.1 rfl (lv_room (Nat.le_of_ble_eq_true rfl)) dX8_claim_36 ⟨Nat.le_of_ble_eq_true rfl, Nat.le_of_ble_eq_true rfl⟩) (fun a38 M39 N40 R41 H locs q42 z_M39 hI => ?_)
        obtain ⟨rfl, rfl, g_a38⟩ := q42
        refine lv_astore_n (lv' := [(3, .ref a38), (0, .ref x), (1, .int p1), (2, .int p2)]) hx hb dX8_claim_39 rfl hl (by decide) rfl (fun ls hl => ?_)
        refine lv_aload_n hx hb dX8_claim_40 rfl (lv_at hl 0 rfl) ?_
        refine h_getr hx hb hts iX8_claim_X7 hown hK hI g_a38 (by decide) rfl rfl 0 (by decide) rfl 12 rfl (hts (.fieldLink RX8 138 "CatLeases$State" "keepers" "[I") (List.mem_of_getElem? (i := 2) rfl)) (fun _ h9 => h9) dX8_claim_41 (fun a43 e_a43 g_a43 => ?_)
        refine lv_iload_n hx hb dX8_claim_44 rfl (lv_at hl 2 rfl) ?_
        refine lv_iload_n hx hb dX8_claim_45 rfl (lv_at hl 3 rfl) ?_
        refine h_iast (j := p1.toNatClampNeg) hx hb hK hI g_a43 (by decide) rfl (iv_in (n := 8) i9 (by decide) (by decide)) rfl (iv_w (lo' := (-1)) (hi' := 5) i19 (by decide) (by decide)) rfl dX8_claim_46 (fun M44 H locs e_M44 hI => ?_)
        refine lv_aload_n hx hb dX8_claim_47 rfl (lv_at hl 0 rfl) ?_
        refine lv_iload_n hx hb dX8_claim_48 rfl (lv_at hl 3 rfl) ?_
        refine h_goi hI (by decide) (va_runV (As := [.int p2]) (rest := []) ⟨hx, hb, hml, hown, hts⟩ (h_roomCount_X7 l D g σ Z hZ0 M44 N R a38 g_a38 p2) (cwV 1 hts gX8_claim_X7_roomCount rfl rfl rfl (by decide +kernel) ⟨Nat.le_of_ble_eq_true rfl, Nat.le_of_ble_eq_true rfl⟩) (h_preV hZ0 hK hE hI g_a38 (by decide) rfl) rfl rfl hl.1 rfl (lv_room (Nat.le_of_ble_eq_true rfl)) dX8_claim_49 ⟨Nat.le_of_ble_eq_true rfl, Nat.le_of_ble_eq_true rfl⟩) (fun r45 M46 N47 R48 H locs q49 z_M46 hI => ?_)
        obtain ⟨rfl, rfl, rfl⟩ := q49
        exact h_iret hQ hx hb hr hlocks rfl hK hI ⟨rfl, rfl⟩ dX8_claim_52
      · have i50 := z33 c34
        have i51 : iv r27 1 1 := iv_neL c34 i_r27 (by decide) (by decide)
        refine lv_iconst (v := (-1)) hx hb dX8_claim_30 (by decide) ?_
        exact h_iret hQ hx hb hr hlocks rfl hK hI ⟨rfl, rfl⟩ dX8_claim_31
abbrev e_h_spend_X8 : List (Nat × Nat) := [(0, 0), (0, 1), (0, 3), (7, 5), (7, 6), (7, 7), (12, 999), (13, 999), (14, 999)]
set_option maxHeartbeats 4000000 in
set_option maxRecDepth 100000 in
theorem h_spend_X8 (l : Launch) (D : va_G) (g : Nat → ClassId) (σ : Nat → Option Nat) (Z : State → Heap → Prop) (hZ0 : hZ σ Z) (M : hM) (N : hN) (R : hR) (x : Nat) (g_x : σ x = some 8) (p1 : Int32) (p2 : Int32) : Met l yX8_spend wsX8_spend ({ frames := 3, cells := 0, slots := 0, locals := 82 }) (va_Pc [.ref x, .int p1, .int p2] (hPre D g σ Z M N R)) (hQi D g σ e_h_spend_X8 M (fun (r : Int32) (M1 : hM) (N1 : hN) (R1 : hR) => N = N1 ∧ R = R1)) 0 0 (hA σ) := by
  refine h_head (cc := cX8_spend) (maxL := 4) (ret := (some .int)) (by decide) rfl (Nat.le_of_ble_eq_true rfl) e_h_spend_X8 ?_
  intro p e s m below meth c ls Q ar hQ hx hb hr hlocks hml hown hts hK hE H locs hI hl
  have hown : s.vm.findClass RX8 = some m.cls := hown
  have hl : lv_has ls 4 [(0, .ref x), (1, .int p1), (2, .int p2)] := hl
  refine lv_aload_n hx hb dX8_spend_0 rfl (lv_at hl 0 rfl) ?_
  refine lv_iload_n hx hb dX8_spend_1 rfl (lv_at hl 1 rfl) ?_
  refine h_goi hI (by decide) (va_runV (As := [.int p1]) (rest := []) ⟨hx, hb, hml, hown, hts⟩ (h_isTenant_X8 l D g σ Z hZ0 M N R x g_x p1) (cwV 1 hts gX8_spend_X8_isTenant rfl rfl rfl (by decide +kernel) ⟨Nat.le_of_ble_eq_true rfl, Nat.le_of_ble_eq_true rfl⟩) (h_preV hZ0 hK hE hI g_x (by decide) rfl) rfl rfl hl.1 rfl (lv_room (Nat.le_of_ble_eq_true rfl)) dX8_spend_2 ⟨Nat.le_of_ble_eq_true rfl, Nat.le_of_ble_eq_true rfl⟩) (fun r1 M2 N3 R4 H locs q5 z_M2 hI => ?_)
  obtain ⟨rfl, rfl, rfl, i_r1, z6⟩ := q5
  refine lv_if_eq (tgt := 18) hx hb dX8_spend_5 (by decide) (fun c7 => ?_) (fun c7 => ?_)
  · have i8 : iv r1 0 0 := iv_eq1 c7 i_r1 kc_0
    refine lv_iconst (v := (-1)) hx hb dX8_spend_18 (by decide) ?_
    exact h_iret hQ hx hb hr hlocks rfl hK hI ⟨rfl, rfl⟩ dX8_spend_19
  · have i9 : iv p1 0 6 := z6 c7
    have i10 : iv r1 1 1 := iv_neL c7 i_r1 (by decide) (by decide)
    refine lv_iload_n hx hb dX8_spend_8 rfl (lv_at hl 2 rfl) ?_
    refine lv_if_lt (tgt := 18) hx hb dX8_spend_9 (by decide) (fun c11 => ?_) (fun c11 => ?_)
    · have i12 : iv p2 (-2147483648) (-1) := iv_lt1 c11 (iv_any p2) kc_0 (by decide)
      refine lv_iconst (v := (-1)) hx hb dX8_spend_18 (by decide) ?_
      exact h_iret hQ hx hb hr hlocks rfl hK hI ⟨rfl, rfl⟩ dX8_spend_19
    · have i13 : iv p2 0 2147483647 := iv_nlt1 c11 (iv_any p2) kc_0 (by decide)
      refine lv_iload_n hx hb dX8_spend_12 rfl (lv_at hl 2 rfl) ?_
      refine lv_bipush (v := 99) hx hb dX8_spend_13 (by decide) ?_
      refine lv_icmp_le (tgt := 20) hx hb dX8_spend_15 (by decide) (fun c14 => ?_) (fun c14 => ?_)
      · have i15 : iv p2 0 99 := iv_le1 c14 i13 kc_99 (by decide)
        refine lv_aload_n hx hb dX8_spend_20 rfl (lv_at hl 0 rfl) ?_
        refine h_getr hx hb hts iX8_spend_X8 hown hK hI g_x (by decide) rfl rfl 4 (by decide) rfl 0 rfl (hts (.fieldLink RX8 34 "CatLeases" "acts" "LCatLeases$Acts;") (List.mem_of_getElem? (i := 1) rfl)) (fun _ h9 => h9) dX8_spend_21 (fun a16 e_a16 g_a16 => ?_)
        refine h_gor hI (by decide) (va_runV (As := []) (rest := []) ⟨hx, hb, hml, hown, hts⟩ (h_current_X0 l D g σ Z hZ0 M N R a16 g_a16) (cwV 0 hts gX8_spend_X0_current rfl rfl rfl (by decide +kernel) ⟨Nat.le_of_ble_eq_true rfl, Nat.le_of_ble_eq_true rfl⟩) (h_preV hZ0 hK hE hI g_a16 (by decide) rfl) rfl rfl hl.1 rfl (lv_room (Nat.le_of_ble_eq_true rfl)) dX8_spend_24 ⟨Nat.le_of_ble_eq_true rfl, Nat.le_of_ble_eq_true rfl⟩) (fun a17 M18 N19 R20 H locs q21 z_M18 hI => ?_)
        obtain ⟨rfl, rfl, rfl, g_a17⟩ := q21
        refine h_getr hx hb hts iX8_spend_X7 hown hK hI g_a17 (by decide) rfl rfl 3 (by decide) rfl 14 rfl (hts (.fieldLink RX8 150 "CatLeases$State" "hours" "[I") (List.mem_of_getElem? (i := 2) rfl)) (fun _ h9 => h9) dX8_spend_27 (fun a22 e_a22 g_a22 => ?_)
        refine lv_iload_n hx hb dX8_spend_30 rfl (lv_at hl 1 rfl) ?_
        refine h_iald (j := p1.toNatClampNeg) (lo := (-2147483648)) (hi := 2147483647) hx hb hK hI g_a22 (by decide) rfl (iv_in (n := 7) i9 (by decide) (by decide)) rfl (iv_any _) dX8_spend_31 (fun v23 e_v23 i_v23 => ?_)
        refine lv_istore_n (lv' := [(3, .int v23), (0, .ref x), (1, .int p1), (2, .int p2)]) hx hb dX8_spend_32 rfl hl (by decide) rfl (fun ls hl => ?_)
        refine lv_iload_n hx hb dX8_spend_33 rfl (lv_at hl 0 rfl) ?_
        refine lv_iload_n hx hb dX8_spend_34 rfl (lv_at hl 3 rfl) ?_
        refine lv_icmp_ne (tgt := 40) hx hb dX8_spend_35 (by decide) (fun c24 => ?_) (fun c24 => ?_)
        · refine lv_aload_n hx hb dX8_spend_40 rfl (lv_at hl 1 rfl) ?_
          refine h_getr hx hb hts iX8_spend_X8 hown hK hI g_x (by decide) rfl rfl 4 (by decide) rfl 0 rfl (hts (.fieldLink RX8 34 "CatLeases" "acts" "LCatLeases$Acts;") (List.mem_of_getElem? (i := 1) rfl)) (fun _ h9 => h9) dX8_spend_41 (fun a25 e_a25 g_a25 => ?_)
          have q26 : a16 = a25 := (e_a16).trans e_a25.symm
          subst q26
          refine h_gor hI (by decide) (va_runV (As := []) (rest := []) ⟨hx, hb, hml, hown, hts⟩ (h_begin_X0 l D g σ Z hZ0 M N R a16 g_a16) (cwV 0 hts gX8_spend_X0_begin rfl rfl rfl (by decide +kernel) ⟨Nat.le_of_ble_eq_true rfl, Nat.le_of_ble_eq_true rfl⟩) (h_preV hZ0 hK hE hI g_a16 (by decide) rfl) rfl rfl hl.1 rfl (lv_room (Nat.le_of_ble_eq_true rfl)) dX8_spend_44 ⟨Nat.le_of_ble_eq_true rfl, Nat.le_of_ble_eq_true rfl⟩) (fun a27 M28 N29 R30 H locs q31 z_M28 hI => ?_)
          obtain ⟨rfl, rfl, g_a27⟩ := q31
          refine h_getr hx hb hts iX8_spend_X7 hown hK hI g_a27 (by decide) rfl rfl 3 (by decide) rfl 14 rfl (hts (.fieldLink RX8 150 "CatLeases$State" "hours" "[I") (List.mem_of_getElem? (i := 2) rfl)) (fun _ h9 => h9) dX8_spend_47 (fun a32 e_a32 g_a32 => ?_)
          refine lv_iload_n hx hb dX8_spend_50 rfl (lv_at hl 2 rfl) ?_
          refine lv_iload_n hx hb dX8_spend_51 rfl (lv_at hl 3 rfl) ?_
          refine h_iast (j := p1.toNatClampNeg) hx hb hK hI g_a32 (by decide) rfl (iv_in (n := 7) i9 (by decide) (by decide)) rfl (iv_any _) rfl dX8_spend_52 (fun M33 H locs e_M33 hI => ?_)
          refine lv_iload_n hx hb dX8_spend_53 rfl (lv_at hl 0 rfl) ?_
          exact h_iret hQ hx hb hr hlocks rfl hK hI ⟨rfl, rfl⟩ dX8_spend_54
        · have i34 : iv v23 0 99 := iv_eq1 c24 i_v23 i15
          refine lv_iconst (v := (-1)) hx hb dX8_spend_38 (by decide) ?_
          exact h_iret hQ hx hb hr hlocks rfl hK hI ⟨rfl, rfl⟩ dX8_spend_39
      · have i35 : iv p2 100 2147483647 := iv_nle1 c14 i13 kc_99 (by decide)
        refine lv_iconst (v := (-1)) hx hb dX8_spend_18 (by decide) ?_
        exact h_iret hQ hx hb hr hlocks rfl hK hI ⟨rfl, rfl⟩ dX8_spend_19
abbrev e_h_calm_X8 : List (Nat × Nat) := [(0, 0), (0, 1), (0, 3), (7, 5), (7, 6), (7, 7), (12, 999), (13, 999), (14, 999)]
set_option maxHeartbeats 4000000 in
set_option maxRecDepth 100000 in
theorem h_calm_X8 (l : Launch) (D : va_G) (g : Nat → ClassId) (σ : Nat → Option Nat) (Z : State → Heap → Prop) (hZ0 : hZ σ Z) (M : hM) (N : hN) (R : hR) (x : Nat) (g_x : σ x = some 8) (p1 : Int32) (p2 : Int32) : Met l yX8_calm wsX8_calm ({ frames := 3, cells := 0, slots := 0, locals := 82 }) (va_Pc [.ref x, .int p1, .int p2] (hPre D g σ Z M N R)) (hQi D g σ e_h_calm_X8 M (fun (r : Int32) (M1 : hM) (N1 : hN) (R1 : hR) => N = N1 ∧ R = R1)) 0 0 (hA σ) := by
  refine h_head (cc := cX8_calm) (maxL := 4) (ret := (some .int)) (by decide) rfl (Nat.le_of_ble_eq_true rfl) e_h_calm_X8 ?_
  intro p e s m below meth c ls Q ar hQ hx hb hr hlocks hml hown hts hK hE H locs hI hl
  have hown : s.vm.findClass RX8 = some m.cls := hown
  have hl : lv_has ls 4 [(0, .ref x), (1, .int p1), (2, .int p2)] := hl
  refine lv_aload_n hx hb dX8_calm_0 rfl (lv_at hl 0 rfl) ?_
  refine lv_iload_n hx hb dX8_calm_1 rfl (lv_at hl 1 rfl) ?_
  refine h_goi hI (by decide) (va_runV (As := [.int p1]) (rest := []) ⟨hx, hb, hml, hown, hts⟩ (h_isTenant_X8 l D g σ Z hZ0 M N R x g_x p1) (cwV 1 hts gX8_calm_X8_isTenant rfl rfl rfl (by decide +kernel) ⟨Nat.le_of_ble_eq_true rfl, Nat.le_of_ble_eq_true rfl⟩) (h_preV hZ0 hK hE hI g_x (by decide) rfl) rfl rfl hl.1 rfl (lv_room (Nat.le_of_ble_eq_true rfl)) dX8_calm_2 ⟨Nat.le_of_ble_eq_true rfl, Nat.le_of_ble_eq_true rfl⟩) (fun r1 M2 N3 R4 H locs q5 z_M2 hI => ?_)
  obtain ⟨rfl, rfl, rfl, i_r1, z6⟩ := q5
  refine lv_if_eq (tgt := 18) hx hb dX8_calm_5 (by decide) (fun c7 => ?_) (fun c7 => ?_)
  · have i8 : iv r1 0 0 := iv_eq1 c7 i_r1 kc_0
    refine lv_iconst (v := (-1)) hx hb dX8_calm_18 (by decide) ?_
    exact h_iret hQ hx hb hr hlocks rfl hK hI ⟨rfl, rfl⟩ dX8_calm_19
  · have i9 : iv p1 0 6 := z6 c7
    have i10 : iv r1 1 1 := iv_neL c7 i_r1 (by decide) (by decide)
    refine lv_iload_n hx hb dX8_calm_8 rfl (lv_at hl 2 rfl) ?_
    refine lv_if_lt (tgt := 18) hx hb dX8_calm_9 (by decide) (fun c11 => ?_) (fun c11 => ?_)
    · have i12 : iv p2 (-2147483648) (-1) := iv_lt1 c11 (iv_any p2) kc_0 (by decide)
      refine lv_iconst (v := (-1)) hx hb dX8_calm_18 (by decide) ?_
      exact h_iret hQ hx hb hr hlocks rfl hK hI ⟨rfl, rfl⟩ dX8_calm_19
    · have i13 : iv p2 0 2147483647 := iv_nlt1 c11 (iv_any p2) kc_0 (by decide)
      refine lv_iload_n hx hb dX8_calm_12 rfl (lv_at hl 2 rfl) ?_
      refine lv_bipush (v := 9) hx hb dX8_calm_13 (by decide) ?_
      refine lv_icmp_le (tgt := 20) hx hb dX8_calm_15 (by decide) (fun c14 => ?_) (fun c14 => ?_)
      · have i15 : iv p2 0 9 := iv_le1 c14 i13 kc_9 (by decide)
        refine lv_aload_n hx hb dX8_calm_20 rfl (lv_at hl 0 rfl) ?_
        refine h_getr hx hb hts iX8_calm_X8 hown hK hI g_x (by decide) rfl rfl 4 (by decide) rfl 0 rfl (hts (.fieldLink RX8 34 "CatLeases" "acts" "LCatLeases$Acts;") (List.mem_of_getElem? (i := 1) rfl)) (fun _ h9 => h9) dX8_calm_21 (fun a16 e_a16 g_a16 => ?_)
        refine h_gor hI (by decide) (va_runV (As := []) (rest := []) ⟨hx, hb, hml, hown, hts⟩ (h_current_X0 l D g σ Z hZ0 M N R a16 g_a16) (cwV 0 hts gX8_calm_X0_current rfl rfl rfl (by decide +kernel) ⟨Nat.le_of_ble_eq_true rfl, Nat.le_of_ble_eq_true rfl⟩) (h_preV hZ0 hK hE hI g_a16 (by decide) rfl) rfl rfl hl.1 rfl (lv_room (Nat.le_of_ble_eq_true rfl)) dX8_calm_24 ⟨Nat.le_of_ble_eq_true rfl, Nat.le_of_ble_eq_true rfl⟩) (fun a17 M18 N19 R20 H locs q21 z_M18 hI => ?_)
        obtain ⟨rfl, rfl, rfl, g_a17⟩ := q21
        refine h_getr hx hb hts iX8_calm_X7 hown hK hI g_a17 (by decide) rfl rfl 4 (by decide) rfl 14 rfl (hts (.fieldLink RX8 156 "CatLeases$State" "fidgets" "[I") (List.mem_of_getElem? (i := 2) rfl)) (fun _ h9 => h9) dX8_calm_27 (fun a22 e_a22 g_a22 => ?_)
        refine lv_iload_n hx hb dX8_calm_30 rfl (lv_at hl 1 rfl) ?_
        refine h_iald (j := p1.toNatClampNeg) (lo := (-2147483648)) (hi := 2147483647) hx hb hK hI g_a22 (by decide) rfl (iv_in (n := 7) i9 (by decide) (by decide)) rfl (iv_any _) dX8_calm_31 (fun v23 e_v23 i_v23 => ?_)
        refine lv_istore_n (lv' := [(3, .int v23), (0, .ref x), (1, .int p1), (2, .int p2)]) hx hb dX8_calm_32 rfl hl (by decide) rfl (fun ls hl => ?_)
        refine lv_iload_n hx hb dX8_calm_33 rfl (lv_at hl 0 rfl) ?_
        refine lv_iload_n hx hb dX8_calm_34 rfl (lv_at hl 3 rfl) ?_
        refine lv_icmp_ne (tgt := 40) hx hb dX8_calm_35 (by decide) (fun c24 => ?_) (fun c24 => ?_)
        · refine lv_aload_n hx hb dX8_calm_40 rfl (lv_at hl 1 rfl) ?_
          refine h_getr hx hb hts iX8_calm_X8 hown hK hI g_x (by decide) rfl rfl 4 (by decide) rfl 0 rfl (hts (.fieldLink RX8 34 "CatLeases" "acts" "LCatLeases$Acts;") (List.mem_of_getElem? (i := 1) rfl)) (fun _ h9 => h9) dX8_calm_41 (fun a25 e_a25 g_a25 => ?_)
          have q26 : a16 = a25 := (e_a16).trans e_a25.symm
          subst q26
          refine h_gor hI (by decide) (va_runV (As := []) (rest := []) ⟨hx, hb, hml, hown, hts⟩ (h_begin_X0 l D g σ Z hZ0 M N R a16 g_a16) (cwV 0 hts gX8_calm_X0_begin rfl rfl rfl (by decide +kernel) ⟨Nat.le_of_ble_eq_true rfl, Nat.le_of_ble_eq_true rfl⟩) (h_preV hZ0 hK hE hI g_a16 (by decide) rfl) rfl rfl hl.1 rfl (lv_room (Nat.le_of_ble_eq_true rfl)) dX8_calm_44 ⟨Nat.le_of_ble_eq_true rfl, Nat.le_of_ble_eq_true rfl⟩) (fun a27 M28 N29 R30 H locs q31 z_M28 hI => ?_)
          obtain ⟨rfl, rfl, g_a27⟩ := q31
          refine h_getr hx hb hts iX8_calm_X7 hown hK hI g_a27 (by decide) rfl rfl 4 (by decide) rfl 14 rfl (hts (.fieldLink RX8 156 "CatLeases$State" "fidgets" "[I") (List.mem_of_getElem? (i := 2) rfl)) (fun _ h9 => h9) dX8_calm_47 (fun a32 e_a32 g_a32 => ?_)
          refine lv_iload_n hx hb dX8_calm_50 rfl (lv_at hl 2 rfl) ?_
          refine lv_iload_n hx hb dX8_calm_51 rfl (lv_at hl 3 rfl) ?_
          refine h_iast (j := p1.toNatClampNeg) hx hb hK hI g_a32 (by decide) rfl (iv_in (n := 7) i9 (by decide) (by decide)) rfl (iv_any _) rfl dX8_calm_52 (fun M33 H locs e_M33 hI => ?_)
          refine lv_iload_n hx hb dX8_calm_53 rfl (lv_at hl 0 rfl) ?_
          exact h_iret hQ hx hb hr hlocks rfl hK hI ⟨rfl, rfl⟩ dX8_calm_54
        · have i34 : iv v23 0 9 := iv_eq1 c24 i_v23 i15
          refine lv_iconst (v := (-1)) hx hb dX8_calm_38 (by decide) ?_
          exact h_iret hQ hx hb hr hlocks rfl hK hI ⟨rfl, rfl⟩ dX8_calm_39
      · have i35 : iv p2 10 2147483647 := iv_nle1 c14 i13 kc_9 (by decide)
        refine lv_iconst (v := (-1)) hx hb dX8_calm_18 (by decide) ?_
        exact h_iret hQ hx hb hr hlocks rfl hK hI ⟨rfl, rfl⟩ dX8_calm_19
abbrev e_h_quarter_X8 : List (Nat × Nat) := [(0, 0), (0, 1), (0, 3), (7, 5), (7, 6), (7, 7), (12, 999), (13, 999), (14, 999), (18, 999)]
set_option maxHeartbeats 4000000 in
set_option maxRecDepth 100000 in
theorem h_quarter_X8 (l : Launch) (D : va_G) (g : Nat → ClassId) (σ : Nat → Option Nat) (Z : State → Heap → Prop) (hZ0 : hZ σ Z) (M : hM) (N : hN) (R : hR) (x : Nat) (g_x : σ x = some 8) : Met l yX8_quarter wsX8_quarter ({ frames := 5, cells := 0, slots := 0, locals := 117 }) (va_Pc [.ref x] (hPre D g σ Z M N R)) (hQi D g σ e_h_quarter_X8 M (fun (r : Int32) (M1 : hM) (N1 : hN) (R1 : hR) => N = N1 ∧ R = R1 ∧ iv r (-1) 255)) 0 0 (hA σ) := by
  refine h_head (cc := cX8_quarter) (maxL := 1) (ret := (some .int)) (by decide) rfl (Nat.le_of_ble_eq_true rfl) e_h_quarter_X8 ?_
  intro p e s m below meth c ls Q ar hQ hx hb hr hlocks hml hown hts hK hE H locs hI hl
  have hown : s.vm.findClass RX8 = some m.cls := hown
  have hl : lv_has ls 1 [(0, .ref x)] := hl
  refine lv_aload_n hx hb dX8_quarter_0 rfl (lv_at hl 0 rfl) ?_
  refine h_getr hx hb hts iX8_quarter_X8 hown hK hI g_x (by decide) rfl rfl 4 (by decide) rfl 0 rfl (hts (.fieldLink RX8 34 "CatLeases" "acts" "LCatLeases$Acts;") (List.mem_of_getElem? (i := 1) rfl)) (fun _ h9 => h9) dX8_quarter_1 (fun a1 e_a1 g_a1 => ?_)
  refine h_gor hI (by decide) (va_runV (As := []) (rest := []) ⟨hx, hb, hml, hown, hts⟩ (h_current_X0 l D g σ Z hZ0 M N R a1 g_a1) (cwV 0 hts gX8_quarter_X0_current rfl rfl rfl (by decide +kernel) ⟨Nat.le_of_ble_eq_true rfl, Nat.le_of_ble_eq_true rfl⟩) (h_preV hZ0 hK hE hI g_a1 (by decide) rfl) rfl rfl hl.1 rfl (lv_room (Nat.le_of_ble_eq_true rfl)) dX8_quarter_4 ⟨Nat.le_of_ble_eq_true rfl, Nat.le_of_ble_eq_true rfl⟩) (fun a2 M3 N4 R5 H locs q6 z_M3 hI => ?_)
  obtain ⟨rfl, rfl, rfl, g_a2⟩ := q6
  refine h_geti (lo := (-2147483648)) (hi := 2147483647) hx hb hts iX8_quarter_X7 hown hK hI g_a2 (by decide) rfl rfl 6 (by decide) rfl rfl (hts (.fieldLink RX8 176 "CatLeases$State" "quarters" "I") (List.mem_of_getElem? (i := 2) rfl)) (fun _ h9 => h9) dX8_quarter_7 (fun v7 e_v7 i_v7 => ?_)
  refine lv_sipush (v := 999) hx hb dX8_quarter_10 (by decide) ?_
  refine lv_icmp_lt (tgt := 18) hx hb dX8_quarter_13 (by decide) (fun c8 => ?_) (fun c8 => ?_)
  · have i9 : iv v7 (-2147483648) 998 := iv_lt1 c8 i_v7 kc_999 (by decide)
    refine lv_aload_n hx hb dX8_quarter_18 rfl (lv_at hl 0 rfl) ?_
    refine h_getr hx hb hts iX8_quarter_X8 hown hK hI g_x (by decide) rfl rfl 3 (by decide) rfl 4 rfl (hts (.fieldLink RX8 27 "CatLeases" "mews" "LCatLeases$Mews;") (List.mem_of_getElem? (i := 3) rfl)) (fun _ h9 => h9) dX8_quarter_19 (fun a10 e_a10 g_a10 => ?_)
    refine lv_aload_n hx hb dX8_quarter_22 rfl (lv_at hl 0 rfl) ?_
    refine h_getr hx hb hts iX8_quarter_X8 hown hK hI g_x (by decide) rfl rfl 4 (by decide) rfl 0 rfl (hts (.fieldLink RX8 34 "CatLeases" "acts" "LCatLeases$Acts;") (List.mem_of_getElem? (i := 1) rfl)) (fun _ h9 => h9) dX8_quarter_23 (fun a11 e_a11 g_a11 => ?_)
    have q12 : a1 = a11 := (e_a1).trans e_a11.symm
    subst q12
    refine h_gor hI (by decide) (va_runV (As := []) (rest := [.ref a10]) ⟨hx, hb, hml, hown, hts⟩ (h_begin_X0 l D g σ Z hZ0 M N R a1 g_a1) (cwV 0 hts gX8_quarter_X0_begin rfl rfl rfl (by decide +kernel) ⟨Nat.le_of_ble_eq_true rfl, Nat.le_of_ble_eq_true rfl⟩) (h_preV hZ0 hK hE hI g_a1 (by decide) rfl) rfl rfl hl.1 rfl (lv_room (Nat.le_of_ble_eq_true rfl)) dX8_quarter_26 ⟨Nat.le_of_ble_eq_true rfl, Nat.le_of_ble_eq_true rfl⟩) (fun a13 M14 N15 R16 H locs q17 z_M14 hI => ?_)
    obtain ⟨rfl, rfl, g_a13⟩ := q17
    refine h_goi hI (by decide) (va_runV (As := [.ref a13]) (rest := []) ⟨hx, hb, hml, hown, hts⟩ (h_pass_X4 l D g σ Z hZ0 M14 N R a10 g_a10 a13 g_a13) (cwV 1 hts gX8_quarter_X4_pass rfl rfl rfl (by decide +kernel) ⟨Nat.le_of_ble_eq_true rfl, Nat.le_of_ble_eq_true rfl⟩) (h_preV hZ0 hK hE hI g_a10 (by decide) rfl) rfl rfl hl.1 rfl (lv_room (Nat.le_of_ble_eq_true rfl)) dX8_quarter_29 ⟨Nat.le_of_ble_eq_true rfl, Nat.le_of_ble_eq_true rfl⟩) (fun r18 M19 N20 R21 H locs q22 z_M19 hI => ?_)
    obtain ⟨rfl, rfl, i_r18⟩ := q22
    exact h_iret hQ hx hb hr hlocks rfl hK hI ⟨rfl, rfl, (iv_w (lo' := (-1)) (hi' := 255) i_r18 (by decide) (by decide))⟩ dX8_quarter_32
  · have i23 : iv v7 999 2147483647 := iv_nlt1 c8 i_v7 kc_999 (by decide)
    refine lv_iconst (v := (-1)) hx hb dX8_quarter_16 (by decide) ?_
    exact h_iret hQ hx hb hr hlocks rfl hK hI ⟨rfl, rfl, (iv_w (lo' := (-1)) (hi' := 255) kc_m1 (by decide) (by decide))⟩ dX8_quarter_17
abbrev e_h_leave_X8 : List (Nat × Nat) := [(0, 0), (0, 1), (0, 3), (7, 5), (7, 6), (7, 7), (12, 999), (13, 999), (14, 999)]
set_option maxHeartbeats 4000000 in
set_option maxRecDepth 100000 in
theorem h_leave_X8 (l : Launch) (D : va_G) (g : Nat → ClassId) (σ : Nat → Option Nat) (Z : State → Heap → Prop) (hZ0 : hZ σ Z) (M : hM) (N : hN) (R : hR) (x : Nat) (g_x : σ x = some 8) (p1 : Int32) : Met l yX8_leave wsX8_leave ({ frames := 3, cells := 0, slots := 0, locals := 82 }) (va_Pc [.ref x, .int p1] (hPre D g σ Z M N R)) (hQi D g σ e_h_leave_X8 M (fun (r : Int32) (M1 : hM) (N1 : hN) (R1 : hR) => N = N1 ∧ R = R1 ∧ iv r (-1) 7)) 0 0 (hA σ) := by
  refine h_head (cc := cX8_leave) (maxL := 4) (ret := (some .int)) (by decide) rfl (Nat.le_of_ble_eq_true rfl) e_h_leave_X8 ?_
  intro p e s m below meth c ls Q ar hQ hx hb hr hlocks hml hown hts hK hE H locs hI hl
  have hown : s.vm.findClass RX8 = some m.cls := hown
  have hl : lv_has ls 4 [(0, .ref x), (1, .int p1)] := hl
  refine lv_aload_n hx hb dX8_leave_0 rfl (lv_at hl 0 rfl) ?_
  refine lv_iload_n hx hb dX8_leave_1 rfl (lv_at hl 1 rfl) ?_
  refine h_goi hI (by decide) (va_runV (As := [.int p1]) (rest := []) ⟨hx, hb, hml, hown, hts⟩ (h_isHoused_X8 l D g σ Z hZ0 M N R x g_x p1) (cwV 1 hts gX8_leave_X8_isHoused rfl rfl rfl (by decide +kernel) ⟨Nat.le_of_ble_eq_true rfl, Nat.le_of_ble_eq_true rfl⟩) (h_preV hZ0 hK hE hI g_x (by decide) rfl) rfl rfl hl.1 rfl (lv_room (Nat.le_of_ble_eq_true rfl)) dX8_leave_2 ⟨Nat.le_of_ble_eq_true rfl, Nat.le_of_ble_eq_true rfl⟩) (fun r1 M2 N3 R4 H locs q5 z_M2 hI => ?_)
  obtain ⟨rfl, rfl, rfl, i_r1, z6⟩ := q5
  refine lv_if_ne (tgt := 10) hx hb dX8_leave_5 (by decide) (fun c7 => ?_) (fun c7 => ?_)
  · have i8 : iv p1 0 6 := z6 c7
    have i9 : iv r1 1 1 := iv_neL c7 i_r1 (by decide) (by decide)
    refine lv_aload_n hx hb dX8_leave_10 rfl (lv_at hl 0 rfl) ?_
    refine h_getr hx hb hts iX8_leave_X8 hown hK hI g_x (by decide) rfl rfl 4 (by decide) rfl 0 rfl (hts (.fieldLink RX8 34 "CatLeases" "acts" "LCatLeases$Acts;") (List.mem_of_getElem? (i := 1) rfl)) (fun _ h9 => h9) dX8_leave_11 (fun a10 e_a10 g_a10 => ?_)
    refine h_gor hI (by decide) (va_runV (As := []) (rest := []) ⟨hx, hb, hml, hown, hts⟩ (h_begin_X0 l D g σ Z hZ0 M N R a10 g_a10) (cwV 0 hts gX8_leave_X0_begin rfl rfl rfl (by decide +kernel) ⟨Nat.le_of_ble_eq_true rfl, Nat.le_of_ble_eq_true rfl⟩) (h_preV hZ0 hK hE hI g_a10 (by decide) rfl) rfl rfl hl.1 rfl (lv_room (Nat.le_of_ble_eq_true rfl)) dX8_leave_14 ⟨Nat.le_of_ble_eq_true rfl, Nat.le_of_ble_eq_true rfl⟩) (fun a11 M12 N13 R14 H locs q15 z_M12 hI => ?_)
    obtain ⟨rfl, rfl, g_a11⟩ := q15
    refine lv_astore_n (lv' := [(2, .ref a11), (0, .ref x), (1, .int p1)]) hx hb dX8_leave_17 rfl hl (by decide) rfl (fun ls hl => ?_)
    refine lv_aload_n hx hb dX8_leave_18 rfl (lv_at hl 0 rfl) ?_
    refine h_getr hx hb hts iX8_leave_X7 hown hK hI g_a11 (by decide) rfl rfl 1 (by decide) rfl 13 rfl (hts (.fieldLink RX8 147 "CatLeases$State" "places" "[I") (List.mem_of_getElem? (i := 2) rfl)) (fun _ h9 => h9) dX8_leave_19 (fun a16 e_a16 g_a16 => ?_)
    refine lv_iload_n hx hb dX8_leave_22 rfl (lv_at hl 2 rfl) ?_
    refine h_iald (j := p1.toNatClampNeg) (lo := (-1)) (hi := 7) hx hb hK hI g_a16 (by decide) rfl (iv_in (n := 7) i8 (by decide) (by decide)) rfl (hI.iv1 (n := 7) g_a16 rfl (in_lt (iv_in (n := 7) i8 (by decide) (by decide))) rfl) dX8_leave_23 (fun v17 e_v17 i_v17 => ?_)
    refine lv_istore_n (lv' := [(3, .int v17), (2, .ref a11), (0, .ref x), (1, .int p1)]) hx hb dX8_leave_24 rfl hl (by decide) rfl (fun ls hl => ?_)
    refine lv_aload_n hx hb dX8_leave_25 rfl (lv_at hl 1 rfl) ?_
    refine lv_iload_n hx hb dX8_leave_26 rfl (lv_at hl 3 rfl) ?_
    refine lv_iconst (v := (-1)) hx hb dX8_leave_27 (by decide) ?_
    refine h_gov hI (by decide) (va_runV (As := [.int p1, .int (-1 : Int32)]) (rest := []) ⟨hx, hb, hml, hown, hts⟩ (h_place_X7 l D g σ Z hZ0 M12 N R a11 g_a11 p1 (-1 : Int32) (iv_w (lo' := (-1)) (hi' := 7) kc_m1 (by decide) (by decide))) (cwV 2 hts gX8_leave_X7_place rfl rfl rfl (by decide +kernel) ⟨Nat.le_of_ble_eq_true rfl, Nat.le_of_ble_eq_true rfl⟩) (h_preV hZ0 hK hE hI g_a11 (by decide) rfl) rfl rfl hl.1 rfl (lv_room (Nat.le_of_ble_eq_true rfl)) dX8_leave_28 ⟨Nat.le_of_ble_eq_true rfl, Nat.le_of_ble_eq_true rfl⟩) (fun M19 N20 R21 H locs q22 z_M19 hI => ?_)
    obtain ⟨rfl, rfl⟩ := q22
    refine lv_iload_n hx hb dX8_leave_31 rfl (lv_at hl 0 rfl) ?_
    exact h_iret hQ hx hb hr hlocks rfl hK hI ⟨rfl, rfl, i_v17⟩ dX8_leave_32
  · have i23 : iv r1 0 0 := iv_eq1 c7 i_r1 kc_0
    refine lv_iconst (v := (-1)) hx hb dX8_leave_8 (by decide) ?_
    exact h_iret hQ hx hb hr hlocks rfl hK hI ⟨rfl, rfl, (iv_w (lo' := (-1)) (hi' := 7) kc_m1 (by decide) (by decide))⟩ dX8_leave_9
abbrev e_h_undo_X8 : List (Nat × Nat) := [(0, 0), (0, 1), (0, 3)]
set_option maxHeartbeats 4000000 in
set_option maxRecDepth 100000 in
theorem h_undo_X8 (l : Launch) (D : va_G) (g : Nat → ClassId) (σ : Nat → Option Nat) (Z : State → Heap → Prop) (hZ0 : hZ σ Z) (M : hM) (N : hN) (R : hR) (x : Nat) (g_x : σ x = some 8) : Met l yX8_undo wsX8_undo ({ frames := 1, cells := 0, slots := 0, locals := 20 }) (va_Pc [.ref x] (hPre D g σ Z M N R)) (hQi D g σ e_h_undo_X8 M (fun (r : Int32) (M1 : hM) (N1 : hN) (R1 : hR) => N = N1 ∧ R = R1 ∧ iv r 0 1)) 0 0 (hA σ) := by
  refine h_head (cc := cX8_undo) (maxL := 1) (ret := (some .boolean)) (by decide) rfl (Nat.le_of_ble_eq_true rfl) e_h_undo_X8 ?_
  intro p e s m below meth c ls Q ar hQ hx hb hr hlocks hml hown hts hK hE H locs hI hl
  have hown : s.vm.findClass RX8 = some m.cls := hown
  have hl : lv_has ls 1 [(0, .ref x)] := hl
  refine lv_aload_n hx hb dX8_undo_0 rfl (lv_at hl 0 rfl) ?_
  refine h_getr hx hb hts iX8_undo_X8 hown hK hI g_x (by decide) rfl rfl 4 (by decide) rfl 0 rfl (hts (.fieldLink RX8 34 "CatLeases" "acts" "LCatLeases$Acts;") (List.mem_of_getElem? (i := 1) rfl)) (fun _ h9 => h9) dX8_undo_1 (fun a1 e_a1 g_a1 => ?_)
  refine h_goi hI (by decide) (va_runV (As := []) (rest := []) ⟨hx, hb, hml, hown, hts⟩ (h_stepBack_X0 l D g σ Z hZ0 M N R a1 g_a1) (cwV 0 hts gX8_undo_X0_stepBack rfl rfl rfl (by decide +kernel) ⟨Nat.le_of_ble_eq_true rfl, Nat.le_of_ble_eq_true rfl⟩) (h_preV hZ0 hK hE hI g_a1 (by decide) rfl) rfl rfl hl.1 rfl (lv_room (Nat.le_of_ble_eq_true rfl)) dX8_undo_4 ⟨Nat.le_of_ble_eq_true rfl, Nat.le_of_ble_eq_true rfl⟩) (fun r2 M3 N4 R5 H locs q6 z_M3 hI => ?_)
  obtain ⟨rfl, rfl, i_r2⟩ := q6
  exact h_iret hQ hx hb hr hlocks (nar_z i_r2) hK hI ⟨rfl, rfl, i_r2⟩ dX8_undo_7
abbrev e_h_redo_X8 : List (Nat × Nat) := [(0, 0), (0, 1), (0, 3)]
set_option maxHeartbeats 4000000 in
set_option maxRecDepth 100000 in
theorem h_redo_X8 (l : Launch) (D : va_G) (g : Nat → ClassId) (σ : Nat → Option Nat) (Z : State → Heap → Prop) (hZ0 : hZ σ Z) (M : hM) (N : hN) (R : hR) (x : Nat) (g_x : σ x = some 8) : Met l yX8_redo wsX8_redo ({ frames := 1, cells := 0, slots := 0, locals := 20 }) (va_Pc [.ref x] (hPre D g σ Z M N R)) (hQi D g σ e_h_redo_X8 M (fun (r : Int32) (M1 : hM) (N1 : hN) (R1 : hR) => N = N1 ∧ R = R1 ∧ iv r 0 1)) 0 0 (hA σ) := by
  refine h_head (cc := cX8_redo) (maxL := 1) (ret := (some .boolean)) (by decide) rfl (Nat.le_of_ble_eq_true rfl) e_h_redo_X8 ?_
  intro p e s m below meth c ls Q ar hQ hx hb hr hlocks hml hown hts hK hE H locs hI hl
  have hown : s.vm.findClass RX8 = some m.cls := hown
  have hl : lv_has ls 1 [(0, .ref x)] := hl
  refine lv_aload_n hx hb dX8_redo_0 rfl (lv_at hl 0 rfl) ?_
  refine h_getr hx hb hts iX8_redo_X8 hown hK hI g_x (by decide) rfl rfl 4 (by decide) rfl 0 rfl (hts (.fieldLink RX8 34 "CatLeases" "acts" "LCatLeases$Acts;") (List.mem_of_getElem? (i := 1) rfl)) (fun _ h9 => h9) dX8_redo_1 (fun a1 e_a1 g_a1 => ?_)
  refine h_goi hI (by decide) (va_runV (As := []) (rest := []) ⟨hx, hb, hml, hown, hts⟩ (h_stepForth_X0 l D g σ Z hZ0 M N R a1 g_a1) (cwV 0 hts gX8_redo_X0_stepForth rfl rfl rfl (by decide +kernel) ⟨Nat.le_of_ble_eq_true rfl, Nat.le_of_ble_eq_true rfl⟩) (h_preV hZ0 hK hE hI g_a1 (by decide) rfl) rfl rfl hl.1 rfl (lv_room (Nat.le_of_ble_eq_true rfl)) dX8_redo_4 ⟨Nat.le_of_ble_eq_true rfl, Nat.le_of_ble_eq_true rfl⟩) (fun r2 M3 N4 R5 H locs q6 z_M3 hI => ?_)
  obtain ⟨rfl, rfl, i_r2⟩ := q6
  exact h_iret hQ hx hb hr hlocks (nar_z i_r2) hK hI ⟨rfl, rfl, i_r2⟩ dX8_redo_7
abbrev e_h_outCount_X8 : List (Nat × Nat) := [(14, 999), (18, 999)]
set_option maxHeartbeats 4000000 in
set_option maxRecDepth 100000 in
theorem h_outCount_X8 (l : Launch) (D : va_G) (g : Nat → ClassId) (σ : Nat → Option Nat) (Z : State → Heap → Prop) (hZ0 : hZ σ Z) (M : hM) (N : hN) (R : hR) (x : Nat) (g_x : σ x = some 8) (b : Nat) (g_b : σ b = some 7) (p2 : Int32) (h_p2 : iv p2 0 60) : Met l yX8_outCount wsX8_outCount ({ frames := 4, cells := 0, slots := 0, locals := 93 }) (va_Pc [.ref x, .ref b, .int p2] (hPre D g σ Z M N R)) (hQi D g σ e_h_outCount_X8 M (fun (r : Int32) (M1 : hM) (N1 : hN) (R1 : hR) => N = N1 ∧ R = R1)) 0 0 (hA σ) := by
  refine h_head (cc := cX8_outCount) (maxL := 5) (ret := (some .int)) (by decide) rfl (Nat.le_of_ble_eq_true rfl) e_h_outCount_X8 ?_
  intro p e s m below meth c ls Q ar hQ hx hb hr hlocks hml hown hts hK hE H locs hI hl
  have hown : s.vm.findClass RX8 = some m.cls := hown
  have hl : lv_has ls 5 [(0, .ref x), (1, .ref b), (2, .int p2)] := hl
  refine lv_iconst (v := 0) hx hb dX8_outCount_0 (by decide) ?_
  refine lv_istore_n (lv' := [(3, .int (0 : Int32)), (0, .ref x), (1, .ref b), (2, .int p2)]) hx hb dX8_outCount_1 rfl hl (by decide) rfl (fun ls hl => ?_)
  refine lv_iconst (v := 0) hx hb dX8_outCount_2 (by decide) ?_
  have J5 : ∀ (n : Nat) (M_5 : hM) (v3_5 : Int32) (v4_5 : Int32) (H : Heap) (locs : List Loc) (ls : Array Slot), kI D g σ e_h_outCount_X8 M s.heap M_5 N R H locs → lv_has ls 5 [(0, .ref x), (1, .ref b), (2, .int p2), (3, .int v3_5), (4, .int v4_5)] → iv v4_5 0 7 → 8 ≤ v4_5.toInt + (n : Int) → W p l e (headSpec wsX8_outCount ({ frames := 4, cells := 0, slots := 0, locals := 93 })).room s m ar below meth c H locs 0 0 Q (F0 m 5 ls []) := by
    intro n
    induction n with
    | zero => intro M_5 v3_5 v4_5 H locs ls hI hl i_v4_5 hn; exfalso; have hz := i_v4_5; simp only [iv] at hz; omega
    | succ n ih5 =>
      intro M_5 v3_5 v4_5 H locs ls hI hl i_v4_5 hn5
      refine lv_iload hx hb dX8_outCount_5 (lv_at hl 4 rfl) ?_
      refine lv_aload_n hx hb dX8_outCount_7 rfl (lv_at hl 0 rfl) ?_
      refine h_getr hx hb hts iX8_outCount_X8 hown hK hI g_x (by decide) rfl rfl 3 (by decide) rfl 4 rfl (hts (.fieldLink RX8 27 "CatLeases" "mews" "LCatLeases$Mews;") (List.mem_of_getElem? (i := 1) rfl)) (fun _ h9 => h9) dX8_outCount_8 (fun a1 e_a1 g_a1 => ?_)
      refine h_geti (lo := 0) (hi := 7) hx hb hts iX8_outCount_X4 hown hK hI g_a1 (by decide) rfl rfl 2 (by decide) rfl rfl (hts (.fieldLink RX8 102 "CatLeases$Mews" "tenants" "I") (List.mem_of_getElem? (i := 2) rfl)) (fun _ h9 => h9) dX8_outCount_11 (fun v2 e_v2 i_v2 => ?_)
      refine lv_icmp_ge (tgt := 41) hx hb dX8_outCount_14 (by decide) (fun c3 => ?_) (fun c3 => ?_)
      · refine lv_iload_n hx hb dX8_outCount_41 rfl (lv_at hl 3 rfl) ?_
        exact h_iret hQ hx hb hr hlocks rfl hK hI ⟨rfl, rfl⟩ dX8_outCount_42
      · have i4 : iv v2 1 7 := iv_nle1 c3 i_v2 i_v4_5 (by decide)
        have i5 : iv v4_5 0 6 := iv_nle2 c3 i_v2 i_v4_5 (by decide)
        refine lv_aload_n hx hb dX8_outCount_17 rfl (lv_at hl 0 rfl) ?_
        refine h_getr hx hb hts iX8_outCount_X8 hown hK hI g_x (by decide) rfl rfl 3 (by decide) rfl 4 rfl (hts (.fieldLink RX8 27 "CatLeases" "mews" "LCatLeases$Mews;") (List.mem_of_getElem? (i := 1) rfl)) (fun _ h9 => h9) dX8_outCount_18 (fun a6 e_a6 g_a6 => ?_)
        have q7 : a1 = a6 := (e_a1).trans e_a6.symm
        subst q7
        refine lv_aload_n hx hb dX8_outCount_21 rfl (lv_at hl 1 rfl) ?_
        refine lv_iload hx hb dX8_outCount_22 (lv_at hl 4 rfl) ?_
        refine lv_iload_n hx hb dX8_outCount_24 rfl (lv_at hl 2 rfl) ?_
        refine h_goi hI (by decide) (va_runV (As := [.ref b, .int v4_5, .int p2]) (rest := []) ⟨hx, hb, hml, hown, hts⟩ (h_outBehind_X4 l D g σ Z hZ0 M_5 N R a1 g_a1 b g_b v4_5 i5 p2 (iv_w (lo' := 0) (hi' := 99) h_p2 (by decide) (by decide))) (cwV 3 hts gX8_outCount_X4_outBehind rfl rfl rfl (by decide +kernel) ⟨Nat.le_of_ble_eq_true rfl, Nat.le_of_ble_eq_true rfl⟩) (h_preV hZ0 hK hE hI g_a1 (by decide) rfl) rfl rfl hl.1 rfl (lv_room (Nat.le_of_ble_eq_true rfl)) dX8_outCount_25 ⟨Nat.le_of_ble_eq_true rfl, Nat.le_of_ble_eq_true rfl⟩) (fun r8 M9 N10 R11 H locs q12 z_M9 hI => ?_)
        obtain ⟨rfl, rfl, i_r8⟩ := q12
        refine lv_iload_n hx hb dX8_outCount_28 rfl (lv_at hl 2 rfl) ?_
        have J35 : ∀ (v3_35 : Int32) (H : Heap) (locs : List Loc) (ls : Array Slot), kI D g σ e_h_outCount_X8 M s.heap M9 N R H locs → lv_has ls 5 [(0, .ref x), (1, .ref b), (2, .int p2), (3, .int v3_35), (4, .int v4_5)] → W p l e (headSpec wsX8_outCount ({ frames := 4, cells := 0, slots := 0, locals := 93 })).room s m ar below meth c H locs 0 0 Q (F0 m 35 ls []) := by
          intro v3_35 H locs ls hI hl
          obtain ⟨v13, e_v13⟩ : ∃ z : Int32, z = v4_5 + Int32.ofInt 1 := ⟨_, rfl⟩
          have i_v13 : iv v13 1 7 := by rw [e_v13]; exact iv_add i5 (ki_1) (by decide) (by decide) (by decide) (by decide)
          refine lv_iinc (v := v13) (lv' := [(4, .int v13), (0, .ref x), (1, .ref b), (2, .int p2), (3, .int v3_35)]) hx hb dX8_outCount_35 hl (k := 4) rfl e_v13.symm (by decide) rfl (fun ls hl => ?_)
          refine lv_goto (tgt := 5) hx hb dX8_outCount_38 (by decide) ?_
          exact ih5 M9 v3_35 v13 H locs ls hI (lv_sub hl [1, 2, 3, 4, 0] rfl) (iv_w (lo' := 0) (hi' := 7) i_v13 (by decide) (by decide)) (by have h9 := (h_inc e_v13 i5 ki_1 (by decide) (by decide)); omega)
        refine lv_icmp_gt (tgt := 35) hx hb dX8_outCount_29 (by decide) (fun c14 => ?_) (fun c14 => ?_)
        · have i15 : iv r8 1 100 := iv_lt2 c14 h_p2 i_r8 (by decide)
          exact J35 v3_5 H locs ls hI hl
        · have i16 : iv r8 0 60 := iv_nlt2 c14 h_p2 i_r8 (by decide)
          obtain ⟨v17, e_v17⟩ : ∃ z : Int32, z = v3_5 + Int32.ofInt 1 := ⟨_, rfl⟩
          refine lv_iinc (v := v17) (lv' := [(3, .int v17), (0, .ref x), (1, .ref b), (2, .int p2), (4, .int v4_5)]) hx hb dX8_outCount_32 hl (k := 3) rfl e_v17.symm (by decide) rfl (fun ls hl => ?_)
          exact J35 v17 H locs ls hI (lv_sub hl [1, 2, 3, 0, 4] rfl)
  refine lv_istore (lv' := [(4, .int (0 : Int32)), (3, .int (0 : Int32)), (0, .ref x), (1, .ref b), (2, .int p2)]) hx hb dX8_outCount_3 hl (by decide) rfl (fun ls hl => ?_)
  exact J5 8 M (0 : Int32) (0 : Int32) H locs ls hI (lv_sub hl [2, 3, 4, 1, 0] rfl) (iv_w (lo' := 0) (hi' := 7) kc_0 (by decide) (by decide)) (by have h9 := kc_0; simp only [iv] at h9; omega)
abbrev e_h_timeIn_X8 : List (Nat × Nat) := [(7, 5), (7, 6), (7, 7), (12, 999), (13, 999), (14, 999), (18, 999)]
set_option maxHeartbeats 4000000 in
set_option maxRecDepth 100000 in
theorem h_timeIn_X8 (l : Launch) (D : va_G) (g : Nat → ClassId) (σ : Nat → Option Nat) (Z : State → Heap → Prop) (hZ0 : hZ σ Z) (M : hM) (N : hN) (R : hR) (x : Nat) (g_x : σ x = some 8) (p1 : Int32) (h_p1 : iv p1 0 6) (p2 : Int32) (h_p2 : iv p2 0 7) : Met l yX8_timeIn wsX8_timeIn ({ frames := 4, cells := 0, slots := 0, locals := 93 }) (va_Pc [.ref x, .int p1, .int p2] (hPre D g σ Z M N R)) (hQi D g σ e_h_timeIn_X8 M (fun (r : Int32) (M1 : hM) (N1 : hN) (R1 : hR) => N = N1 ∧ R = R1 ∧ iv r (-1) 99)) 0 0 (hA σ) := by
  refine h_head (cc := cX8_timeIn) (maxL := 5) (ret := (some .int)) (by decide) rfl (Nat.le_of_ble_eq_true rfl) e_h_timeIn_X8 ?_
  intro p e s m below meth c ls Q ar hQ hx hb hr hlocks hml hown hts hK hE H locs hI hl
  have hown : s.vm.findClass RX8 = some m.cls := hown
  have hl : lv_has ls 5 [(0, .ref x), (1, .int p1), (2, .int p2)] := hl
  refine lv_aload_n hx hb dX8_timeIn_0 rfl (lv_at hl 0 rfl) ?_
  refine h_getr hx hb hts iX8_timeIn_X8 hown hK hI g_x (by decide) rfl rfl 4 (by decide) rfl 0 rfl (hts (.fieldLink RX8 34 "CatLeases" "acts" "LCatLeases$Acts;") (List.mem_of_getElem? (i := 1) rfl)) (fun _ h9 => h9) dX8_timeIn_1 (fun a1 e_a1 g_a1 => ?_)
  refine h_gor hI (by decide) (va_runV (As := []) (rest := []) ⟨hx, hb, hml, hown, hts⟩ (h_current_X0 l D g σ Z hZ0 M N R a1 g_a1) (cwV 0 hts gX8_timeIn_X0_current rfl rfl rfl (by decide +kernel) ⟨Nat.le_of_ble_eq_true rfl, Nat.le_of_ble_eq_true rfl⟩) (h_preV hZ0 hK hE hI g_a1 (by decide) rfl) rfl rfl hl.1 rfl (lv_room (Nat.le_of_ble_eq_true rfl)) dX8_timeIn_4 ⟨Nat.le_of_ble_eq_true rfl, Nat.le_of_ble_eq_true rfl⟩) (fun a2 M3 N4 R5 H locs q6 z_M3 hI => ?_)
  obtain ⟨rfl, rfl, rfl, g_a2⟩ := q6
  refine lv_astore_n (lv' := [(3, .ref a2), (0, .ref x), (1, .int p1), (2, .int p2)]) hx hb dX8_timeIn_7 rfl hl (by decide) rfl (fun ls hl => ?_)
  refine lv_aload_n hx hb dX8_timeIn_8 rfl (lv_at hl 1 rfl) ?_
  refine h_getr hx hb hts iX8_timeIn_X8 hown hK hI g_x (by decide) rfl rfl 3 (by decide) rfl 4 rfl (hts (.fieldLink RX8 27 "CatLeases" "mews" "LCatLeases$Mews;") (List.mem_of_getElem? (i := 2) rfl)) (fun _ h9 => h9) dX8_timeIn_9 (fun a7 e_a7 g_a7 => ?_)
  refine lv_aload_n hx hb dX8_timeIn_12 rfl (lv_at hl 0 rfl) ?_
  refine lv_iload_n hx hb dX8_timeIn_13 rfl (lv_at hl 3 rfl) ?_
  refine h_goi hI (by decide) (va_runV (As := [.ref a2, .int p2]) (rest := []) ⟨hx, hb, hml, hown, hts⟩ (h_whoIsIn_X4 l D g σ Z hZ0 M N R a7 g_a7 a2 g_a2 p2) (cwV 2 hts gX8_timeIn_X4_whoIsIn rfl rfl rfl (by decide +kernel) ⟨Nat.le_of_ble_eq_true rfl, Nat.le_of_ble_eq_true rfl⟩) (h_preV hZ0 hK hE hI g_a7 (by decide) rfl) rfl rfl hl.1 rfl (lv_room (Nat.le_of_ble_eq_true rfl)) dX8_timeIn_14 ⟨Nat.le_of_ble_eq_true rfl, Nat.le_of_ble_eq_true rfl⟩) (fun r8 M9 N10 R11 H locs q12 z_M9 hI => ?_)
  obtain ⟨rfl, rfl, rfl, i_r8⟩ := q12
  refine lv_istore (lv' := [(4, .int r8), (3, .ref a2), (0, .ref x), (1, .int p1), (2, .int p2)]) hx hb dX8_timeIn_17 hl (by decide) rfl (fun ls hl => ?_)
  refine lv_iload hx hb dX8_timeIn_19 (lv_at hl 0 rfl) ?_
  refine lv_iconst (v := (-1)) hx hb dX8_timeIn_21 (by decide) ?_
  have J33 : ∀ (H : Heap) (locs : List Loc) (ls : Array Slot), kI D g σ e_h_timeIn_X8 M s.heap M N R H locs → lv_has ls 5 [(0, .ref x), (1, .int p1), (2, .int p2), (3, .ref a2), (4, .int r8)] → W p l e (headSpec wsX8_timeIn ({ frames := 4, cells := 0, slots := 0, locals := 93 })).room s m ar below meth c H locs 0 0 Q (F0 m 33 ls []) := by
    intro H locs ls hI hl
    refine lv_aload_n hx hb dX8_timeIn_33 rfl (lv_at hl 0 rfl) ?_
    refine h_getr hx hb hts iX8_timeIn_X8 hown hK hI g_x (by decide) rfl rfl 5 (by decide) rfl 7 rfl (hts (.fieldLink RX8 41 "CatLeases" "ahead" "LCatLeases$State;") (List.mem_of_getElem? (i := 3) rfl)) (fun _ h9 => h9) dX8_timeIn_34 (fun a13 e_a13 g_a13 => ?_)
    refine lv_aload_n hx hb dX8_timeIn_37 rfl (lv_at hl 3 rfl) ?_
    refine h_gov hI (by decide) (va_runV (As := [.ref a2]) (rest := []) ⟨hx, hb, hml, hown, hts⟩ (h_copyOf_X7 l D g σ Z hZ0 M N R a13 g_a13 a2 g_a2) (cwV 1 hts gX8_timeIn_X7_copyOf rfl rfl rfl (by decide +kernel) ⟨Nat.le_of_ble_eq_true rfl, Nat.le_of_ble_eq_true rfl⟩) (h_preV hZ0 hK hE hI g_a13 (by decide) rfl) rfl rfl hl.1 rfl (lv_room (Nat.le_of_ble_eq_true rfl)) dX8_timeIn_38 ⟨Nat.le_of_ble_eq_true rfl, Nat.le_of_ble_eq_true rfl⟩) (fun M15 N16 R17 H locs q18 z_M15 hI => ?_)
    obtain ⟨rfl, rfl⟩ := q18
    refine lv_iload hx hb dX8_timeIn_41 (lv_at hl 4 rfl) ?_
    refine lv_iconst (v := (-1)) hx hb dX8_timeIn_43 (by decide) ?_
    have J56 : ∀ (M_56 : hM) (H : Heap) (locs : List Loc) (ls : Array Slot), kI D g σ e_h_timeIn_X8 M s.heap M_56 N R H locs → lv_has ls 5 [(0, .ref x), (1, .int p1)] → W p l e (headSpec wsX8_timeIn ({ frames := 4, cells := 0, slots := 0, locals := 93 })).room s m ar below meth c H locs 0 0 Q (F0 m 56 ls []) := by
      intro M_56 H locs ls hI hl
      refine lv_bipush (v := 99) hx hb dX8_timeIn_56 (by decide) ?_
      refine lv_aload_n hx hb dX8_timeIn_58 rfl (lv_at hl 0 rfl) ?_
      refine h_getr hx hb hts iX8_timeIn_X8 hown hK hI g_x (by decide) rfl rfl 3 (by decide) rfl 4 rfl (hts (.fieldLink RX8 27 "CatLeases" "mews" "LCatLeases$Mews;") (List.mem_of_getElem? (i := 2) rfl)) (fun _ h9 => h9) dX8_timeIn_59 (fun a19 e_a19 g_a19 => ?_)
      have q20 : a7 = a19 := (e_a7).trans e_a19.symm
      subst q20
      refine lv_aload_n hx hb dX8_timeIn_62 rfl (lv_at hl 0 rfl) ?_
      refine h_getr hx hb hts iX8_timeIn_X8 hown hK hI g_x (by decide) rfl rfl 5 (by decide) rfl 7 rfl (hts (.fieldLink RX8 41 "CatLeases" "ahead" "LCatLeases$State;") (List.mem_of_getElem? (i := 3) rfl)) (fun _ h9 => h9) dX8_timeIn_63 (fun a21 e_a21 g_a21 => ?_)
      have q22 : a13 = a21 := (e_a13).trans e_a21.symm
      subst q22
      refine lv_iload_n hx hb dX8_timeIn_66 rfl (lv_at hl 1 rfl) ?_
      refine lv_bipush (v := 99) hx hb dX8_timeIn_67 (by decide) ?_
      refine h_goi hI (by decide) (va_runV (As := [.ref a13, .int p1, .int (99 : Int32)]) (rest := [.int (99 : Int32)]) ⟨hx, hb, hml, hown, hts⟩ (h_outBehind_X4 l D g σ Z hZ0 M_56 N R a7 g_a7 a13 g_a13 p1 h_p1 (99 : Int32) (iv_w (lo' := 0) (hi' := 99) kc_99 (by decide) (by decide))) (cwV 3 hts gX8_timeIn_X4_outBehind rfl rfl rfl (by decide +kernel) ⟨Nat.le_of_ble_eq_true rfl, Nat.le_of_ble_eq_true rfl⟩) (h_preV hZ0 hK hE hI g_a7 (by decide) rfl) rfl rfl hl.1 rfl (lv_room (Nat.le_of_ble_eq_true rfl)) dX8_timeIn_69 ⟨Nat.le_of_ble_eq_true rfl, Nat.le_of_ble_eq_true rfl⟩) (fun r23 M24 N25 R26 H locs q27 z_M24 hI => ?_)
      obtain ⟨rfl, rfl, i_r23⟩ := q27
      refine va_mmin hx hb (hml.trans hl.1.symm) hown (hts (.methodLink RX8 246 Lib.Math.min.name) (List.mem_of_getElem? (i := 4) rfl)) (hts (.static Lib.Math.min.name) (List.mem_of_getElem? (i := 5) rfl)) (hts (.initialized "java/lang/Math") (List.mem_of_getElem? (i := 6) rfl)) (hts (.code Lib.Math.min.name Lib.Math.min.code 2 (some .int)) (List.mem_of_getElem? (i := 7) rfl)) (Nat.le_of_ble_eq_true rfl) (Nat.le_of_ble_eq_true rfl) (Nat.le_of_ble_eq_true rfl) (Nat.le_of_ble_eq_true rfl) dX8_timeIn_72 ?_
      refine h_nm (lo := 0) (hi := 99) (iv_min kc_99 i_r23 (by decide) (by decide) (by decide)) (fun v28 e_v28 i_v28 => ?_)
      exact h_iret hQ hx hb hr hlocks rfl hK hI ⟨rfl, rfl, (iv_w (lo' := (-1)) (hi' := 99) i_v28 (by decide) (by decide))⟩ dX8_timeIn_75
    refine lv_icmp_ne (tgt := 56) hx hb dX8_timeIn_44 (by decide) (fun c29 => ?_) (fun c29 => ?_)
    · have i30 : iv r8 0 6 := iv_neL c29 i_r8 (by decide) (by decide)
      exact J56 M15 H locs ls hI (lv_sub hl [0, 1] rfl)
    · have i31 : iv r8 (-1) (-1) := iv_eq1 c29 i_r8 kc_m1
      refine lv_aload_n hx hb dX8_timeIn_47 rfl (lv_at hl 0 rfl) ?_
      refine h_getr hx hb hts iX8_timeIn_X8 hown hK hI g_x (by decide) rfl rfl 5 (by decide) rfl 7 rfl (hts (.fieldLink RX8 41 "CatLeases" "ahead" "LCatLeases$State;") (List.mem_of_getElem? (i := 3) rfl)) (fun _ h9 => h9) dX8_timeIn_48 (fun a32 e_a32 g_a32 => ?_)
      have q33 : a13 = a32 := (e_a13).trans e_a32.symm
      subst q33
      refine lv_iload_n hx hb dX8_timeIn_51 rfl (lv_at hl 1 rfl) ?_
      refine lv_iload_n hx hb dX8_timeIn_52 rfl (lv_at hl 2 rfl) ?_
      refine h_gov hI (by decide) (va_runV (As := [.int p1, .int p2]) (rest := []) ⟨hx, hb, hml, hown, hts⟩ (h_place_X7 l D g σ Z hZ0 M15 N R a13 g_a13 p1 p2 (iv_w (lo' := (-1)) (hi' := 7) h_p2 (by decide) (by decide))) (cwV 2 hts gX8_timeIn_X7_place rfl rfl rfl (by decide +kernel) ⟨Nat.le_of_ble_eq_true rfl, Nat.le_of_ble_eq_true rfl⟩) (h_preV hZ0 hK hE hI g_a13 (by decide) rfl) rfl rfl hl.1 rfl (lv_room (Nat.le_of_ble_eq_true rfl)) dX8_timeIn_53 ⟨Nat.le_of_ble_eq_true rfl, Nat.le_of_ble_eq_true rfl⟩) (fun M35 N36 R37 H locs q38 z_M35 hI => ?_)
      obtain ⟨rfl, rfl⟩ := q38
      exact J56 M35 H locs ls hI (lv_sub hl [0, 1] rfl)
  refine lv_icmp_eq (tgt := 33) hx hb dX8_timeIn_22 (by decide) (fun c39 => ?_) (fun c39 => ?_)
  · have i40 : iv r8 (-1) (-1) := iv_eq1 c39 i_r8 kc_m1
    exact J33 H locs ls hI (lv_sub hl [2, 3, 4, 1, 0] rfl)
  · have i41 : iv r8 0 6 := iv_neL c39 i_r8 (by decide) (by decide)
    refine lv_iload hx hb dX8_timeIn_25 (lv_at hl 0 rfl) ?_
    refine lv_iload_n hx hb dX8_timeIn_27 rfl (lv_at hl 3 rfl) ?_
    refine lv_icmp_eq (tgt := 33) hx hb dX8_timeIn_28 (by decide) (fun c42 => ?_) (fun c42 => ?_)
    · exact J33 H locs ls hI (lv_sub hl [2, 3, 4, 1, 0] rfl)
    · refine lv_iconst (v := (-1)) hx hb dX8_timeIn_31 (by decide) ?_
      exact h_iret hQ hx hb hr hlocks rfl hK hI ⟨rfl, rfl, (iv_w (lo' := (-1)) (hi' := 99) kc_m1 (by decide) (by decide))⟩ dX8_timeIn_32
