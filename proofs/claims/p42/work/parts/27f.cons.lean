abbrev e_h_pleasure_X8 : List (Nat × Nat) := [(3, 2), (3, 3), (14, 999), (18, 999), (28, 999), (29, 999)]
set_option maxHeartbeats 4000000 in
set_option maxRecDepth 100000 in
theorem h_pleasure_X8 (l : Launch) (D : va_G) (g : Nat → ClassId) (σ : Nat → Option Nat) (Z : State → Heap → Prop) (hZ0 : hZ σ Z) (M : hM) (N : hN) (R : hR) (x : Nat) (g_x : σ x = some 8) : Met l yX8_pleasure wsX8_pleasure ({ frames := 5, cells := 0, slots := 0, locals := 120 }) (va_Pc [.ref x] (hPre D g σ Z M N R)) (hQi D g σ e_h_pleasure_X8 M (fun (r : Int32) (M1 : hM) (N1 : hN) (R1 : hR) => N = N1 ∧ R = R1)) 0 0 (hA σ) := by
  refine h_head (cc := cX8_pleasure) (maxL := 1) (ret := (some .int)) (by decide) rfl (Nat.le_of_ble_eq_true rfl) e_h_pleasure_X8 ?_
  intro p e s m below meth c ls Q ar hQ hx hb hr hlocks hml hown hts hK hE H locs hI hl
  have hown : s.vm.findClass RX8 = some m.cls := hown
  have hl : lv_has ls 1 [(0, .ref x)] := hl
  refine lv_aload_n hx hb dX8_pleasure_0 rfl (lv_at hl 0 rfl) ?_
  refine h_getr hx hb hts iX8_pleasure_X8 hown hK hI g_x (by decide) rfl rfl 8 (by decide) rfl 3 rfl (hts (.fieldLink RX8 55 "CatLeases" "let" "LCatLeases$Letting;") (List.mem_of_getElem? (i := 1) rfl)) (fun _ h9 => h9) dX8_pleasure_1 (fun a1 e_a1 g_a1 => ?_)
  refine lv_aload_n hx hb dX8_pleasure_4 rfl (lv_at hl 0 rfl) ?_
  refine h_getr hx hb hts iX8_pleasure_X8 hown hK hI g_x (by decide) rfl rfl 3 (by decide) rfl 4 rfl (hts (.fieldLink RX8 27 "CatLeases" "mews" "LCatLeases$Mews;") (List.mem_of_getElem? (i := 2) rfl)) (fun _ h9 => h9) dX8_pleasure_5 (fun a2 e_a2 g_a2 => ?_)
  refine lv_aload_n hx hb dX8_pleasure_8 rfl (lv_at hl 0 rfl) ?_
  refine h_getr hx hb hts iX8_pleasure_X8 hown hK hI g_x (by decide) rfl rfl 4 (by decide) rfl 0 rfl (hts (.fieldLink RX8 34 "CatLeases" "acts" "LCatLeases$Acts;") (List.mem_of_getElem? (i := 3) rfl)) (fun _ h9 => h9) dX8_pleasure_9 (fun a3 e_a3 g_a3 => ?_)
  refine h_gor hI (by decide) (va_runV (As := []) (rest := [.ref a2, .ref a1]) ⟨hx, hb, hml, hown, hts⟩ (h_current_X0 l D g σ Z hZ0 M N R a3 g_a3) (cwV 0 hts gX8_pleasure_X0_current rfl rfl rfl (by decide +kernel) ⟨Nat.le_of_ble_eq_true rfl, Nat.le_of_ble_eq_true rfl⟩) (h_preV hZ0 hK hE hI g_a3 (by decide) rfl) rfl rfl hl.1 rfl (lv_room (Nat.le_of_ble_eq_true rfl)) dX8_pleasure_12 ⟨Nat.le_of_ble_eq_true rfl, Nat.le_of_ble_eq_true rfl⟩) (fun a4 M5 N6 R7 H locs q8 z_M5 hI => ?_)
  obtain ⟨rfl, rfl, rfl, g_a4⟩ := q8
  refine h_gov hI (by decide) (va_runV (As := [.ref a2, .ref a4]) (rest := []) ⟨hx, hb, hml, hown, hts⟩ (h_solve_X3 l D g σ Z hZ0 M N R a1 g_a1 a2 g_a2 a4 g_a4) (cwV 2 hts gX8_pleasure_X3_solve rfl rfl rfl (by decide +kernel) ⟨Nat.le_of_ble_eq_true rfl, Nat.le_of_ble_eq_true rfl⟩) (h_preV hZ0 hK hE hI g_a1 (by decide) rfl) rfl rfl hl.1 rfl (lv_room (Nat.le_of_ble_eq_true rfl)) dX8_pleasure_15 ⟨Nat.le_of_ble_eq_true rfl, Nat.le_of_ble_eq_true rfl⟩) (fun M10 N11 R12 H locs q13 z_M10 hI => ?_)
  obtain ⟨rfl, rfl⟩ := q13
  refine lv_aload_n hx hb dX8_pleasure_18 rfl (lv_at hl 0 rfl) ?_
  refine h_getr hx hb hts iX8_pleasure_X8 hown hK hI g_x (by decide) rfl rfl 8 (by decide) rfl 3 rfl (hts (.fieldLink RX8 55 "CatLeases" "let" "LCatLeases$Letting;") (List.mem_of_getElem? (i := 1) rfl)) (fun _ h9 => h9) dX8_pleasure_19 (fun a14 e_a14 g_a14 => ?_)
  have q15 : a1 = a14 := (e_a1).trans e_a14.symm
  subst q15
  refine h_goi hI (by decide) (va_runV (As := []) (rest := []) ⟨hx, hb, hml, hown, hts⟩ (h_together_X3 l D g σ Z hZ0 M10 N R a1 g_a1) (cwV 0 hts gX8_pleasure_X3_together rfl rfl rfl (by decide +kernel) ⟨Nat.le_of_ble_eq_true rfl, Nat.le_of_ble_eq_true rfl⟩) (h_preV hZ0 hK hE hI g_a1 (by decide) rfl) rfl rfl hl.1 rfl (lv_room (Nat.le_of_ble_eq_true rfl)) dX8_pleasure_22 ⟨Nat.le_of_ble_eq_true rfl, Nat.le_of_ble_eq_true rfl⟩) (fun r16 M17 N18 R19 H locs q20 z_M17 hI => ?_)
  obtain ⟨rfl, rfl, rfl⟩ := q20
  exact h_iret hQ hx hb hr hlocks rfl hK hI ⟨rfl, rfl⟩ dX8_pleasure_25
abbrev e_h_wouldBothGain_X8 : List (Nat × Nat) := [(14, 999), (18, 999)]
set_option maxHeartbeats 4000000 in
set_option maxRecDepth 100000 in
theorem h_wouldBothGain_X8 (l : Launch) (D : va_G) (g : Nat → ClassId) (σ : Nat → Option Nat) (Z : State → Heap → Prop) (hZ0 : hZ σ Z) (M : hM) (N : hN) (R : hR) (x : Nat) (g_x : σ x = some 8) (p1 : Int32) (h_p1 : iv p1 0 6) (p2 : Int32) (h_p2 : iv p2 0 6) : Met l yX8_wouldBothGain wsX8_wouldBothGain ({ frames := 3, cells := 0, slots := 0, locals := 70 }) (va_Pc [.ref x, .int p1, .int p2] (hPre D g σ Z M N R)) (hQi D g σ e_h_wouldBothGain_X8 M (fun (r : Int32) (M1 : hM) (N1 : hN) (R1 : hR) => N = N1 ∧ R = R1 ∧ iv r 0 1)) 0 0 (hA σ) := by
  refine h_head (cc := cX8_wouldBothGain) (maxL := 6) (ret := (some .boolean)) (by decide) rfl (Nat.le_of_ble_eq_true rfl) e_h_wouldBothGain_X8 ?_
  intro p e s m below meth c ls Q ar hQ hx hb hr hlocks hml hown hts hK hE H locs hI hl
  have hown : s.vm.findClass RX8 = some m.cls := hown
  have hl : lv_has ls 6 [(0, .ref x), (1, .int p1), (2, .int p2)] := hl
  refine lv_aload_n hx hb dX8_wouldBothGain_0 rfl (lv_at hl 0 rfl) ?_
  refine h_getr hx hb hts iX8_wouldBothGain_X8 hown hK hI g_x (by decide) rfl rfl 4 (by decide) rfl 0 rfl (hts (.fieldLink RX8 34 "CatLeases" "acts" "LCatLeases$Acts;") (List.mem_of_getElem? (i := 1) rfl)) (fun _ h9 => h9) dX8_wouldBothGain_1 (fun a1 e_a1 g_a1 => ?_)
  refine h_gor hI (by decide) (va_runV (As := []) (rest := []) ⟨hx, hb, hml, hown, hts⟩ (h_current_X0 l D g σ Z hZ0 M N R a1 g_a1) (cwV 0 hts gX8_wouldBothGain_X0_current rfl rfl rfl (by decide +kernel) ⟨Nat.le_of_ble_eq_true rfl, Nat.le_of_ble_eq_true rfl⟩) (h_preV hZ0 hK hE hI g_a1 (by decide) rfl) rfl rfl hl.1 rfl (lv_room (Nat.le_of_ble_eq_true rfl)) dX8_wouldBothGain_4 ⟨Nat.le_of_ble_eq_true rfl, Nat.le_of_ble_eq_true rfl⟩) (fun a2 M3 N4 R5 H locs q6 z_M3 hI => ?_)
  obtain ⟨rfl, rfl, rfl, g_a2⟩ := q6
  refine lv_astore_n (lv' := [(3, .ref a2), (0, .ref x), (1, .int p1), (2, .int p2)]) hx hb dX8_wouldBothGain_7 rfl hl (by decide) rfl (fun ls hl => ?_)
  refine lv_aload_n hx hb dX8_wouldBothGain_8 rfl (lv_at hl 0 rfl) ?_
  refine h_getr hx hb hts iX8_wouldBothGain_X7 hown hK hI g_a2 (by decide) rfl rfl 1 (by decide) rfl 13 rfl (hts (.fieldLink RX8 147 "CatLeases$State" "places" "[I") (List.mem_of_getElem? (i := 2) rfl)) (fun _ h9 => h9) dX8_wouldBothGain_9 (fun a7 e_a7 g_a7 => ?_)
  refine lv_iload_n hx hb dX8_wouldBothGain_12 rfl (lv_at hl 2 rfl) ?_
  refine h_iald (j := p1.toNatClampNeg) (lo := (-1)) (hi := 7) hx hb hK hI g_a7 (by decide) rfl (iv_in (n := 7) h_p1 (by decide) (by decide)) rfl (hI.iv1 (n := 7) g_a7 rfl (in_lt (iv_in (n := 7) h_p1 (by decide) (by decide))) rfl) dX8_wouldBothGain_13 (fun v8 e_v8 i_v8 => ?_)
  refine lv_istore (lv' := [(4, .int v8), (3, .ref a2), (0, .ref x), (1, .int p1), (2, .int p2)]) hx hb dX8_wouldBothGain_14 hl (by decide) rfl (fun ls hl => ?_)
  refine lv_aload_n hx hb dX8_wouldBothGain_16 rfl (lv_at hl 1 rfl) ?_
  refine h_getr hx hb hts iX8_wouldBothGain_X7 hown hK hI g_a2 (by decide) rfl rfl 1 (by decide) rfl 13 rfl (hts (.fieldLink RX8 147 "CatLeases$State" "places" "[I") (List.mem_of_getElem? (i := 2) rfl)) (fun _ h9 => h9) dX8_wouldBothGain_17 (fun a9 e_a9 g_a9 => ?_)
  have q10 : a7 = a9 := (e_a7).trans e_a9.symm
  subst q10
  refine lv_iload_n hx hb dX8_wouldBothGain_20 rfl (lv_at hl 4 rfl) ?_
  refine h_iald (j := p2.toNatClampNeg) (lo := (-1)) (hi := 7) hx hb hK hI g_a7 (by decide) rfl (iv_in (n := 7) h_p2 (by decide) (by decide)) rfl (hI.iv1 (n := 7) g_a7 rfl (in_lt (iv_in (n := 7) h_p2 (by decide) (by decide))) rfl) dX8_wouldBothGain_21 (fun v11 e_v11 i_v11 => ?_)
  refine lv_istore (lv' := [(5, .int v11), (4, .int v8), (3, .ref a2), (0, .ref x), (1, .int p1), (2, .int p2)]) hx hb dX8_wouldBothGain_22 hl (by decide) rfl (fun ls hl => ?_)
  refine lv_aload_n hx hb dX8_wouldBothGain_24 rfl (lv_at hl 2 rfl) ?_
  refine lv_iload hx hb dX8_wouldBothGain_25 (lv_at hl 1 rfl) ?_
  refine h_goi hI (by decide) (va_runV (As := [.int v8]) (rest := []) ⟨hx, hb, hml, hown, hts⟩ (h_isKept_X7 l D g σ Z hZ0 M N R a2 g_a2 v8) (cwV 1 hts gX8_wouldBothGain_X7_isKept rfl rfl rfl (by decide +kernel) ⟨Nat.le_of_ble_eq_true rfl, Nat.le_of_ble_eq_true rfl⟩) (h_preV hZ0 hK hE hI g_a2 (by decide) rfl) rfl rfl hl.1 rfl (lv_room (Nat.le_of_ble_eq_true rfl)) dX8_wouldBothGain_27 ⟨Nat.le_of_ble_eq_true rfl, Nat.le_of_ble_eq_true rfl⟩) (fun r12 M13 N14 R15 H locs q16 z_M13 hI => ?_)
  obtain ⟨rfl, rfl, rfl, i_r12, z17, z18⟩ := q16
  refine lv_if_eq (tgt := 42) hx hb dX8_wouldBothGain_30 (by decide) (fun c19 => ?_) (fun c19 => ?_)
  · have i20 : iv r12 0 0 := iv_eq1 c19 i_r12 kc_0
    refine lv_iconst (v := 0) hx hb dX8_wouldBothGain_42 (by decide) ?_
    exact h_iret hQ hx hb hr hlocks rfl hK hI ⟨rfl, rfl, (iv_w (lo' := 0) (hi' := 1) kc_0 (by decide) (by decide))⟩ dX8_wouldBothGain_43
  · have i21 : iv v8 0 7 := z17 c19
    have i22 := z18 c19
    have i23 : iv r12 1 1 := iv_neL c19 i_r12 (by decide) (by decide)
    refine lv_aload_n hx hb dX8_wouldBothGain_33 rfl (lv_at hl 2 rfl) ?_
    refine lv_iload hx hb dX8_wouldBothGain_34 (lv_at hl 0 rfl) ?_
    refine h_goi hI (by decide) (va_runV (As := [.int v11]) (rest := []) ⟨hx, hb, hml, hown, hts⟩ (h_isKept_X7 l D g σ Z hZ0 M N R a2 g_a2 v11) (cwV 1 hts gX8_wouldBothGain_X7_isKept rfl rfl rfl (by decide +kernel) ⟨Nat.le_of_ble_eq_true rfl, Nat.le_of_ble_eq_true rfl⟩) (h_preV hZ0 hK hE hI g_a2 (by decide) rfl) rfl rfl hl.1 rfl (lv_room (Nat.le_of_ble_eq_true rfl)) dX8_wouldBothGain_36 ⟨Nat.le_of_ble_eq_true rfl, Nat.le_of_ble_eq_true rfl⟩) (fun r24 M25 N26 R27 H locs q28 z_M25 hI => ?_)
    obtain ⟨rfl, rfl, rfl, i_r24, z29, z30⟩ := q28
    refine lv_if_ne (tgt := 44) hx hb dX8_wouldBothGain_39 (by decide) (fun c31 => ?_) (fun c31 => ?_)
    · have i32 : iv v11 0 7 := z29 c31
      have i33 := z30 c31
      have i34 : iv r24 1 1 := iv_neL c31 i_r24 (by decide) (by decide)
      refine lv_aload_n hx hb dX8_wouldBothGain_44 rfl (lv_at hl 3 rfl) ?_
      refine h_getr hx hb hts iX8_wouldBothGain_X8 hown hK hI g_x (by decide) rfl rfl 3 (by decide) rfl 4 rfl (hts (.fieldLink RX8 27 "CatLeases" "mews" "LCatLeases$Mews;") (List.mem_of_getElem? (i := 3) rfl)) (fun _ h9 => h9) dX8_wouldBothGain_45 (fun a35 e_a35 g_a35 => ?_)
      refine lv_aload_n hx hb dX8_wouldBothGain_48 rfl (lv_at hl 2 rfl) ?_
      refine lv_iload_n hx hb dX8_wouldBothGain_49 rfl (lv_at hl 4 rfl) ?_
      refine lv_iload hx hb dX8_wouldBothGain_50 (lv_at hl 0 rfl) ?_
      refine h_goi hI (by decide) (va_runV (As := [.ref a2, .int p1, .int v11]) (rest := []) ⟨hx, hb, hml, hown, hts⟩ (h_likes_X4 l D g σ Z hZ0 M N R a35 g_a35 a2 g_a2 p1 v11) (cwV 3 hts gX8_wouldBothGain_X4_likes rfl rfl rfl (by decide +kernel) ⟨Nat.le_of_ble_eq_true rfl, Nat.le_of_ble_eq_true rfl⟩) (h_preV hZ0 hK hE hI g_a35 (by decide) rfl) rfl rfl hl.1 rfl (lv_room (Nat.le_of_ble_eq_true rfl)) dX8_wouldBothGain_52 ⟨Nat.le_of_ble_eq_true rfl, Nat.le_of_ble_eq_true rfl⟩) (fun r36 M37 N38 R39 H locs q40 z_M37 hI => ?_)
      obtain ⟨rfl, rfl⟩ := q40
      refine lv_aload_n hx hb dX8_wouldBothGain_55 rfl (lv_at hl 3 rfl) ?_
      refine h_getr hx hb hts iX8_wouldBothGain_X8 hown hK hI g_x (by decide) rfl rfl 3 (by decide) rfl 4 rfl (hts (.fieldLink RX8 27 "CatLeases" "mews" "LCatLeases$Mews;") (List.mem_of_getElem? (i := 3) rfl)) (fun _ h9 => h9) dX8_wouldBothGain_56 (fun a41 e_a41 g_a41 => ?_)
      have q42 : a35 = a41 := (e_a35).trans e_a41.symm
      subst q42
      refine lv_aload_n hx hb dX8_wouldBothGain_59 rfl (lv_at hl 2 rfl) ?_
      refine lv_iload_n hx hb dX8_wouldBothGain_60 rfl (lv_at hl 4 rfl) ?_
      refine lv_iload hx hb dX8_wouldBothGain_61 (lv_at hl 1 rfl) ?_
      refine h_goi hI (by decide) (va_runV (As := [.ref a2, .int p1, .int v8]) (rest := [.int r36]) ⟨hx, hb, hml, hown, hts⟩ (h_likes_X4 l D g σ Z hZ0 M37 N R a35 g_a35 a2 g_a2 p1 v8) (cwV 3 hts gX8_wouldBothGain_X4_likes rfl rfl rfl (by decide +kernel) ⟨Nat.le_of_ble_eq_true rfl, Nat.le_of_ble_eq_true rfl⟩) (h_preV hZ0 hK hE hI g_a35 (by decide) rfl) rfl rfl hl.1 rfl (lv_room (Nat.le_of_ble_eq_true rfl)) dX8_wouldBothGain_63 ⟨Nat.le_of_ble_eq_true rfl, Nat.le_of_ble_eq_true rfl⟩) (fun r43 M44 N45 R46 H locs q47 z_M44 hI => ?_)
      obtain ⟨rfl, rfl⟩ := q47
      refine lv_icmp_le (tgt := 98) hx hb dX8_wouldBothGain_66 (by decide) (fun c48 => ?_) (fun c48 => ?_)
      · refine lv_iconst (v := 0) hx hb dX8_wouldBothGain_98 (by decide) ?_
        exact h_iret hQ hx hb hr hlocks rfl hK hI ⟨rfl, rfl, (iv_w (lo' := 0) (hi' := 1) kc_0 (by decide) (by decide))⟩ dX8_wouldBothGain_99
      · have i49 : iv r36 (-2147483647) 2147483647 := iv_nle1 c48 (iv_any r36) (iv_any r43) (by decide)
        have i50 : iv r43 (-2147483648) 2147483646 := iv_nle2 c48 (iv_any r36) (iv_any r43) (by decide)
        refine lv_aload_n hx hb dX8_wouldBothGain_69 rfl (lv_at hl 3 rfl) ?_
        refine h_getr hx hb hts iX8_wouldBothGain_X8 hown hK hI g_x (by decide) rfl rfl 3 (by decide) rfl 4 rfl (hts (.fieldLink RX8 27 "CatLeases" "mews" "LCatLeases$Mews;") (List.mem_of_getElem? (i := 3) rfl)) (fun _ h9 => h9) dX8_wouldBothGain_70 (fun a51 e_a51 g_a51 => ?_)
        have q52 : a35 = a51 := (e_a35).trans e_a51.symm
        subst q52
        refine lv_aload_n hx hb dX8_wouldBothGain_73 rfl (lv_at hl 2 rfl) ?_
        refine lv_iload_n hx hb dX8_wouldBothGain_74 rfl (lv_at hl 5 rfl) ?_
        refine lv_iload hx hb dX8_wouldBothGain_75 (lv_at hl 1 rfl) ?_
        refine h_goi hI (by decide) (va_runV (As := [.ref a2, .int p2, .int v8]) (rest := []) ⟨hx, hb, hml, hown, hts⟩ (h_likes_X4 l D g σ Z hZ0 M44 N R a35 g_a35 a2 g_a2 p2 v8) (cwV 3 hts gX8_wouldBothGain_X4_likes rfl rfl rfl (by decide +kernel) ⟨Nat.le_of_ble_eq_true rfl, Nat.le_of_ble_eq_true rfl⟩) (h_preV hZ0 hK hE hI g_a35 (by decide) rfl) rfl rfl hl.1 rfl (lv_room (Nat.le_of_ble_eq_true rfl)) dX8_wouldBothGain_77 ⟨Nat.le_of_ble_eq_true rfl, Nat.le_of_ble_eq_true rfl⟩) (fun r53 M54 N55 R56 H locs q57 z_M54 hI => ?_)
        obtain ⟨rfl, rfl⟩ := q57
        refine lv_aload_n hx hb dX8_wouldBothGain_80 rfl (lv_at hl 3 rfl) ?_
        refine h_getr hx hb hts iX8_wouldBothGain_X8 hown hK hI g_x (by decide) rfl rfl 3 (by decide) rfl 4 rfl (hts (.fieldLink RX8 27 "CatLeases" "mews" "LCatLeases$Mews;") (List.mem_of_getElem? (i := 3) rfl)) (fun _ h9 => h9) dX8_wouldBothGain_81 (fun a58 e_a58 g_a58 => ?_)
        have q59 : a35 = a58 := (e_a35).trans e_a58.symm
        subst q59
        refine lv_aload_n hx hb dX8_wouldBothGain_84 rfl (lv_at hl 2 rfl) ?_
        refine lv_iload_n hx hb dX8_wouldBothGain_85 rfl (lv_at hl 5 rfl) ?_
        refine lv_iload hx hb dX8_wouldBothGain_86 (lv_at hl 0 rfl) ?_
        refine h_goi hI (by decide) (va_runV (As := [.ref a2, .int p2, .int v11]) (rest := [.int r53]) ⟨hx, hb, hml, hown, hts⟩ (h_likes_X4 l D g σ Z hZ0 M54 N R a35 g_a35 a2 g_a2 p2 v11) (cwV 3 hts gX8_wouldBothGain_X4_likes rfl rfl rfl (by decide +kernel) ⟨Nat.le_of_ble_eq_true rfl, Nat.le_of_ble_eq_true rfl⟩) (h_preV hZ0 hK hE hI g_a35 (by decide) rfl) rfl rfl hl.1 rfl (lv_room (Nat.le_of_ble_eq_true rfl)) dX8_wouldBothGain_88 ⟨Nat.le_of_ble_eq_true rfl, Nat.le_of_ble_eq_true rfl⟩) (fun r60 M61 N62 R63 H locs q64 z_M61 hI => ?_)
        obtain ⟨rfl, rfl⟩ := q64
        refine lv_icmp_le (tgt := 98) hx hb dX8_wouldBothGain_91 (by decide) (fun c65 => ?_) (fun c65 => ?_)
        · refine lv_iconst (v := 0) hx hb dX8_wouldBothGain_98 (by decide) ?_
          exact h_iret hQ hx hb hr hlocks rfl hK hI ⟨rfl, rfl, (iv_w (lo' := 0) (hi' := 1) kc_0 (by decide) (by decide))⟩ dX8_wouldBothGain_99
        · have i66 : iv r53 (-2147483647) 2147483647 := iv_nle1 c65 (iv_any r53) (iv_any r60) (by decide)
          have i67 : iv r60 (-2147483648) 2147483646 := iv_nle2 c65 (iv_any r53) (iv_any r60) (by decide)
          refine lv_iconst (v := 1) hx hb dX8_wouldBothGain_94 (by decide) ?_
          refine lv_goto (tgt := 99) hx hb dX8_wouldBothGain_95 (by decide) ?_
          exact h_iret hQ hx hb hr hlocks rfl hK hI ⟨rfl, rfl, (iv_w (lo' := 0) (hi' := 1) kc_1 (by decide) (by decide))⟩ dX8_wouldBothGain_99
    · have i68 : iv r24 0 0 := iv_eq1 c31 i_r24 kc_0
      refine lv_iconst (v := 0) hx hb dX8_wouldBothGain_42 (by decide) ?_
      exact h_iret hQ hx hb hr hlocks rfl hK hI ⟨rfl, rfl, (iv_w (lo' := 0) (hi' := 1) kc_0 (by decide) (by decide))⟩ dX8_wouldBothGain_43
abbrev e_h_swaps_X8 : List (Nat × Nat) := [(14, 999), (18, 999)]
set_option maxHeartbeats 4000000 in
set_option maxRecDepth 100000 in
theorem h_swaps_X8 (l : Launch) (D : va_G) (g : Nat → ClassId) (σ : Nat → Option Nat) (Z : State → Heap → Prop) (hZ0 : hZ σ Z) (M : hM) (N : hN) (R : hR) (x : Nat) (g_x : σ x = some 8) (p1 : Int32) : Met l yX8_swaps wsX8_swaps ({ frames := 4, cells := 0, slots := 0, locals := 95 }) (va_Pc [.ref x, .int p1] (hPre D g σ Z M N R)) (hQi D g σ e_h_swaps_X8 M (fun (r : Int32) (M1 : hM) (N1 : hN) (R1 : hR) => N = N1 ∧ R = R1)) 0 0 (hA σ) := by
  refine h_head (cc := cX8_swaps) (maxL := 5) (ret := (some .int)) (by decide) rfl (Nat.le_of_ble_eq_true rfl) e_h_swaps_X8 ?_
  intro p e s m below meth c ls Q ar hQ hx hb hr hlocks hml hown hts hK hE H locs hI hl
  have hown : s.vm.findClass RX8 = some m.cls := hown
  have hl : lv_has ls 5 [(0, .ref x), (1, .int p1)] := hl
  refine lv_iload_n hx hb dX8_swaps_0 rfl (lv_at hl 1 rfl) ?_
  refine lv_if_lt (tgt := 9) hx hb dX8_swaps_1 (by decide) (fun c1 => ?_) (fun c1 => ?_)
  · have i2 : iv p1 (-2147483648) (-1) := iv_lt1 c1 (iv_any p1) kc_0 (by decide)
    refine lv_iconst (v := (-1)) hx hb dX8_swaps_9 (by decide) ?_
    exact h_iret hQ hx hb hr hlocks rfl hK hI ⟨rfl, rfl⟩ dX8_swaps_10
  · have i3 : iv p1 0 2147483647 := iv_nlt1 c1 (iv_any p1) kc_0 (by decide)
    refine lv_iload_n hx hb dX8_swaps_4 rfl (lv_at hl 1 rfl) ?_
    refine lv_iconst (v := 2) hx hb dX8_swaps_5 (by decide) ?_
    refine lv_icmp_le (tgt := 11) hx hb dX8_swaps_6 (by decide) (fun c4 => ?_) (fun c4 => ?_)
    · have i5 : iv p1 0 2 := iv_le1 c4 i3 kc_2 (by decide)
      refine lv_iconst (v := 0) hx hb dX8_swaps_11 (by decide) ?_
      refine lv_istore_n (lv' := [(2, .int (0 : Int32)), (0, .ref x), (1, .int p1)]) hx hb dX8_swaps_12 rfl hl (by decide) rfl (fun ls hl => ?_)
      refine lv_iconst (v := 0) hx hb dX8_swaps_13 (by decide) ?_
      have J15 : ∀ (n : Nat) (M_15 : hM) (v2_15 : Int32) (v3_15 : Int32) (H : Heap) (locs : List Loc) (ls : Array Slot), kI D g σ e_h_swaps_X8 M s.heap M_15 N R H locs → lv_has ls 5 [(0, .ref x), (1, .int p1), (2, .int v2_15), (3, .int v3_15)] → iv v3_15 0 7 → 8 ≤ v3_15.toInt + (n : Int) → W p l e (headSpec wsX8_swaps ({ frames := 4, cells := 0, slots := 0, locals := 95 })).room s m ar below meth c H locs 0 0 Q (F0 m 15 ls []) := by
        intro n
        induction n with
        | zero => intro M_15 v2_15 v3_15 H locs ls hI hl i_v3_15 hn; exfalso; have hz := i_v3_15; simp only [iv] at hz; omega
        | succ n ih15 =>
          intro M_15 v2_15 v3_15 H locs ls hI hl i_v3_15 hn15
          refine lv_iload_n hx hb dX8_swaps_15 rfl (lv_at hl 3 rfl) ?_
          refine lv_aload_n hx hb dX8_swaps_16 rfl (lv_at hl 0 rfl) ?_
          refine h_getr hx hb hts iX8_swaps_X8 hown hK hI g_x (by decide) rfl rfl 3 (by decide) rfl 4 rfl (hts (.fieldLink RX8 27 "CatLeases" "mews" "LCatLeases$Mews;") (List.mem_of_getElem? (i := 1) rfl)) (fun _ h9 => h9) dX8_swaps_17 (fun a6 e_a6 g_a6 => ?_)
          refine h_geti (lo := 0) (hi := 7) hx hb hts iX8_swaps_X4 hown hK hI g_a6 (by decide) rfl rfl 2 (by decide) rfl rfl (hts (.fieldLink RX8 102 "CatLeases$Mews" "tenants" "I") (List.mem_of_getElem? (i := 2) rfl)) (fun _ h9 => h9) dX8_swaps_20 (fun v7 e_v7 i_v7 => ?_)
          refine lv_icmp_ge (tgt := 84) hx hb dX8_swaps_23 (by decide) (fun c8 => ?_) (fun c8 => ?_)
          · refine lv_iload_n hx hb dX8_swaps_84 rfl (lv_at hl 1 rfl) ?_
            refine lv_if_ne (tgt := 92) hx hb dX8_swaps_85 (by decide) (fun c9 => ?_) (fun c9 => ?_)
            · have i10 : iv p1 1 2 := iv_neL c9 i5 (by decide) (by decide)
              refine lv_iconst (v := (-1)) hx hb dX8_swaps_92 (by decide) ?_
              exact h_iret hQ hx hb hr hlocks rfl hK hI ⟨rfl, rfl⟩ dX8_swaps_93
            · have i11 : iv p1 0 0 := iv_eq1 c9 i5 kc_0
              refine lv_iload_n hx hb dX8_swaps_88 rfl (lv_at hl 2 rfl) ?_
              refine lv_goto (tgt := 93) hx hb dX8_swaps_89 (by decide) ?_
              exact h_iret hQ hx hb hr hlocks rfl hK hI ⟨rfl, rfl⟩ dX8_swaps_93
          · have i12 : iv v7 1 7 := iv_nle1 c8 i_v7 i_v3_15 (by decide)
            have i13 : iv v3_15 0 6 := iv_nle2 c8 i_v7 i_v3_15 (by decide)
            refine lv_iload_n hx hb dX8_swaps_26 rfl (lv_at hl 3 rfl) ?_
            refine lv_iconst (v := 1) hx hb dX8_swaps_27 (by decide) ?_
            refine lv_iadd hx hb dX8_swaps_28 ?_
            refine h_nm (lo := 1) (hi := 7) (iv_add i13 kc_1 (by decide) (by decide) (by decide) (by decide)) (fun v14 e_v14 i_v14 => ?_)
            have J31 : ∀ (n : Nat) (M_31 : hM) (v2_31 : Int32) (v4_31 : Int32) (H : Heap) (locs : List Loc) (ls : Array Slot), kI D g σ e_h_swaps_X8 M s.heap M_31 N R H locs → lv_has ls 5 [(0, .ref x), (1, .int p1), (2, .int v2_31), (3, .int v3_15), (4, .int v4_31)] → v7 = M_31 a6 2 → iv v4_31 1 7 → 8 ≤ v4_31.toInt + (n : Int) → W p l e (headSpec wsX8_swaps ({ frames := 4, cells := 0, slots := 0, locals := 95 })).room s m ar below meth c H locs 0 0 Q (F0 m 31 ls []) := by
              intro n
              induction n with
              | zero => intro M_31 v2_31 v4_31 H locs ls hI hl k0_31 i_v4_31 hn; exfalso; have hz := i_v4_31; simp only [iv] at hz; omega
              | succ n ih31 =>
                intro M_31 v2_31 v4_31 H locs ls hI hl k0_31 i_v4_31 hn31
                refine lv_iload hx hb dX8_swaps_31 (lv_at hl 4 rfl) ?_
                refine lv_aload_n hx hb dX8_swaps_33 rfl (lv_at hl 0 rfl) ?_
                refine h_getr hx hb hts iX8_swaps_X8 hown hK hI g_x (by decide) rfl rfl 3 (by decide) rfl 4 rfl (hts (.fieldLink RX8 27 "CatLeases" "mews" "LCatLeases$Mews;") (List.mem_of_getElem? (i := 1) rfl)) (fun _ h9 => h9) dX8_swaps_34 (fun a15 e_a15 g_a15 => ?_)
                have q16 : a6 = a15 := (e_a6).trans e_a15.symm
                subst q16
                refine h_geti (lo := 0) (hi := 7) hx hb hts iX8_swaps_X4 hown hK hI g_a6 (by decide) rfl rfl 2 (by decide) rfl rfl (hts (.fieldLink RX8 102 "CatLeases$Mews" "tenants" "I") (List.mem_of_getElem? (i := 2) rfl)) (fun _ h9 => h9) dX8_swaps_37 (fun v17 e_v17 i_v17 => ?_)
                have q18 : v7 = v17 := (k0_31).trans e_v17.symm
                subst q18
                refine lv_icmp_ge (tgt := 78) hx hb dX8_swaps_40 (by decide) (fun c19 => ?_) (fun c19 => ?_)
                · obtain ⟨v20, e_v20⟩ : ∃ z : Int32, z = v3_15 + Int32.ofInt 1 := ⟨_, rfl⟩
                  have i_v20 : iv v20 1 7 := by rw [e_v20]; exact iv_add i13 (ki_1) (by decide) (by decide) (by decide) (by decide)
                  refine lv_iinc (v := v20) (lv' := [(3, .int v20), (0, .ref x), (1, .int p1), (2, .int v2_31), (4, .int v4_31)]) hx hb dX8_swaps_78 hl (k := 3) rfl e_v20.symm (by decide) rfl (fun ls hl => ?_)
                  refine lv_goto (tgt := 15) hx hb dX8_swaps_81 (by decide) ?_
                  exact ih15 M_31 v2_31 v20 H locs ls hI (lv_sub hl [1, 2, 3, 0] rfl) (iv_w (lo' := 0) (hi' := 7) i_v20 (by decide) (by decide)) (by have h9 := (h_inc e_v20 i13 ki_1 (by decide) (by decide)); omega)
                · have i21 : iv v7 2 7 := iv_nle1 c19 i12 i_v4_31 (by decide)
                  have i22 : iv v4_31 1 6 := iv_nle2 c19 i12 i_v4_31 (by decide)
                  refine lv_aload_n hx hb dX8_swaps_43 rfl (lv_at hl 0 rfl) ?_
                  refine lv_iload_n hx hb dX8_swaps_44 rfl (lv_at hl 3 rfl) ?_
                  refine lv_iload hx hb dX8_swaps_45 (lv_at hl 4 rfl) ?_
                  refine h_goi hI (by decide) (va_runV (As := [.int v3_15, .int v4_31]) (rest := []) ⟨hx, hb, hml, hown, hts⟩ (h_wouldBothGain_X8 l D g σ Z hZ0 M_31 N R x g_x v3_15 i13 v4_31 (iv_w (lo' := 0) (hi' := 6) i22 (by decide) (by decide))) (cwV 2 hts gX8_swaps_X8_wouldBothGain rfl rfl rfl (by decide +kernel) ⟨Nat.le_of_ble_eq_true rfl, Nat.le_of_ble_eq_true rfl⟩) (h_preV hZ0 hK hE hI g_x (by decide) rfl) rfl rfl hl.1 rfl (lv_room (Nat.le_of_ble_eq_true rfl)) dX8_swaps_47 ⟨Nat.le_of_ble_eq_true rfl, Nat.le_of_ble_eq_true rfl⟩) (fun r23 M24 N25 R26 H locs q27 z_M24 hI => ?_)
                  obtain ⟨rfl, rfl, i_r23⟩ := q27
                  have J72 : ∀ (v2_72 : Int32) (H : Heap) (locs : List Loc) (ls : Array Slot), kI D g σ e_h_swaps_X8 M s.heap M24 N R H locs → lv_has ls 5 [(0, .ref x), (1, .int p1), (2, .int v2_72), (3, .int v3_15), (4, .int v4_31)] → W p l e (headSpec wsX8_swaps ({ frames := 4, cells := 0, slots := 0, locals := 95 })).room s m ar below meth c H locs 0 0 Q (F0 m 72 ls []) := by
                    intro v2_72 H locs ls hI hl
                    obtain ⟨v28, e_v28⟩ : ∃ z : Int32, z = v4_31 + Int32.ofInt 1 := ⟨_, rfl⟩
                    have i_v28 : iv v28 2 7 := by rw [e_v28]; exact iv_add i22 (ki_1) (by decide) (by decide) (by decide) (by decide)
                    refine lv_iinc (v := v28) (lv' := [(4, .int v28), (0, .ref x), (1, .int p1), (2, .int v2_72), (3, .int v3_15)]) hx hb dX8_swaps_72 hl (k := 4) rfl e_v28.symm (by decide) rfl (fun ls hl => ?_)
                    refine lv_goto (tgt := 31) hx hb dX8_swaps_75 (by decide) ?_
                    exact ih31 M24 v2_72 v28 H locs ls hI (lv_sub hl [1, 2, 3, 4, 0] rfl) ((k0_31).trans (z_M24 a6 4 2 g_a6 rfl).symm) (iv_w (lo' := 1) (hi' := 7) i_v28 (by decide) (by decide)) (by have h9 := (h_inc e_v28 i22 ki_1 (by decide) (by decide)); omega)
                  refine lv_if_eq (tgt := 72) hx hb dX8_swaps_50 (by decide) (fun c29 => ?_) (fun c29 => ?_)
                  · have i30 : iv r23 0 0 := iv_eq1 c29 i_r23 kc_0
                    exact J72 v2_31 H locs ls hI hl
                  · have i31 : iv r23 1 1 := iv_neL c29 i_r23 (by decide) (by decide)
                    refine lv_iload_n hx hb dX8_swaps_53 rfl (lv_at hl 1 rfl) ?_
                    refine lv_if_eq (tgt := 69) hx hb dX8_swaps_54 (by decide) (fun c32 => ?_) (fun c32 => ?_)
                    · have i33 : iv p1 0 0 := iv_eq1 c32 i5 kc_0
                      obtain ⟨v34, e_v34⟩ : ∃ z : Int32, z = v2_31 + Int32.ofInt 1 := ⟨_, rfl⟩
                      refine lv_iinc (v := v34) (lv' := [(2, .int v34), (0, .ref x), (1, .int p1), (3, .int v3_15), (4, .int v4_31)]) hx hb dX8_swaps_69 hl (k := 2) rfl e_v34.symm (by decide) rfl (fun ls hl => ?_)
                      exact J72 v34 H locs ls hI (lv_sub hl [1, 2, 0, 3, 4] rfl)
                    · have i35 : iv p1 1 2 := iv_neL c32 i5 (by decide) (by decide)
                      refine lv_iload_n hx hb dX8_swaps_57 rfl (lv_at hl 1 rfl) ?_
                      refine lv_iconst (v := 1) hx hb dX8_swaps_58 (by decide) ?_
                      refine lv_icmp_ne (tgt := 66) hx hb dX8_swaps_59 (by decide) (fun c36 => ?_) (fun c36 => ?_)
                      · have i37 : iv p1 2 2 := iv_neL c36 i35 (by decide) (by decide)
                        refine lv_iload hx hb dX8_swaps_66 (lv_at hl 4 rfl) ?_
                        exact h_iret hQ hx hb hr hlocks rfl hK hI ⟨rfl, rfl⟩ dX8_swaps_68
                      · have i38 : iv p1 1 1 := iv_eq1 c36 i35 kc_1
                        refine lv_iload_n hx hb dX8_swaps_62 rfl (lv_at hl 3 rfl) ?_
                        refine lv_goto (tgt := 68) hx hb dX8_swaps_63 (by decide) ?_
                        exact h_iret hQ hx hb hr hlocks rfl hK hI ⟨rfl, rfl⟩ dX8_swaps_68
            refine lv_istore (lv' := [(4, .int v14), (0, .ref x), (1, .int p1), (2, .int v2_15), (3, .int v3_15)]) hx hb dX8_swaps_29 hl (by decide) rfl (fun ls hl => ?_)
            exact J31 7 M_15 v2_15 v14 H locs ls hI (lv_sub hl [1, 2, 3, 4, 0] rfl) (e_v7) i_v14 (by have h9 := i_v14; simp only [iv] at h9; omega)
      refine lv_istore_n (lv' := [(3, .int (0 : Int32)), (2, .int (0 : Int32)), (0, .ref x), (1, .int p1)]) hx hb dX8_swaps_14 rfl hl (by decide) rfl (fun ls hl => ?_)
      exact J15 8 M (0 : Int32) (0 : Int32) H locs ls hI (lv_sub hl [2, 3, 1, 0] rfl) (iv_w (lo' := 0) (hi' := 7) kc_0 (by decide) (by decide)) (by have h9 := kc_0; simp only [iv] at h9; omega)
    · have i39 : iv p1 3 2147483647 := iv_nle1 c4 i3 kc_2 (by decide)
      refine lv_iconst (v := (-1)) hx hb dX8_swaps_9 (by decide) ?_
      exact h_iret hQ hx hb hr hlocks rfl hK hI ⟨rfl, rfl⟩ dX8_swaps_10
abbrev e_h_pay_X8 : List (Nat × Nat) := [(14, 999), (18, 999)]
set_option maxHeartbeats 4000000 in
set_option maxRecDepth 100000 in
theorem h_pay_X8 (l : Launch) (D : va_G) (g : Nat → ClassId) (σ : Nat → Option Nat) (Z : State → Heap → Prop) (hZ0 : hZ σ Z) (M : hM) (N : hN) (R : hR) (x : Nat) (g_x : σ x = some 8) (p1 : Int32) : Met l yX8_pay wsX8_pay ({ frames := 3, cells := 0, slots := 0, locals := 68 }) (va_Pc [.ref x, .int p1] (hPre D g σ Z M N R)) (hQi D g σ e_h_pay_X8 M (fun (r : Int32) (M1 : hM) (N1 : hN) (R1 : hR) => N = N1 ∧ R = R1 ∧ iv r (-1) 99)) 0 0 (hA σ) := by
  refine h_head (cc := cX8_pay) (maxL := 4) (ret := (some .int)) (by decide) rfl (Nat.le_of_ble_eq_true rfl) e_h_pay_X8 ?_
  intro p e s m below meth c ls Q ar hQ hx hb hr hlocks hml hown hts hK hE H locs hI hl
  have hown : s.vm.findClass RX8 = some m.cls := hown
  have hl : lv_has ls 4 [(0, .ref x), (1, .int p1)] := hl
  refine lv_aload_n hx hb dX8_pay_0 rfl (lv_at hl 0 rfl) ?_
  refine lv_iload_n hx hb dX8_pay_1 rfl (lv_at hl 1 rfl) ?_
  refine h_goi hI (by decide) (va_runV (As := [.int p1]) (rest := []) ⟨hx, hb, hml, hown, hts⟩ (h_isInKeptRoom_X8 l D g σ Z hZ0 M N R x g_x p1) (cwV 1 hts gX8_pay_X8_isInKeptRoom rfl rfl rfl (by decide +kernel) ⟨Nat.le_of_ble_eq_true rfl, Nat.le_of_ble_eq_true rfl⟩) (h_preV hZ0 hK hE hI g_x (by decide) rfl) rfl rfl hl.1 rfl (lv_room (Nat.le_of_ble_eq_true rfl)) dX8_pay_2 ⟨Nat.le_of_ble_eq_true rfl, Nat.le_of_ble_eq_true rfl⟩) (fun r1 M2 N3 R4 H locs q5 z_M2 hI => ?_)
  obtain ⟨rfl, rfl, rfl, i_r1, z6⟩ := q5
  refine lv_if_ne (tgt := 10) hx hb dX8_pay_5 (by decide) (fun c7 => ?_) (fun c7 => ?_)
  · have i8 : iv p1 0 6 := z6 c7
    have i9 : iv r1 1 1 := iv_neL c7 i_r1 (by decide) (by decide)
    refine lv_aload_n hx hb dX8_pay_10 rfl (lv_at hl 0 rfl) ?_
    refine h_getr hx hb hts iX8_pay_X8 hown hK hI g_x (by decide) rfl rfl 4 (by decide) rfl 0 rfl (hts (.fieldLink RX8 34 "CatLeases" "acts" "LCatLeases$Acts;") (List.mem_of_getElem? (i := 1) rfl)) (fun _ h9 => h9) dX8_pay_11 (fun a10 e_a10 g_a10 => ?_)
    refine h_gor hI (by decide) (va_runV (As := []) (rest := []) ⟨hx, hb, hml, hown, hts⟩ (h_current_X0 l D g σ Z hZ0 M N R a10 g_a10) (cwV 0 hts gX8_pay_X0_current rfl rfl rfl (by decide +kernel) ⟨Nat.le_of_ble_eq_true rfl, Nat.le_of_ble_eq_true rfl⟩) (h_preV hZ0 hK hE hI g_a10 (by decide) rfl) rfl rfl hl.1 rfl (lv_room (Nat.le_of_ble_eq_true rfl)) dX8_pay_14 ⟨Nat.le_of_ble_eq_true rfl, Nat.le_of_ble_eq_true rfl⟩) (fun a11 M12 N13 R14 H locs q15 z_M12 hI => ?_)
    obtain ⟨rfl, rfl, rfl, g_a11⟩ := q15
    refine lv_astore_n (lv' := [(2, .ref a11), (0, .ref x), (1, .int p1)]) hx hb dX8_pay_17 rfl hl (by decide) rfl (fun ls hl => ?_)
    refine lv_aload_n hx hb dX8_pay_18 rfl (lv_at hl 1 rfl) ?_
    refine h_getr hx hb hts iX8_pay_X8 hown hK hI g_x (by decide) rfl rfl 3 (by decide) rfl 4 rfl (hts (.fieldLink RX8 27 "CatLeases" "mews" "LCatLeases$Mews;") (List.mem_of_getElem? (i := 2) rfl)) (fun _ h9 => h9) dX8_pay_19 (fun a16 e_a16 g_a16 => ?_)
    refine lv_aload_n hx hb dX8_pay_22 rfl (lv_at hl 0 rfl) ?_
    refine lv_iload_n hx hb dX8_pay_23 rfl (lv_at hl 2 rfl) ?_
    refine lv_aload_n hx hb dX8_pay_24 rfl (lv_at hl 0 rfl) ?_
    refine h_getr hx hb hts iX8_pay_X7 hown hK hI g_a11 (by decide) rfl rfl 1 (by decide) rfl 13 rfl (hts (.fieldLink RX8 147 "CatLeases$State" "places" "[I") (List.mem_of_getElem? (i := 3) rfl)) (fun _ h9 => h9) dX8_pay_25 (fun a17 e_a17 g_a17 => ?_)
    refine lv_iload_n hx hb dX8_pay_28 rfl (lv_at hl 2 rfl) ?_
    refine h_iald (j := p1.toNatClampNeg) (lo := (-1)) (hi := 7) hx hb hK hI g_a17 (by decide) rfl (iv_in (n := 7) i8 (by decide) (by decide)) rfl (hI.iv1 (n := 7) g_a17 rfl (in_lt (iv_in (n := 7) i8 (by decide) (by decide))) rfl) dX8_pay_29 (fun v18 e_v18 i_v18 => ?_)
    refine h_gov hI (by decide) (va_runV (As := [.ref a11, .int p1, .int v18]) (rest := []) ⟨hx, hb, hml, hown, hts⟩ (h_consider_X4 l D g σ Z hZ0 M N R a16 g_a16 a11 g_a11 p1 v18) (cwV 3 hts gX8_pay_X4_consider rfl rfl rfl (by decide +kernel) ⟨Nat.le_of_ble_eq_true rfl, Nat.le_of_ble_eq_true rfl⟩) (h_preV hZ0 hK hE hI g_a16 (by decide) rfl) rfl rfl hl.1 rfl (lv_room (Nat.le_of_ble_eq_true rfl)) dX8_pay_30 ⟨Nat.le_of_ble_eq_true rfl, Nat.le_of_ble_eq_true rfl⟩) (fun M20 N21 R22 H locs q23 z_M20 hI => ?_)
    obtain ⟨rfl, rfl⟩ := q23
    refine lv_iconst (v := 0) hx hb dX8_pay_33 (by decide) ?_
    have J35 : ∀ (n : Nat) (M_35 : hM) (v3_35 : Int32) (H : Heap) (locs : List Loc) (ls : Array Slot), kI D g σ e_h_pay_X8 M s.heap M_35 N R H locs → lv_has ls 4 [(0, .ref x), (3, .int v3_35)] → iv v3_35 0 100 → 101 ≤ v3_35.toInt + (n : Int) → W p l e (headSpec wsX8_pay ({ frames := 3, cells := 0, slots := 0, locals := 68 })).room s m ar below meth c H locs 0 0 Q (F0 m 35 ls []) := by
      intro n
      induction n with
      | zero => intro M_35 v3_35 H locs ls hI hl i_v3_35 hn; exfalso; have hz := i_v3_35; simp only [iv] at hz; omega
      | succ n ih35 =>
        intro M_35 v3_35 H locs ls hI hl i_v3_35 hn35
        refine lv_iload_n hx hb dX8_pay_35 rfl (lv_at hl 1 rfl) ?_
        refine lv_bipush (v := 99) hx hb dX8_pay_36 (by decide) ?_
        refine lv_icmp_gt (tgt := 61) hx hb dX8_pay_38 (by decide) (fun c24 => ?_) (fun c24 => ?_)
        · have i25 : iv v3_35 100 100 := iv_lt2 c24 kc_99 i_v3_35 (by decide)
          refine lv_iconst (v := (-1)) hx hb dX8_pay_61 (by decide) ?_
          exact h_iret hQ hx hb hr hlocks rfl hK hI ⟨rfl, rfl, (iv_w (lo' := (-1)) (hi' := 99) kc_m1 (by decide) (by decide))⟩ dX8_pay_62
        · have i26 : iv v3_35 0 99 := iv_nlt2 c24 kc_99 i_v3_35 (by decide)
          refine lv_aload_n hx hb dX8_pay_41 rfl (lv_at hl 0 rfl) ?_
          refine h_getr hx hb hts iX8_pay_X8 hown hK hI g_x (by decide) rfl rfl 3 (by decide) rfl 4 rfl (hts (.fieldLink RX8 27 "CatLeases" "mews" "LCatLeases$Mews;") (List.mem_of_getElem? (i := 2) rfl)) (fun _ h9 => h9) dX8_pay_42 (fun a27 e_a27 g_a27 => ?_)
          have q28 : a16 = a27 := (e_a16).trans e_a27.symm
          subst q28
          refine lv_iconst (v := 0) hx hb dX8_pay_45 (by decide) ?_
          refine lv_iload_n hx hb dX8_pay_46 rfl (lv_at hl 1 rfl) ?_
          refine h_goi hI (by decide) (va_runV (As := [.int (0 : Int32), .int v3_35]) (rest := []) ⟨hx, hb, hml, hown, hts⟩ (h_likesBy_X4 l D g σ Z hZ0 M_35 N R a16 g_a16 (0 : Int32) v3_35) (cwV 2 hts gX8_pay_X4_likesBy rfl rfl rfl (by decide +kernel) ⟨Nat.le_of_ble_eq_true rfl, Nat.le_of_ble_eq_true rfl⟩) (h_preV hZ0 hK hE hI g_a16 (by decide) rfl) rfl rfl hl.1 rfl (lv_room (Nat.le_of_ble_eq_true rfl)) dX8_pay_47 ⟨Nat.le_of_ble_eq_true rfl, Nat.le_of_ble_eq_true rfl⟩) (fun r29 M30 N31 R32 H locs q33 z_M30 hI => ?_)
          obtain ⟨rfl, rfl⟩ := q33
          refine lv_if_le (tgt := 55) hx hb dX8_pay_50 (by decide) (fun c34 => ?_) (fun c34 => ?_)
          · have i35 : iv r29 (-2147483648) 0 := iv_le1 c34 (iv_any r29) kc_0 (by decide)
            obtain ⟨v36, e_v36⟩ : ∃ z : Int32, z = v3_35 + Int32.ofInt 1 := ⟨_, rfl⟩
            have i_v36 : iv v36 1 100 := by rw [e_v36]; exact iv_add i26 (ki_1) (by decide) (by decide) (by decide) (by decide)
            refine lv_iinc (v := v36) (lv' := [(3, .int v36), (0, .ref x)]) hx hb dX8_pay_55 hl (k := 1) rfl e_v36.symm (by decide) rfl (fun ls hl => ?_)
            refine lv_goto (tgt := 35) hx hb dX8_pay_58 (by decide) ?_
            exact ih35 M30 v36 H locs ls hI (lv_sub hl [1, 0] rfl) (iv_w (lo' := 0) (hi' := 100) i_v36 (by decide) (by decide)) (by have h9 := (h_inc e_v36 i26 ki_1 (by decide) (by decide)); omega)
          · have i37 : iv r29 1 2147483647 := iv_nle1 c34 (iv_any r29) kc_0 (by decide)
            refine lv_iload_n hx hb dX8_pay_53 rfl (lv_at hl 1 rfl) ?_
            exact h_iret hQ hx hb hr hlocks rfl hK hI ⟨rfl, rfl, (iv_w (lo' := (-1)) (hi' := 99) i26 (by decide) (by decide))⟩ dX8_pay_54
    refine lv_istore_n (lv' := [(3, .int (0 : Int32)), (2, .ref a11), (0, .ref x), (1, .int p1)]) hx hb dX8_pay_34 rfl hl (by decide) rfl (fun ls hl => ?_)
    exact J35 101 M20 (0 : Int32) H locs ls hI (lv_sub hl [2, 0] rfl) (iv_w (lo' := 0) (hi' := 100) kc_0 (by decide) (by decide)) (by have h9 := kc_0; simp only [iv] at h9; omega)
  · have i38 : iv r1 0 0 := iv_eq1 c7 i_r1 kc_0
    refine lv_iconst (v := (-1)) hx hb dX8_pay_8 (by decide) ?_
    exact h_iret hQ hx hb hr hlocks rfl hK hI ⟨rfl, rfl, (iv_w (lo' := (-1)) (hi' := 99) kc_m1 (by decide) (by decide))⟩ dX8_pay_9
abbrev e_h_borne_X8 : List (Nat × Nat) := [(14, 999), (18, 999)]
set_option maxHeartbeats 4000000 in
set_option maxRecDepth 100000 in
theorem h_borne_X8 (l : Launch) (D : va_G) (g : Nat → ClassId) (σ : Nat → Option Nat) (Z : State → Heap → Prop) (hZ0 : hZ σ Z) (M : hM) (N : hN) (R : hR) (x : Nat) (g_x : σ x = some 8) (p1 : Int32) : Met l yX8_borne wsX8_borne ({ frames := 3, cells := 0, slots := 0, locals := 68 }) (va_Pc [.ref x, .int p1] (hPre D g σ Z M N R)) (hQi D g σ e_h_borne_X8 M (fun (r : Int32) (M1 : hM) (N1 : hN) (R1 : hR) => N = N1 ∧ R = R1 ∧ iv r (-1) 9)) 0 0 (hA σ) := by
  refine h_head (cc := cX8_borne) (maxL := 4) (ret := (some .int)) (by decide) rfl (Nat.le_of_ble_eq_true rfl) e_h_borne_X8 ?_
  intro p e s m below meth c ls Q ar hQ hx hb hr hlocks hml hown hts hK hE H locs hI hl
  have hown : s.vm.findClass RX8 = some m.cls := hown
  have hl : lv_has ls 4 [(0, .ref x), (1, .int p1)] := hl
  refine lv_aload_n hx hb dX8_borne_0 rfl (lv_at hl 0 rfl) ?_
  refine lv_iload_n hx hb dX8_borne_1 rfl (lv_at hl 1 rfl) ?_
  refine h_goi hI (by decide) (va_runV (As := [.int p1]) (rest := []) ⟨hx, hb, hml, hown, hts⟩ (h_isInKeptRoom_X8 l D g σ Z hZ0 M N R x g_x p1) (cwV 1 hts gX8_borne_X8_isInKeptRoom rfl rfl rfl (by decide +kernel) ⟨Nat.le_of_ble_eq_true rfl, Nat.le_of_ble_eq_true rfl⟩) (h_preV hZ0 hK hE hI g_x (by decide) rfl) rfl rfl hl.1 rfl (lv_room (Nat.le_of_ble_eq_true rfl)) dX8_borne_2 ⟨Nat.le_of_ble_eq_true rfl, Nat.le_of_ble_eq_true rfl⟩) (fun r1 M2 N3 R4 H locs q5 z_M2 hI => ?_)
  obtain ⟨rfl, rfl, rfl, i_r1, z6⟩ := q5
  refine lv_if_ne (tgt := 10) hx hb dX8_borne_5 (by decide) (fun c7 => ?_) (fun c7 => ?_)
  · have i8 : iv p1 0 6 := z6 c7
    have i9 : iv r1 1 1 := iv_neL c7 i_r1 (by decide) (by decide)
    refine lv_aload_n hx hb dX8_borne_10 rfl (lv_at hl 0 rfl) ?_
    refine h_getr hx hb hts iX8_borne_X8 hown hK hI g_x (by decide) rfl rfl 4 (by decide) rfl 0 rfl (hts (.fieldLink RX8 34 "CatLeases" "acts" "LCatLeases$Acts;") (List.mem_of_getElem? (i := 1) rfl)) (fun _ h9 => h9) dX8_borne_11 (fun a10 e_a10 g_a10 => ?_)
    refine h_gor hI (by decide) (va_runV (As := []) (rest := []) ⟨hx, hb, hml, hown, hts⟩ (h_current_X0 l D g σ Z hZ0 M N R a10 g_a10) (cwV 0 hts gX8_borne_X0_current rfl rfl rfl (by decide +kernel) ⟨Nat.le_of_ble_eq_true rfl, Nat.le_of_ble_eq_true rfl⟩) (h_preV hZ0 hK hE hI g_a10 (by decide) rfl) rfl rfl hl.1 rfl (lv_room (Nat.le_of_ble_eq_true rfl)) dX8_borne_14 ⟨Nat.le_of_ble_eq_true rfl, Nat.le_of_ble_eq_true rfl⟩) (fun a11 M12 N13 R14 H locs q15 z_M12 hI => ?_)
    obtain ⟨rfl, rfl, rfl, g_a11⟩ := q15
    refine lv_astore_n (lv' := [(2, .ref a11), (0, .ref x), (1, .int p1)]) hx hb dX8_borne_17 rfl hl (by decide) rfl (fun ls hl => ?_)
    refine lv_aload_n hx hb dX8_borne_18 rfl (lv_at hl 1 rfl) ?_
    refine h_getr hx hb hts iX8_borne_X8 hown hK hI g_x (by decide) rfl rfl 3 (by decide) rfl 4 rfl (hts (.fieldLink RX8 27 "CatLeases" "mews" "LCatLeases$Mews;") (List.mem_of_getElem? (i := 2) rfl)) (fun _ h9 => h9) dX8_borne_19 (fun a16 e_a16 g_a16 => ?_)
    refine lv_aload_n hx hb dX8_borne_22 rfl (lv_at hl 0 rfl) ?_
    refine lv_iload_n hx hb dX8_borne_23 rfl (lv_at hl 2 rfl) ?_
    refine lv_aload_n hx hb dX8_borne_24 rfl (lv_at hl 0 rfl) ?_
    refine h_getr hx hb hts iX8_borne_X7 hown hK hI g_a11 (by decide) rfl rfl 1 (by decide) rfl 13 rfl (hts (.fieldLink RX8 147 "CatLeases$State" "places" "[I") (List.mem_of_getElem? (i := 3) rfl)) (fun _ h9 => h9) dX8_borne_25 (fun a17 e_a17 g_a17 => ?_)
    refine lv_iload_n hx hb dX8_borne_28 rfl (lv_at hl 2 rfl) ?_
    refine h_iald (j := p1.toNatClampNeg) (lo := (-1)) (hi := 7) hx hb hK hI g_a17 (by decide) rfl (iv_in (n := 7) i8 (by decide) (by decide)) rfl (hI.iv1 (n := 7) g_a17 rfl (in_lt (iv_in (n := 7) i8 (by decide) (by decide))) rfl) dX8_borne_29 (fun v18 e_v18 i_v18 => ?_)
    refine h_gov hI (by decide) (va_runV (As := [.ref a11, .int p1, .int v18]) (rest := []) ⟨hx, hb, hml, hown, hts⟩ (h_consider_X4 l D g σ Z hZ0 M N R a16 g_a16 a11 g_a11 p1 v18) (cwV 3 hts gX8_borne_X4_consider rfl rfl rfl (by decide +kernel) ⟨Nat.le_of_ble_eq_true rfl, Nat.le_of_ble_eq_true rfl⟩) (h_preV hZ0 hK hE hI g_a16 (by decide) rfl) rfl rfl hl.1 rfl (lv_room (Nat.le_of_ble_eq_true rfl)) dX8_borne_30 ⟨Nat.le_of_ble_eq_true rfl, Nat.le_of_ble_eq_true rfl⟩) (fun M20 N21 R22 H locs q23 z_M20 hI => ?_)
    obtain ⟨rfl, rfl⟩ := q23
    refine lv_bipush (v := 9) hx hb dX8_borne_33 (by decide) ?_
    have J36 : ∀ (n : Nat) (M_36 : hM) (v3_36 : Int32) (H : Heap) (locs : List Loc) (ls : Array Slot), kI D g σ e_h_borne_X8 M s.heap M_36 N R H locs → lv_has ls 4 [(0, .ref x), (3, .int v3_36)] → iv v3_36 (-1) 9 → v3_36.toInt ≤ (-2) + (n : Int) → W p l e (headSpec wsX8_borne ({ frames := 3, cells := 0, slots := 0, locals := 68 })).room s m ar below meth c H locs 0 0 Q (F0 m 36 ls []) := by
      intro n
      induction n with
      | zero => intro M_36 v3_36 H locs ls hI hl i_v3_36 hn; exfalso; have hz := i_v3_36; simp only [iv] at hz; omega
      | succ n ih36 =>
        intro M_36 v3_36 H locs ls hI hl i_v3_36 hn36
        refine lv_iload_n hx hb dX8_borne_36 rfl (lv_at hl 1 rfl) ?_
        refine lv_if_lt (tgt := 60) hx hb dX8_borne_37 (by decide) (fun c24 => ?_) (fun c24 => ?_)
        · have i25 : iv v3_36 (-1) (-1) := iv_lt1 c24 i_v3_36 kc_0 (by decide)
          refine lv_iconst (v := (-1)) hx hb dX8_borne_60 (by decide) ?_
          exact h_iret hQ hx hb hr hlocks rfl hK hI ⟨rfl, rfl, (iv_w (lo' := (-1)) (hi' := 9) kc_m1 (by decide) (by decide))⟩ dX8_borne_61
        · have i26 : iv v3_36 0 9 := iv_nlt1 c24 i_v3_36 kc_0 (by decide)
          refine lv_aload_n hx hb dX8_borne_40 rfl (lv_at hl 0 rfl) ?_
          refine h_getr hx hb hts iX8_borne_X8 hown hK hI g_x (by decide) rfl rfl 3 (by decide) rfl 4 rfl (hts (.fieldLink RX8 27 "CatLeases" "mews" "LCatLeases$Mews;") (List.mem_of_getElem? (i := 2) rfl)) (fun _ h9 => h9) dX8_borne_41 (fun a27 e_a27 g_a27 => ?_)
          have q28 : a16 = a27 := (e_a16).trans e_a27.symm
          subst q28
          refine lv_iconst (v := 3) hx hb dX8_borne_44 (by decide) ?_
          refine lv_iload_n hx hb dX8_borne_45 rfl (lv_at hl 1 rfl) ?_
          refine h_goi hI (by decide) (va_runV (As := [.int (3 : Int32), .int v3_36]) (rest := []) ⟨hx, hb, hml, hown, hts⟩ (h_likesBy_X4 l D g σ Z hZ0 M_36 N R a16 g_a16 (3 : Int32) v3_36) (cwV 2 hts gX8_borne_X4_likesBy rfl rfl rfl (by decide +kernel) ⟨Nat.le_of_ble_eq_true rfl, Nat.le_of_ble_eq_true rfl⟩) (h_preV hZ0 hK hE hI g_a16 (by decide) rfl) rfl rfl hl.1 rfl (lv_room (Nat.le_of_ble_eq_true rfl)) dX8_borne_46 ⟨Nat.le_of_ble_eq_true rfl, Nat.le_of_ble_eq_true rfl⟩) (fun r29 M30 N31 R32 H locs q33 z_M30 hI => ?_)
          obtain ⟨rfl, rfl⟩ := q33
          refine lv_if_le (tgt := 54) hx hb dX8_borne_49 (by decide) (fun c34 => ?_) (fun c34 => ?_)
          · have i35 : iv r29 (-2147483648) 0 := iv_le1 c34 (iv_any r29) kc_0 (by decide)
            obtain ⟨v36, e_v36⟩ : ∃ z : Int32, z = v3_36 + Int32.ofInt (-1) := ⟨_, rfl⟩
            have i_v36 : iv v36 (-1) 8 := by rw [e_v36]; exact iv_add i26 (ki_m1) (by decide) (by decide) (by decide) (by decide)
            refine lv_iinc (v := v36) (lv' := [(3, .int v36), (0, .ref x)]) hx hb dX8_borne_54 hl (k := 1) rfl e_v36.symm (by decide) rfl (fun ls hl => ?_)
            refine lv_goto (tgt := 36) hx hb dX8_borne_57 (by decide) ?_
            exact ih36 M30 v36 H locs ls hI (lv_sub hl [1, 0] rfl) (iv_w (lo' := (-1)) (hi' := 9) i_v36 (by decide) (by decide)) (by have h9 := (h_inc e_v36 i26 ki_m1 (by decide) (by decide)); omega)
          · have i37 : iv r29 1 2147483647 := iv_nle1 c34 (iv_any r29) kc_0 (by decide)
            refine lv_iload_n hx hb dX8_borne_52 rfl (lv_at hl 1 rfl) ?_
            exact h_iret hQ hx hb hr hlocks rfl hK hI ⟨rfl, rfl, (iv_w (lo' := (-1)) (hi' := 9) i26 (by decide) (by decide))⟩ dX8_borne_53
    refine lv_istore_n (lv' := [(3, .int (9 : Int32)), (2, .ref a11), (0, .ref x), (1, .int p1)]) hx hb dX8_borne_35 rfl hl (by decide) rfl (fun ls hl => ?_)
    exact J36 11 M20 (9 : Int32) H locs ls hI (lv_sub hl [2, 0] rfl) (iv_w (lo' := (-1)) (hi' := 9) kc_9 (by decide) (by decide)) (by have h9 := kc_9; simp only [iv] at h9; omega)
  · have i38 : iv r1 0 0 := iv_eq1 c7 i_r1 kc_0
    refine lv_iconst (v := (-1)) hx hb dX8_borne_8 (by decide) ?_
    exact h_iret hQ hx hb hr hlocks rfl hK hI ⟨rfl, rfl, (iv_w (lo' := (-1)) (hi' := 9) kc_m1 (by decide) (by decide))⟩ dX8_borne_9
abbrev e_h_bid_X8 : List (Nat × Nat) := [(1, 0), (1, 1), (1, 4), (1, 5), (8, 11), (13, 999), (14, 999), (15, 999), (18, 999)]
set_option maxHeartbeats 4000000 in
set_option maxRecDepth 100000 in
theorem h_bid_X8 (l : Launch) (D : va_G) (g : Nat → ClassId) (σ : Nat → Option Nat) (Z : State → Heap → Prop) (hZ0 : hZ σ Z) (M : hM) (N : hN) (R : hR) (x : Nat) (g_x : σ x = some 8) (p1 : Int32) (p2 : Int32) (p3 : Int32) : Met l yX8_bid wsX8_bid ({ frames := 5, cells := 0, slots := 0, locals := 120 }) (va_Pc [.ref x, .int p1, .int p2, .int p3] (hPre D g σ Z M N R)) (hQi D g σ e_h_bid_X8 M (fun (r : Int32) (M1 : hM) (N1 : hN) (R1 : hR) => N = N1 ∧ R = R1)) 0 0 (hA σ) := by
  refine h_head (cc := cX8_bid) (maxL := 6) (ret := (some .int)) (by decide) rfl (Nat.le_of_ble_eq_true rfl) e_h_bid_X8 ?_
  intro p e s m below meth c ls Q ar hQ hx hb hr hlocks hml hown hts hK hE H locs hI hl
  have hown : s.vm.findClass RX8 = some m.cls := hown
  have hl : lv_has ls 6 [(0, .ref x), (1, .int p1), (2, .int p2), (3, .int p3)] := hl
  refine lv_aload_n hx hb dX8_bid_0 rfl (lv_at hl 0 rfl) ?_
  refine lv_iconst (v := 0) hx hb dX8_bid_1 (by decide) ?_
  refine h_puti hx hb hts iX8_bid_X8 tyX8 tyX8_ok nmX8 hown hK hI g_x (by decide) rfl rfl 11 (by decide) rfl (hts (.fieldLink RX8 70 "CatLeases" "lyingCount" "I") (List.mem_of_getElem? (i := 1) rfl)) (fun _ h9 => h9) rfl .int (by decide +kernel) rfl rfl (iv_w (lo' := 0) (hi' := 7) kc_0 (by decide) (by decide)) rfl dX8_bid_2 (fun M1 H locs e_M1 hI => ?_)
  refine lv_iload_n hx hb dX8_bid_5 rfl (lv_at hl 1 rfl) ?_
  refine lv_iload_n hx hb dX8_bid_6 rfl (lv_at hl 2 rfl) ?_
  refine lv_icmp_eq (tgt := 34) hx hb dX8_bid_7 (by decide) (fun c2 => ?_) (fun c2 => ?_)
  · refine lv_iconst (v := (-1)) hx hb dX8_bid_34 (by decide) ?_
    exact h_iret hQ hx hb hr hlocks rfl hK hI ⟨rfl, rfl⟩ dX8_bid_35
  · refine lv_aload_n hx hb dX8_bid_10 rfl (lv_at hl 0 rfl) ?_
    refine lv_iload_n hx hb dX8_bid_11 rfl (lv_at hl 1 rfl) ?_
    refine h_goi hI (by decide) (va_runV (As := [.int p1]) (rest := []) ⟨hx, hb, hml, hown, hts⟩ (h_isOut_X8 l D g σ Z hZ0 M1 N R x g_x p1) (cwV 1 hts gX8_bid_X8_isOut rfl rfl rfl (by decide +kernel) ⟨Nat.le_of_ble_eq_true rfl, Nat.le_of_ble_eq_true rfl⟩) (h_preV hZ0 hK hE hI g_x (by decide) rfl) rfl rfl hl.1 rfl (lv_room (Nat.le_of_ble_eq_true rfl)) dX8_bid_12 ⟨Nat.le_of_ble_eq_true rfl, Nat.le_of_ble_eq_true rfl⟩) (fun r3 M4 N5 R6 H locs q7 z_M4 hI => ?_)
    obtain ⟨rfl, rfl, rfl, i_r3, z8⟩ := q7
    refine lv_if_eq (tgt := 34) hx hb dX8_bid_15 (by decide) (fun c9 => ?_) (fun c9 => ?_)
    · have i10 : iv r3 0 0 := iv_eq1 c9 i_r3 kc_0
      refine lv_iconst (v := (-1)) hx hb dX8_bid_34 (by decide) ?_
      exact h_iret hQ hx hb hr hlocks rfl hK hI ⟨rfl, rfl⟩ dX8_bid_35
    · have i11 : iv p1 0 6 := z8 c9
      have i12 : iv r3 1 1 := iv_neL c9 i_r3 (by decide) (by decide)
      refine lv_aload_n hx hb dX8_bid_18 rfl (lv_at hl 0 rfl) ?_
      refine lv_iload_n hx hb dX8_bid_19 rfl (lv_at hl 2 rfl) ?_
      refine h_goi hI (by decide) (va_runV (As := [.int p2]) (rest := []) ⟨hx, hb, hml, hown, hts⟩ (h_isOut_X8 l D g σ Z hZ0 M1 N R x g_x p2) (cwV 1 hts gX8_bid_X8_isOut rfl rfl rfl (by decide +kernel) ⟨Nat.le_of_ble_eq_true rfl, Nat.le_of_ble_eq_true rfl⟩) (h_preV hZ0 hK hE hI g_x (by decide) rfl) rfl rfl hl.1 rfl (lv_room (Nat.le_of_ble_eq_true rfl)) dX8_bid_20 ⟨Nat.le_of_ble_eq_true rfl, Nat.le_of_ble_eq_true rfl⟩) (fun r13 M14 N15 R16 H locs q17 z_M14 hI => ?_)
      obtain ⟨rfl, rfl, rfl, i_r13, z18⟩ := q17
      refine lv_if_eq (tgt := 34) hx hb dX8_bid_23 (by decide) (fun c19 => ?_) (fun c19 => ?_)
      · have i20 : iv r13 0 0 := iv_eq1 c19 i_r13 kc_0
        refine lv_iconst (v := (-1)) hx hb dX8_bid_34 (by decide) ?_
        exact h_iret hQ hx hb hr hlocks rfl hK hI ⟨rfl, rfl⟩ dX8_bid_35
      · have i21 : iv p2 0 6 := z18 c19
        have i22 : iv r13 1 1 := iv_neL c19 i_r13 (by decide) (by decide)
        refine lv_aload_n hx hb dX8_bid_26 rfl (lv_at hl 0 rfl) ?_
        refine lv_iload_n hx hb dX8_bid_27 rfl (lv_at hl 3 rfl) ?_
        refine h_goi hI (by decide) (va_runV (As := [.int p3]) (rest := []) ⟨hx, hb, hml, hown, hts⟩ (h_isRoom_X8 l D g σ Z hZ0 M1 N R x g_x p3) (cwV 1 hts gX8_bid_X8_isRoom rfl rfl rfl (by decide +kernel) ⟨Nat.le_of_ble_eq_true rfl, Nat.le_of_ble_eq_true rfl⟩) (h_preV hZ0 hK hE hI g_x (by decide) rfl) rfl rfl hl.1 rfl (lv_room (Nat.le_of_ble_eq_true rfl)) dX8_bid_28 ⟨Nat.le_of_ble_eq_true rfl, Nat.le_of_ble_eq_true rfl⟩) (fun r23 M24 N25 R26 H locs q27 z_M24 hI => ?_)
        obtain ⟨rfl, rfl, rfl, i_r23, z28⟩ := q27
        refine lv_if_ne (tgt := 36) hx hb dX8_bid_31 (by decide) (fun c29 => ?_) (fun c29 => ?_)
        · have i30 : iv p3 0 7 := z28 c29
          have i31 : iv r23 1 1 := iv_neL c29 i_r23 (by decide) (by decide)
          refine lv_aload_n hx hb dX8_bid_36 rfl (lv_at hl 0 rfl) ?_
          refine h_getr hx hb hts iX8_bid_X8 hown hK hI g_x (by decide) rfl rfl 4 (by decide) rfl 0 rfl (hts (.fieldLink RX8 34 "CatLeases" "acts" "LCatLeases$Acts;") (List.mem_of_getElem? (i := 2) rfl)) (fun _ h9 => h9) dX8_bid_37 (fun a32 e_a32 g_a32 => ?_)
          refine h_gor hI (by decide) (va_runV (As := []) (rest := []) ⟨hx, hb, hml, hown, hts⟩ (h_current_X0 l D g σ Z hZ0 M1 N R a32 g_a32) (cwV 0 hts gX8_bid_X0_current rfl rfl rfl (by decide +kernel) ⟨Nat.le_of_ble_eq_true rfl, Nat.le_of_ble_eq_true rfl⟩) (h_preV hZ0 hK hE hI g_a32 (by decide) rfl) rfl rfl hl.1 rfl (lv_room (Nat.le_of_ble_eq_true rfl)) dX8_bid_40 ⟨Nat.le_of_ble_eq_true rfl, Nat.le_of_ble_eq_true rfl⟩) (fun a33 M34 N35 R36 H locs q37 z_M34 hI => ?_)
          obtain ⟨rfl, rfl, rfl, g_a33⟩ := q37
          refine lv_astore (lv' := [(4, .ref a33), (0, .ref x), (1, .int p1), (2, .int p2), (3, .int p3)]) hx hb dX8_bid_43 hl (by decide) rfl (fun ls hl => ?_)
          refine lv_aload hx hb dX8_bid_45 (lv_at hl 0 rfl) ?_
          refine lv_iload_n hx hb dX8_bid_47 rfl (lv_at hl 4 rfl) ?_
          refine h_goi hI (by decide) (va_runV (As := [.int p3]) (rest := []) ⟨hx, hb, hml, hown, hts⟩ (h_isKept_X7 l D g σ Z hZ0 M1 N R a33 g_a33 p3) (cwV 1 hts gX8_bid_X7_isKept rfl rfl rfl (by decide +kernel) ⟨Nat.le_of_ble_eq_true rfl, Nat.le_of_ble_eq_true rfl⟩) (h_preV hZ0 hK hE hI g_a33 (by decide) rfl) rfl rfl hl.1 rfl (lv_room (Nat.le_of_ble_eq_true rfl)) dX8_bid_48 ⟨Nat.le_of_ble_eq_true rfl, Nat.le_of_ble_eq_true rfl⟩) (fun r38 M39 N40 R41 H locs q42 z_M39 hI => ?_)
          obtain ⟨rfl, rfl, rfl, i_r38, z43, z44⟩ := q42
          refine lv_if_eq (tgt := 68) hx hb dX8_bid_51 (by decide) (fun c45 => ?_) (fun c45 => ?_)
          · have i46 : iv r38 0 0 := iv_eq1 c45 i_r38 kc_0
            refine lv_iconst (v := (-1)) hx hb dX8_bid_68 (by decide) ?_
            exact h_iret hQ hx hb hr hlocks rfl hK hI ⟨rfl, rfl⟩ dX8_bid_69
          · have i47 := z44 c45
            have i48 : iv r38 1 1 := iv_neL c45 i_r38 (by decide) (by decide)
            refine lv_aload_n hx hb dX8_bid_54 rfl (lv_at hl 1 rfl) ?_
            refine h_getr hx hb hts iX8_bid_X8 hown hK hI g_x (by decide) rfl rfl 3 (by decide) rfl 4 rfl (hts (.fieldLink RX8 27 "CatLeases" "mews" "LCatLeases$Mews;") (List.mem_of_getElem? (i := 3) rfl)) (fun _ h9 => h9) dX8_bid_55 (fun a49 e_a49 g_a49 => ?_)
            refine lv_aload hx hb dX8_bid_58 (lv_at hl 0 rfl) ?_
            refine lv_iload_n hx hb dX8_bid_60 rfl (lv_at hl 4 rfl) ?_
            refine h_goi hI (by decide) (va_runV (As := [.ref a33, .int p3]) (rest := []) ⟨hx, hb, hml, hown, hts⟩ (h_whoIsIn_X4 l D g σ Z hZ0 M1 N R a49 g_a49 a33 g_a33 p3) (cwV 2 hts gX8_bid_X4_whoIsIn rfl rfl rfl (by decide +kernel) ⟨Nat.le_of_ble_eq_true rfl, Nat.le_of_ble_eq_true rfl⟩) (h_preV hZ0 hK hE hI g_a49 (by decide) rfl) rfl rfl hl.1 rfl (lv_room (Nat.le_of_ble_eq_true rfl)) dX8_bid_61 ⟨Nat.le_of_ble_eq_true rfl, Nat.le_of_ble_eq_true rfl⟩) (fun r50 M51 N52 R53 H locs q54 z_M51 hI => ?_)
            obtain ⟨rfl, rfl, rfl, i_r50⟩ := q54
            refine lv_iconst (v := (-1)) hx hb dX8_bid_64 (by decide) ?_
            refine lv_icmp_eq (tgt := 70) hx hb dX8_bid_65 (by decide) (fun c55 => ?_) (fun c55 => ?_)
            · have i56 : iv r50 (-1) (-1) := iv_eq1 c55 i_r50 kc_m1
              refine lv_aload_n hx hb dX8_bid_70 rfl (lv_at hl 1 rfl) ?_
              refine h_getr hx hb hts iX8_bid_X8 hown hK hI g_x (by decide) rfl rfl 9 (by decide) rfl 1 rfl (hts (.fieldLink RX8 62 "CatLeases" "auction" "LCatLeases$Auction;") (List.mem_of_getElem? (i := 4) rfl)) (fun _ h9 => h9) dX8_bid_71 (fun a57 e_a57 g_a57 => ?_)
              refine lv_aload_n hx hb dX8_bid_74 rfl (lv_at hl 1 rfl) ?_
              refine h_getr hx hb hts iX8_bid_X8 hown hK hI g_x (by decide) rfl rfl 3 (by decide) rfl 4 rfl (hts (.fieldLink RX8 27 "CatLeases" "mews" "LCatLeases$Mews;") (List.mem_of_getElem? (i := 3) rfl)) (fun _ h9 => h9) dX8_bid_75 (fun a58 e_a58 g_a58 => ?_)
              have q59 : a49 = a58 := (e_a49).trans e_a58.symm
              subst q59
              refine lv_aload hx hb dX8_bid_78 (lv_at hl 0 rfl) ?_
              refine lv_iload_n hx hb dX8_bid_80 rfl (lv_at hl 4 rfl) ?_
              refine lv_iload_n hx hb dX8_bid_81 rfl (lv_at hl 2 rfl) ?_
              refine lv_iload_n hx hb dX8_bid_82 rfl (lv_at hl 3 rfl) ?_
              refine h_gov hI (by decide) (va_runV (As := [.ref a49, .ref a33, .int p3, .int p1, .int p2]) (rest := []) ⟨hx, hb, hml, hown, hts⟩ (h_open_X1 l D g σ Z hZ0 M1 N R a57 g_a57 a49 g_a49 a33 g_a33 p3 p1 i11 p2 i21) (cwV 5 hts gX8_bid_X1_open rfl rfl rfl (by decide +kernel) ⟨Nat.le_of_ble_eq_true rfl, Nat.le_of_ble_eq_true rfl⟩) (h_preV hZ0 hK hE hI g_a57 (by decide) rfl) rfl rfl hl.1 rfl (lv_room (Nat.le_of_ble_eq_true rfl)) dX8_bid_83 ⟨Nat.le_of_ble_eq_true rfl, Nat.le_of_ble_eq_true rfl⟩) (fun M61 N62 R63 H locs q64 z_M61 hI => ?_)
              obtain ⟨rfl, rfl⟩ := q64
              refine lv_aload_n hx hb dX8_bid_86 rfl (lv_at hl 1 rfl) ?_
              refine h_getr hx hb hts iX8_bid_X8 hown hK hI g_x (by decide) rfl rfl 9 (by decide) rfl 1 rfl (hts (.fieldLink RX8 62 "CatLeases" "auction" "LCatLeases$Auction;") (List.mem_of_getElem? (i := 4) rfl)) (fun _ h9 => h9) dX8_bid_87 (fun a65 e_a65 g_a65 => ?_)
              have q66 : a57 = a65 := (e_a57).trans e_a65.symm
              subst q66
              refine h_goi hI (by decide) (va_runV (As := []) (rest := []) ⟨hx, hb, hml, hown, hts⟩ (h_countRests_X1 l D g σ Z hZ0 M61 N R a57 g_a57) (cwV 0 hts gX8_bid_X1_countRests rfl rfl rfl (by decide +kernel) ⟨Nat.le_of_ble_eq_true rfl, Nat.le_of_ble_eq_true rfl⟩) (h_preV hZ0 hK hE hI g_a57 (by decide) rfl) rfl rfl hl.1 rfl (lv_room (Nat.le_of_ble_eq_true rfl)) dX8_bid_90 ⟨Nat.le_of_ble_eq_true rfl, Nat.le_of_ble_eq_true rfl⟩) (fun r67 M68 N69 R70 H locs q71 z_M68 hI => ?_)
              obtain ⟨rfl, rfl⟩ := q71
              refine lv_istore (lv' := [(5, .int r67), (4, .ref a33), (0, .ref x), (1, .int p1), (2, .int p2), (3, .int p3)]) hx hb dX8_bid_93 hl (by decide) rfl (fun ls hl => ?_)
              refine lv_iload hx hb dX8_bid_95 (lv_at hl 0 rfl) ?_
              refine lv_if_le (tgt := 131) hx hb dX8_bid_97 (by decide) (fun c72 => ?_) (fun c72 => ?_)
              · have i73 : iv r67 (-2147483648) 0 := iv_le1 c72 (iv_any r67) kc_0 (by decide)
                refine lv_iload hx hb dX8_bid_131 (lv_at hl 0 rfl) ?_
                exact h_iret hQ hx hb hr hlocks rfl hK hI ⟨rfl, rfl⟩ dX8_bid_133
              · have i74 : iv r67 1 2147483647 := iv_nle1 c72 (iv_any r67) kc_0 (by decide)
                refine lv_aload_n hx hb dX8_bid_100 rfl (lv_at hl 2 rfl) ?_
                refine h_getr hx hb hts iX8_bid_X8 hown hK hI g_x (by decide) rfl rfl 10 (by decide) rfl 13 rfl (hts (.fieldLink RX8 66 "CatLeases" "lying" "[I") (List.mem_of_getElem? (i := 5) rfl)) (fun _ h9 => h9) dX8_bid_101 (fun a75 e_a75 g_a75 => ?_)
                refine lv_iconst (v := 0) hx hb dX8_bid_104 (by decide) ?_
                refine lv_aload_n hx hb dX8_bid_105 rfl (lv_at hl 2 rfl) ?_
                refine h_getr hx hb hts iX8_bid_X8 hown hK hI g_x (by decide) rfl rfl 9 (by decide) rfl 1 rfl (hts (.fieldLink RX8 62 "CatLeases" "auction" "LCatLeases$Auction;") (List.mem_of_getElem? (i := 4) rfl)) (fun _ h9 => h9) dX8_bid_106 (fun a76 e_a76 g_a76 => ?_)
                have q77 : a57 = a76 := (e_a57).trans e_a76.symm
                subst q77
                refine h_geti (lo := 0) (hi := 5) hx hb hts iX8_bid_X1 hown hK hI g_a57 (by decide) rfl rfl 0 (by decide) rfl rfl (hts (.fieldLink RX8 290 "CatLeases$Auction" "firstBid" "I") (List.mem_of_getElem? (i := 6) rfl)) (fun _ h9 => h9) dX8_bid_109 (fun v78 e_v78 i_v78 => ?_)
                refine h_iast (j := 0) hx hb hK hI g_a75 (by decide) rfl (iv_in (n := 7) kc_0 (by decide) (by decide)) (by decide) (iv_w (lo' := (-1)) (hi' := 7) i_v78 (by decide) (by decide)) rfl dX8_bid_112 (fun M79 H locs e_M79 hI => ?_)
                refine lv_aload_n hx hb dX8_bid_113 rfl (lv_at hl 2 rfl) ?_
                refine h_getr hx hb hts iX8_bid_X8 hown hK hI g_x (by decide) rfl rfl 10 (by decide) rfl 13 rfl (hts (.fieldLink RX8 66 "CatLeases" "lying" "[I") (List.mem_of_getElem? (i := 5) rfl)) (fun _ h9 => h9) dX8_bid_114 (fun a80 e_a80 g_a80 => ?_)
                have q81 : a75 = a80 := (e_a75).trans e_a80.symm
                subst q81
                refine lv_iconst (v := 1) hx hb dX8_bid_117 (by decide) ?_
                refine lv_aload_n hx hb dX8_bid_118 rfl (lv_at hl 2 rfl) ?_
                refine h_getr hx hb hts iX8_bid_X8 hown hK hI g_x (by decide) rfl rfl 9 (by decide) rfl 1 rfl (hts (.fieldLink RX8 62 "CatLeases" "auction" "LCatLeases$Auction;") (List.mem_of_getElem? (i := 4) rfl)) (fun _ h9 => h9) dX8_bid_119 (fun a82 e_a82 g_a82 => ?_)
                have q83 : a57 = a82 := (e_a57).trans e_a82.symm
                subst q83
                refine h_geti (lo := 0) (hi := 5) hx hb hts iX8_bid_X1 hown hK hI g_a57 (by decide) rfl rfl 1 (by decide) rfl rfl (hts (.fieldLink RX8 293 "CatLeases$Auction" "otherBid" "I") (List.mem_of_getElem? (i := 7) rfl)) (fun _ h9 => h9) dX8_bid_122 (fun v84 e_v84 i_v84 => ?_)
                refine h_iast (j := 1) hx hb hK hI g_a75 (by decide) rfl (iv_in (n := 7) kc_1 (by decide) (by decide)) (by decide) (iv_w (lo' := (-1)) (hi' := 7) i_v84 (by decide) (by decide)) rfl dX8_bid_125 (fun M85 H locs e_M85 hI => ?_)
                refine lv_aload_n hx hb dX8_bid_126 rfl (lv_at hl 2 rfl) ?_
                refine lv_iconst (v := 2) hx hb dX8_bid_127 (by decide) ?_
                refine h_puti hx hb hts iX8_bid_X8 tyX8 tyX8_ok nmX8 hown hK hI g_x (by decide) rfl rfl 11 (by decide) rfl (hts (.fieldLink RX8 70 "CatLeases" "lyingCount" "I") (List.mem_of_getElem? (i := 1) rfl)) (fun _ h9 => h9) rfl .int (by decide +kernel) rfl rfl (iv_w (lo' := 0) (hi' := 7) kc_2 (by decide) (by decide)) rfl dX8_bid_128 (fun M86 H locs e_M86 hI => ?_)
                refine lv_iload hx hb dX8_bid_131 (lv_at hl 0 rfl) ?_
                exact h_iret hQ hx hb hr hlocks rfl hK hI ⟨rfl, rfl⟩ dX8_bid_133
            · have i87 : iv r50 0 6 := iv_neL c55 i_r50 (by decide) (by decide)
              refine lv_iconst (v := (-1)) hx hb dX8_bid_68 (by decide) ?_
              exact h_iret hQ hx hb hr hlocks rfl hK hI ⟨rfl, rfl⟩ dX8_bid_69
        · have i88 : iv r23 0 0 := iv_eq1 c29 i_r23 kc_0
          refine lv_iconst (v := (-1)) hx hb dX8_bid_34 (by decide) ?_
          exact h_iret hQ hx hb hr hlocks rfl hK hI ⟨rfl, rfl⟩ dX8_bid_35
abbrev e_h_lies_X8 : List (Nat × Nat) := []
set_option maxHeartbeats 4000000 in
set_option maxRecDepth 100000 in
theorem h_lies_X8 (l : Launch) (D : va_G) (g : Nat → ClassId) (σ : Nat → Option Nat) (Z : State → Heap → Prop) (hZ0 : hZ σ Z) (M : hM) (N : hN) (R : hR) (x : Nat) (g_x : σ x = some 8) (p1 : Int32) : Met l yX8_lies wsX8_lies ({ frames := 0, cells := 0, slots := 0, locals := 0 }) (va_Pc [.ref x, .int p1] (hPre D g σ Z M N R)) (hQi D g σ e_h_lies_X8 M (fun (r : Int32) (M1 : hM) (N1 : hN) (R1 : hR) => M = M1 ∧ N = N1 ∧ R = R1 ∧ iv r (-2) 7)) 0 0 (hA σ) := by
  refine h_head (cc := cX8_lies) (maxL := 2) (ret := (some .int)) (by decide) rfl (Nat.le_of_ble_eq_true rfl) e_h_lies_X8 ?_
  intro p e s m below meth c ls Q ar hQ hx hb hr hlocks hml hown hts hK hE H locs hI hl
  have hown : s.vm.findClass RX8 = some m.cls := hown
  have hl : lv_has ls 2 [(0, .ref x), (1, .int p1)] := hl
  refine lv_iload_n hx hb dX8_lies_0 rfl (lv_at hl 1 rfl) ?_
  refine lv_if_lt (tgt := 21) hx hb dX8_lies_1 (by decide) (fun c1 => ?_) (fun c1 => ?_)
  · have i2 : iv p1 (-2147483648) (-1) := iv_lt1 c1 (iv_any p1) kc_0 (by decide)
    refine lv_bipush (v := (-2)) hx hb dX8_lies_21 (by decide) ?_
    exact h_iret hQ hx hb hr hlocks rfl hK hI ⟨rfl, rfl, rfl, (iv_w (lo' := (-2)) (hi' := 7) kc_m2 (by decide) (by decide))⟩ dX8_lies_23
  · have i3 : iv p1 0 2147483647 := iv_nlt1 c1 (iv_any p1) kc_0 (by decide)
    refine lv_iload_n hx hb dX8_lies_4 rfl (lv_at hl 1 rfl) ?_
    refine lv_aload_n hx hb dX8_lies_5 rfl (lv_at hl 0 rfl) ?_
    refine h_geti (lo := 0) (hi := 7) hx hb hts iX8_lies_X8 hown hK hI g_x (by decide) rfl rfl 11 (by decide) rfl rfl (hts (.fieldLink RX8 70 "CatLeases" "lyingCount" "I") (List.mem_of_getElem? (i := 1) rfl)) (fun _ h9 => h9) dX8_lies_6 (fun v4 e_v4 i_v4 => ?_)
    refine lv_icmp_ge (tgt := 21) hx hb dX8_lies_9 (by decide) (fun c5 => ?_) (fun c5 => ?_)
    · refine lv_bipush (v := (-2)) hx hb dX8_lies_21 (by decide) ?_
      exact h_iret hQ hx hb hr hlocks rfl hK hI ⟨rfl, rfl, rfl, (iv_w (lo' := (-2)) (hi' := 7) kc_m2 (by decide) (by decide))⟩ dX8_lies_23
    · have i6 : iv v4 1 7 := iv_nle1 c5 i_v4 i3 (by decide)
      have i7 : iv p1 0 6 := iv_nle2 c5 i_v4 i3 (by decide)
      refine lv_aload_n hx hb dX8_lies_12 rfl (lv_at hl 0 rfl) ?_
      refine h_getr hx hb hts iX8_lies_X8 hown hK hI g_x (by decide) rfl rfl 10 (by decide) rfl 13 rfl (hts (.fieldLink RX8 66 "CatLeases" "lying" "[I") (List.mem_of_getElem? (i := 2) rfl)) (fun _ h9 => h9) dX8_lies_13 (fun a8 e_a8 g_a8 => ?_)
      refine lv_iload_n hx hb dX8_lies_16 rfl (lv_at hl 1 rfl) ?_
      refine h_iald (j := p1.toNatClampNeg) (lo := (-1)) (hi := 7) hx hb hK hI g_a8 (by decide) rfl (iv_in (n := 7) i7 (by decide) (by decide)) rfl (hI.iv1 (n := 7) g_a8 rfl (in_lt (iv_in (n := 7) i7 (by decide) (by decide))) rfl) dX8_lies_17 (fun v9 e_v9 i_v9 => ?_)
      refine lv_goto (tgt := 23) hx hb dX8_lies_18 (by decide) ?_
      exact h_iret hQ hx hb hr hlocks rfl hK hI ⟨rfl, rfl, rfl, (iv_w (lo' := (-2)) (hi' := 7) i_v9 (by decide) (by decide))⟩ dX8_lies_23
abbrev e_h_keeper_X8 : List (Nat × Nat) := []
set_option maxHeartbeats 4000000 in
set_option maxRecDepth 100000 in
theorem h_keeper_X8 (l : Launch) (D : va_G) (g : Nat → ClassId) (σ : Nat → Option Nat) (Z : State → Heap → Prop) (hZ0 : hZ σ Z) (M : hM) (N : hN) (R : hR) (x : Nat) (g_x : σ x = some 8) (p1 : Int32) (p2 : Int32) : Met l yX8_keeper wsX8_keeper ({ frames := 1, cells := 0, slots := 0, locals := 24 }) (va_Pc [.ref x, .int p1, .int p2] (hPre D g σ Z M N R)) (hQi D g σ e_h_keeper_X8 M (fun (r : Int32) (M1 : hM) (N1 : hN) (R1 : hR) => M = M1 ∧ N = N1 ∧ R = R1 ∧ iv r (-2) 5)) 0 0 (hA σ) := by
  refine h_head (cc := cX8_keeper) (maxL := 4) (ret := (some .int)) (by decide) rfl (Nat.le_of_ble_eq_true rfl) e_h_keeper_X8 ?_
  intro p e s m below meth c ls Q ar hQ hx hb hr hlocks hml hown hts hK hE H locs hI hl
  have hown : s.vm.findClass RX8 = some m.cls := hown
  have hl : lv_has ls 4 [(0, .ref x), (1, .int p1), (2, .int p2)] := hl
  refine lv_aload_n hx hb dX8_keeper_0 rfl (lv_at hl 0 rfl) ?_
  refine lv_iload_n hx hb dX8_keeper_1 rfl (lv_at hl 1 rfl) ?_
  refine h_goi hI (by decide) (va_runV (As := [.int p1]) (rest := []) ⟨hx, hb, hml, hown, hts⟩ (h_isRoom_X8 l D g σ Z hZ0 M N R x g_x p1) (cwV 1 hts gX8_keeper_X8_isRoom rfl rfl rfl (by decide +kernel) ⟨Nat.le_of_ble_eq_true rfl, Nat.le_of_ble_eq_true rfl⟩) (h_preV hZ0 hK hE hI g_x (by decide) rfl) rfl rfl hl.1 rfl (lv_room (Nat.le_of_ble_eq_true rfl)) dX8_keeper_2 ⟨Nat.le_of_ble_eq_true rfl, Nat.le_of_ble_eq_true rfl⟩) (fun r1 M2 N3 R4 H locs q5 z_M2 hI => ?_)
  obtain ⟨rfl, rfl, rfl, i_r1, z6⟩ := q5
  refine lv_if_eq (tgt := 16) hx hb dX8_keeper_5 (by decide) (fun c7 => ?_) (fun c7 => ?_)
  · have i8 : iv r1 0 0 := iv_eq1 c7 i_r1 kc_0
    refine lv_bipush (v := (-2)) hx hb dX8_keeper_16 (by decide) ?_
    exact h_iret hQ hx hb hr hlocks rfl hK hI ⟨rfl, rfl, rfl, (iv_w (lo' := (-2)) (hi' := 5) kc_m2 (by decide) (by decide))⟩ dX8_keeper_18
  · have i9 : iv p1 0 7 := z6 c7
    have i10 : iv r1 1 1 := iv_neL c7 i_r1 (by decide) (by decide)
    refine lv_aload_n hx hb dX8_keeper_8 rfl (lv_at hl 0 rfl) ?_
    refine lv_iload_n hx hb dX8_keeper_9 rfl (lv_at hl 2 rfl) ?_
    refine h_goi hI (by decide) (va_runV (As := [.int p2]) (rest := []) ⟨hx, hb, hml, hown, hts⟩ (h_areCats_X8 l D g σ Z hZ0 M N R x g_x p2) (cwV 1 hts gX8_keeper_X8_areCats rfl rfl rfl (by decide +kernel) ⟨Nat.le_of_ble_eq_true rfl, Nat.le_of_ble_eq_true rfl⟩) (h_preV hZ0 hK hE hI g_x (by decide) rfl) rfl rfl hl.1 rfl (lv_room (Nat.le_of_ble_eq_true rfl)) dX8_keeper_10 ⟨Nat.le_of_ble_eq_true rfl, Nat.le_of_ble_eq_true rfl⟩) (fun r11 M12 N13 R14 H locs q15 z_M12 hI => ?_)
    obtain ⟨rfl, rfl, rfl, i_r11, z16⟩ := q15
    refine lv_if_ne (tgt := 19) hx hb dX8_keeper_13 (by decide) (fun c17 => ?_) (fun c17 => ?_)
    · have i18 : iv p2 0 63 := z16 c17
      have i19 : iv r11 1 1 := iv_neL c17 i_r11 (by decide) (by decide)
      refine lv_aload_n hx hb dX8_keeper_19 rfl (lv_at hl 0 rfl) ?_
      refine h_getr hx hb hts iX8_keeper_X8 hown hK hI g_x (by decide) rfl rfl 4 (by decide) rfl 0 rfl (hts (.fieldLink RX8 34 "CatLeases" "acts" "LCatLeases$Acts;") (List.mem_of_getElem? (i := 1) rfl)) (fun _ h9 => h9) dX8_keeper_20 (fun a20 e_a20 g_a20 => ?_)
      refine h_gor hI (by decide) (va_runV (As := []) (rest := []) ⟨hx, hb, hml, hown, hts⟩ (h_current_X0 l D g σ Z hZ0 M N R a20 g_a20) (cwV 0 hts gX8_keeper_X0_current rfl rfl rfl (by decide +kernel) ⟨Nat.le_of_ble_eq_true rfl, Nat.le_of_ble_eq_true rfl⟩) (h_preV hZ0 hK hE hI g_a20 (by decide) rfl) rfl rfl hl.1 rfl (lv_room (Nat.le_of_ble_eq_true rfl)) dX8_keeper_23 ⟨Nat.le_of_ble_eq_true rfl, Nat.le_of_ble_eq_true rfl⟩) (fun a21 M22 N23 R24 H locs q25 z_M22 hI => ?_)
      obtain ⟨rfl, rfl, rfl, g_a21⟩ := q25
      refine lv_astore_n (lv' := [(3, .ref a21), (0, .ref x), (1, .int p1), (2, .int p2)]) hx hb dX8_keeper_26 rfl hl (by decide) rfl (fun ls hl => ?_)
      refine lv_aload_n hx hb dX8_keeper_27 rfl (lv_at hl 1 rfl) ?_
      refine h_getr hx hb hts iX8_keeper_X8 hown hK hI g_x (by decide) rfl rfl 3 (by decide) rfl 4 rfl (hts (.fieldLink RX8 27 "CatLeases" "mews" "LCatLeases$Mews;") (List.mem_of_getElem? (i := 2) rfl)) (fun _ h9 => h9) dX8_keeper_28 (fun a26 e_a26 g_a26 => ?_)
      refine lv_aload_n hx hb dX8_keeper_31 rfl (lv_at hl 0 rfl) ?_
      refine h_getr hx hb hts iX8_keeper_X7 hown hK hI g_a21 (by decide) rfl rfl 0 (by decide) rfl 12 rfl (hts (.fieldLink RX8 138 "CatLeases$State" "keepers" "[I") (List.mem_of_getElem? (i := 3) rfl)) (fun _ h9 => h9) dX8_keeper_32 (fun a27 e_a27 g_a27 => ?_)
      refine lv_iload_n hx hb dX8_keeper_35 rfl (lv_at hl 2 rfl) ?_
      refine h_iald (j := p1.toNatClampNeg) (lo := (-1)) (hi := 5) hx hb hK hI g_a27 (by decide) rfl (iv_in (n := 8) i9 (by decide) (by decide)) rfl (hI.iv1 (n := 8) g_a27 rfl (in_lt (iv_in (n := 8) i9 (by decide) (by decide))) rfl) dX8_keeper_36 (fun v28 e_v28 i_v28 => ?_)
      refine lv_aload_n hx hb dX8_keeper_37 rfl (lv_at hl 0 rfl) ?_
      refine h_geti (lo := (-2147483648)) (hi := 2147483647) hx hb hts iX8_keeper_X7 hown hK hI g_a21 (by decide) rfl rfl 5 (by decide) rfl rfl (hts (.fieldLink RX8 299 "CatLeases$State" "living" "I") (List.mem_of_getElem? (i := 4) rfl)) (fun _ h9 => h9) dX8_keeper_38 (fun v29 e_v29 i_v29 => ?_)
      refine lv_iload_n hx hb dX8_keeper_41 rfl (lv_at hl 3 rfl) ?_
      refine lv_iconst (v := (-1)) hx hb dX8_keeper_42 (by decide) ?_
      refine lv_ixor hx hb dX8_keeper_43 ?_
      refine h_nm (lo := (-2147483648)) (hi := 2147483647) (iv_any _) (fun v30 e_v30 i_v30 => ?_)
      refine lv_iand hx hb dX8_keeper_44 ?_
      refine h_nm (lo := (-2147483648)) (hi := 2147483647) (iv_any _) (fun v31 e_v31 i_v31 => ?_)
      refine h_goi hI (by decide) (va_runV (As := [.int v28, .int v31]) (rest := []) ⟨hx, hb, hml, hown, hts⟩ (h_livingHeir_X4 l D g σ Z hZ0 M N R a26 g_a26 v28 v31) (cwV 2 hts gX8_keeper_X4_livingHeir rfl rfl rfl (by decide +kernel) ⟨Nat.le_of_ble_eq_true rfl, Nat.le_of_ble_eq_true rfl⟩) (h_preV hZ0 hK hE hI g_a26 (by decide) rfl) rfl rfl hl.1 rfl (lv_room (Nat.le_of_ble_eq_true rfl)) dX8_keeper_45 ⟨Nat.le_of_ble_eq_true rfl, Nat.le_of_ble_eq_true rfl⟩) (fun r32 M33 N34 R35 H locs q36 z_M33 hI => ?_)
      obtain ⟨rfl, rfl, rfl, i_r32⟩ := q36
      exact h_iret hQ hx hb hr hlocks rfl hK hI ⟨rfl, rfl, rfl, (iv_w (lo' := (-2)) (hi' := 5) i_r32 (by decide) (by decide))⟩ dX8_keeper_48
    · have i37 : iv r11 0 0 := iv_eq1 c17 i_r11 kc_0
      refine lv_bipush (v := (-2)) hx hb dX8_keeper_16 (by decide) ?_
      exact h_iret hQ hx hb hr hlocks rfl hK hI ⟨rfl, rfl, rfl, (iv_w (lo' := (-2)) (hi' := 5) kc_m2 (by decide) (by decide))⟩ dX8_keeper_18
abbrev e_h_probate_X8 : List (Nat × Nat) := []
set_option maxHeartbeats 4000000 in
set_option maxRecDepth 100000 in
theorem h_probate_X8 (l : Launch) (D : va_G) (g : Nat → ClassId) (σ : Nat → Option Nat) (Z : State → Heap → Prop) (hZ0 : hZ σ Z) (M : hM) (N : hN) (R : hR) (x : Nat) (g_x : σ x = some 8) (p1 : Int32) : Met l yX8_probate wsX8_probate ({ frames := 1, cells := 0, slots := 0, locals := 24 }) (va_Pc [.ref x, .int p1] (hPre D g σ Z M N R)) (hQi D g σ e_h_probate_X8 M (fun (r : Int32) (M1 : hM) (N1 : hN) (R1 : hR) => M = M1 ∧ N = N1 ∧ R = R1)) 0 0 (hA σ) := by
  refine h_head (cc := cX8_probate) (maxL := 5) (ret := (some .int)) (by decide) rfl (Nat.le_of_ble_eq_true rfl) e_h_probate_X8 ?_
  intro p e s m below meth c ls Q ar hQ hx hb hr hlocks hml hown hts hK hE H locs hI hl
  have hown : s.vm.findClass RX8 = some m.cls := hown
  have hl : lv_has ls 5 [(0, .ref x), (1, .int p1)] := hl
  refine lv_aload_n hx hb dX8_probate_0 rfl (lv_at hl 0 rfl) ?_
  refine lv_iload_n hx hb dX8_probate_1 rfl (lv_at hl 1 rfl) ?_
  refine h_goi hI (by decide) (va_runV (As := [.int p1]) (rest := []) ⟨hx, hb, hml, hown, hts⟩ (h_areCats_X8 l D g σ Z hZ0 M N R x g_x p1) (cwV 1 hts gX8_probate_X8_areCats rfl rfl rfl (by decide +kernel) ⟨Nat.le_of_ble_eq_true rfl, Nat.le_of_ble_eq_true rfl⟩) (h_preV hZ0 hK hE hI g_x (by decide) rfl) rfl rfl hl.1 rfl (lv_room (Nat.le_of_ble_eq_true rfl)) dX8_probate_2 ⟨Nat.le_of_ble_eq_true rfl, Nat.le_of_ble_eq_true rfl⟩) (fun r1 M2 N3 R4 H locs q5 z_M2 hI => ?_)
  obtain ⟨rfl, rfl, rfl, i_r1, z6⟩ := q5
  refine lv_if_ne (tgt := 10) hx hb dX8_probate_5 (by decide) (fun c7 => ?_) (fun c7 => ?_)
  · have i8 : iv p1 0 63 := z6 c7
    have i9 : iv r1 1 1 := iv_neL c7 i_r1 (by decide) (by decide)
    refine lv_aload_n hx hb dX8_probate_10 rfl (lv_at hl 0 rfl) ?_
    refine h_getr hx hb hts iX8_probate_X8 hown hK hI g_x (by decide) rfl rfl 4 (by decide) rfl 0 rfl (hts (.fieldLink RX8 34 "CatLeases" "acts" "LCatLeases$Acts;") (List.mem_of_getElem? (i := 1) rfl)) (fun _ h9 => h9) dX8_probate_11 (fun a10 e_a10 g_a10 => ?_)
    refine h_gor hI (by decide) (va_runV (As := []) (rest := []) ⟨hx, hb, hml, hown, hts⟩ (h_current_X0 l D g σ Z hZ0 M N R a10 g_a10) (cwV 0 hts gX8_probate_X0_current rfl rfl rfl (by decide +kernel) ⟨Nat.le_of_ble_eq_true rfl, Nat.le_of_ble_eq_true rfl⟩) (h_preV hZ0 hK hE hI g_a10 (by decide) rfl) rfl rfl hl.1 rfl (lv_room (Nat.le_of_ble_eq_true rfl)) dX8_probate_14 ⟨Nat.le_of_ble_eq_true rfl, Nat.le_of_ble_eq_true rfl⟩) (fun a11 M12 N13 R14 H locs q15 z_M12 hI => ?_)
    obtain ⟨rfl, rfl, rfl, g_a11⟩ := q15
    refine lv_astore_n (lv' := [(2, .ref a11), (0, .ref x), (1, .int p1)]) hx hb dX8_probate_17 rfl hl (by decide) rfl (fun ls hl => ?_)
    refine lv_iconst (v := 0) hx hb dX8_probate_18 (by decide) ?_
    refine lv_istore_n (lv' := [(3, .int (0 : Int32)), (2, .ref a11), (0, .ref x), (1, .int p1)]) hx hb dX8_probate_19 rfl hl (by decide) rfl (fun ls hl => ?_)
    refine lv_iconst (v := 0) hx hb dX8_probate_20 (by decide) ?_
    have J23 : ∀ (n : Nat) (v3_23 : Int32) (v4_23 : Int32) (H : Heap) (locs : List Loc) (ls : Array Slot), kI D g σ e_h_probate_X8 M s.heap M N R H locs → lv_has ls 5 [(0, .ref x), (1, .int p1), (2, .ref a11), (3, .int v3_23), (4, .int v4_23)] → iv v4_23 0 8 → 9 ≤ v4_23.toInt + (n : Int) → W p l e (headSpec wsX8_probate ({ frames := 1, cells := 0, slots := 0, locals := 24 })).room s m ar below meth c H locs 0 0 Q (F0 m 23 ls []) := by
      intro n
      induction n with
      | zero => intro v3_23 v4_23 H locs ls hI hl i_v4_23 hn; exfalso; have hz := i_v4_23; simp only [iv] at hz; omega
      | succ n ih23 =>
        intro v3_23 v4_23 H locs ls hI hl i_v4_23 hn23
        refine lv_iload hx hb dX8_probate_23 (lv_at hl 4 rfl) ?_
        refine lv_aload_n hx hb dX8_probate_25 rfl (lv_at hl 0 rfl) ?_
        refine h_getr hx hb hts iX8_probate_X8 hown hK hI g_x (by decide) rfl rfl 3 (by decide) rfl 4 rfl (hts (.fieldLink RX8 27 "CatLeases" "mews" "LCatLeases$Mews;") (List.mem_of_getElem? (i := 2) rfl)) (fun _ h9 => h9) dX8_probate_26 (fun a16 e_a16 g_a16 => ?_)
        refine h_geti (lo := 0) (hi := 8) hx hb hts iX8_probate_X4 hown hK hI g_a16 (by decide) rfl rfl 1 (by decide) rfl rfl (hts (.fieldLink RX8 173 "CatLeases$Mews" "rooms" "I") (List.mem_of_getElem? (i := 3) rfl)) (fun _ h9 => h9) dX8_probate_29 (fun v17 e_v17 i_v17 => ?_)
        refine lv_icmp_ge (tgt := 70) hx hb dX8_probate_32 (by decide) (fun c18 => ?_) (fun c18 => ?_)
        · refine lv_iload_n hx hb dX8_probate_70 rfl (lv_at hl 3 rfl) ?_
          exact h_iret hQ hx hb hr hlocks rfl hK hI ⟨rfl, rfl, rfl⟩ dX8_probate_71
        · have i19 : iv v17 1 8 := iv_nle1 c18 i_v17 i_v4_23 (by decide)
          have i20 : iv v4_23 0 7 := iv_nle2 c18 i_v17 i_v4_23 (by decide)
          refine lv_aload_n hx hb dX8_probate_35 rfl (lv_at hl 0 rfl) ?_
          refine h_getr hx hb hts iX8_probate_X8 hown hK hI g_x (by decide) rfl rfl 3 (by decide) rfl 4 rfl (hts (.fieldLink RX8 27 "CatLeases" "mews" "LCatLeases$Mews;") (List.mem_of_getElem? (i := 2) rfl)) (fun _ h9 => h9) dX8_probate_36 (fun a21 e_a21 g_a21 => ?_)
          have q22 : a16 = a21 := (e_a16).trans e_a21.symm
          subst q22
          refine lv_aload_n hx hb dX8_probate_39 rfl (lv_at hl 2 rfl) ?_
          refine h_getr hx hb hts iX8_probate_X7 hown hK hI g_a11 (by decide) rfl rfl 0 (by decide) rfl 12 rfl (hts (.fieldLink RX8 138 "CatLeases$State" "keepers" "[I") (List.mem_of_getElem? (i := 4) rfl)) (fun _ h9 => h9) dX8_probate_40 (fun a23 e_a23 g_a23 => ?_)
          refine lv_iload hx hb dX8_probate_43 (lv_at hl 4 rfl) ?_
          refine h_iald (j := v4_23.toNatClampNeg) (lo := (-1)) (hi := 5) hx hb hK hI g_a23 (by decide) rfl (iv_in (n := 8) i20 (by decide) (by decide)) rfl (hI.iv1 (n := 8) g_a23 rfl (in_lt (iv_in (n := 8) i20 (by decide) (by decide))) rfl) dX8_probate_45 (fun v24 e_v24 i_v24 => ?_)
          refine lv_aload_n hx hb dX8_probate_46 rfl (lv_at hl 2 rfl) ?_
          refine h_geti (lo := (-2147483648)) (hi := 2147483647) hx hb hts iX8_probate_X7 hown hK hI g_a11 (by decide) rfl rfl 5 (by decide) rfl rfl (hts (.fieldLink RX8 299 "CatLeases$State" "living" "I") (List.mem_of_getElem? (i := 5) rfl)) (fun _ h9 => h9) dX8_probate_47 (fun v25 e_v25 i_v25 => ?_)
          refine lv_iload_n hx hb dX8_probate_50 rfl (lv_at hl 1 rfl) ?_
          refine lv_iconst (v := (-1)) hx hb dX8_probate_51 (by decide) ?_
          refine lv_ixor hx hb dX8_probate_52 ?_
          refine h_nm (lo := (-2147483648)) (hi := 2147483647) (iv_any _) (fun v26 e_v26 i_v26 => ?_)
          refine lv_iand hx hb dX8_probate_53 ?_
          refine h_nm (lo := (-2147483648)) (hi := 2147483647) (iv_any _) (fun v27 e_v27 i_v27 => ?_)
          refine h_goi hI (by decide) (va_runV (As := [.int v24, .int v27]) (rest := []) ⟨hx, hb, hml, hown, hts⟩ (h_livingHeir_X4 l D g σ Z hZ0 M N R a16 g_a16 v24 v27) (cwV 2 hts gX8_probate_X4_livingHeir rfl rfl rfl (by decide +kernel) ⟨Nat.le_of_ble_eq_true rfl, Nat.le_of_ble_eq_true rfl⟩) (h_preV hZ0 hK hE hI g_a16 (by decide) rfl) rfl rfl hl.1 rfl (lv_room (Nat.le_of_ble_eq_true rfl)) dX8_probate_54 ⟨Nat.le_of_ble_eq_true rfl, Nat.le_of_ble_eq_true rfl⟩) (fun r28 M29 N30 R31 H locs q32 z_M29 hI => ?_)
          obtain ⟨rfl, rfl, rfl, i_r28⟩ := q32
          refine lv_iconst (v := (-1)) hx hb dX8_probate_57 (by decide) ?_
          have J64 : ∀ (v3_64 : Int32) (H : Heap) (locs : List Loc) (ls : Array Slot), kI D g σ e_h_probate_X8 M s.heap M N R H locs → lv_has ls 5 [(0, .ref x), (1, .int p1), (2, .ref a11), (3, .int v3_64), (4, .int v4_23)] → W p l e (headSpec wsX8_probate ({ frames := 1, cells := 0, slots := 0, locals := 24 })).room s m ar below meth c H locs 0 0 Q (F0 m 64 ls []) := by
            intro v3_64 H locs ls hI hl
            obtain ⟨v33, e_v33⟩ : ∃ z : Int32, z = v4_23 + Int32.ofInt 1 := ⟨_, rfl⟩
            have i_v33 : iv v33 1 8 := by rw [e_v33]; exact iv_add i20 (ki_1) (by decide) (by decide) (by decide) (by decide)
            refine lv_iinc (v := v33) (lv' := [(4, .int v33), (0, .ref x), (1, .int p1), (2, .ref a11), (3, .int v3_64)]) hx hb dX8_probate_64 hl (k := 4) rfl e_v33.symm (by decide) rfl (fun ls hl => ?_)
            refine lv_goto (tgt := 23) hx hb dX8_probate_67 (by decide) ?_
            exact ih23 v3_64 v33 H locs ls hI (lv_sub hl [1, 2, 3, 4, 0] rfl) (iv_w (lo' := 0) (hi' := 8) i_v33 (by decide) (by decide)) (by have h9 := (h_inc e_v33 i20 ki_1 (by decide) (by decide)); omega)
          refine lv_icmp_ne (tgt := 64) hx hb dX8_probate_58 (by decide) (fun c34 => ?_) (fun c34 => ?_)
          · have i35 : iv r28 0 5 := iv_neL c34 i_r28 (by decide) (by decide)
            exact J64 v3_23 H locs ls hI hl
          · have i36 : iv r28 (-1) (-1) := iv_eq1 c34 i_r28 kc_m1
            obtain ⟨v37, e_v37⟩ : ∃ z : Int32, z = v3_23 + Int32.ofInt 1 := ⟨_, rfl⟩
            refine lv_iinc (v := v37) (lv' := [(3, .int v37), (0, .ref x), (1, .int p1), (2, .ref a11), (4, .int v4_23)]) hx hb dX8_probate_61 hl (k := 3) rfl e_v37.symm (by decide) rfl (fun ls hl => ?_)
            exact J64 v37 H locs ls hI (lv_sub hl [1, 2, 3, 0, 4] rfl)
    refine lv_istore (lv' := [(4, .int (0 : Int32)), (3, .int (0 : Int32)), (2, .ref a11), (0, .ref x), (1, .int p1)]) hx hb dX8_probate_21 hl (by decide) rfl (fun ls hl => ?_)
    exact J23 9 (0 : Int32) (0 : Int32) H locs ls hI (lv_sub hl [3, 4, 2, 1, 0] rfl) (iv_w (lo' := 0) (hi' := 8) kc_0 (by decide) (by decide)) (by have h9 := kc_0; simp only [iv] at h9; omega)
  · have i38 : iv r1 0 0 := iv_eq1 c7 i_r1 kc_0
    refine lv_iconst (v := (-1)) hx hb dX8_probate_8 (by decide) ?_
    exact h_iret hQ hx hb hr hlocks rfl hK hI ⟨rfl, rfl, rfl⟩ dX8_probate_9
abbrev e_h_likesAllBy_X8 : List (Nat × Nat) := [(14, 999), (18, 999)]
set_option maxHeartbeats 4000000 in
set_option maxRecDepth 100000 in
theorem h_likesAllBy_X8 (l : Launch) (D : va_G) (g : Nat → ClassId) (σ : Nat → Option Nat) (Z : State → Heap → Prop) (hZ0 : hZ σ Z) (M : hM) (N : hN) (R : hR) (x : Nat) (g_x : σ x = some 8) (p1 : Int32) (p2 : Int32) : Met l yX8_likesAllBy wsX8_likesAllBy ({ frames := 3, cells := 0, slots := 0, locals := 68 }) (va_Pc [.ref x, .int p1, .int p2] (hPre D g σ Z M N R)) (hQi D g σ e_h_likesAllBy_X8 M (fun (r : Int32) (M1 : hM) (N1 : hN) (R1 : hR) => N = N1 ∧ R = R1 ∧ iv r 0 1)) 0 0 (hA σ) := by
  refine h_head (cc := cX8_likesAllBy) (maxL := 6) (ret := (some .boolean)) (by decide) rfl (Nat.le_of_ble_eq_true rfl) e_h_likesAllBy_X8 ?_
  intro p e s m below meth c ls Q ar hQ hx hb hr hlocks hml hown hts hK hE H locs hI hl
  have hown : s.vm.findClass RX8 = some m.cls := hown
  have hl : lv_has ls 6 [(0, .ref x), (1, .int p1), (2, .int p2)] := hl
  refine lv_aload_n hx hb dX8_likesAllBy_0 rfl (lv_at hl 0 rfl) ?_
  refine h_getr hx hb hts iX8_likesAllBy_X8 hown hK hI g_x (by decide) rfl rfl 4 (by decide) rfl 0 rfl (hts (.fieldLink RX8 34 "CatLeases" "acts" "LCatLeases$Acts;") (List.mem_of_getElem? (i := 1) rfl)) (fun _ h9 => h9) dX8_likesAllBy_1 (fun a1 e_a1 g_a1 => ?_)
  refine h_gor hI (by decide) (va_runV (As := []) (rest := []) ⟨hx, hb, hml, hown, hts⟩ (h_current_X0 l D g σ Z hZ0 M N R a1 g_a1) (cwV 0 hts gX8_likesAllBy_X0_current rfl rfl rfl (by decide +kernel) ⟨Nat.le_of_ble_eq_true rfl, Nat.le_of_ble_eq_true rfl⟩) (h_preV hZ0 hK hE hI g_a1 (by decide) rfl) rfl rfl hl.1 rfl (lv_room (Nat.le_of_ble_eq_true rfl)) dX8_likesAllBy_4 ⟨Nat.le_of_ble_eq_true rfl, Nat.le_of_ble_eq_true rfl⟩) (fun a2 M3 N4 R5 H locs q6 z_M3 hI => ?_)
  obtain ⟨rfl, rfl, rfl, g_a2⟩ := q6
  refine lv_astore_n (lv' := [(3, .ref a2), (0, .ref x), (1, .int p1), (2, .int p2)]) hx hb dX8_likesAllBy_7 rfl hl (by decide) rfl (fun ls hl => ?_)
  refine lv_aload_n hx hb dX8_likesAllBy_8 rfl (lv_at hl 1 rfl) ?_
  refine h_getr hx hb hts iX8_likesAllBy_X8 hown hK hI g_x (by decide) rfl rfl 3 (by decide) rfl 4 rfl (hts (.fieldLink RX8 27 "CatLeases" "mews" "LCatLeases$Mews;") (List.mem_of_getElem? (i := 2) rfl)) (fun _ h9 => h9) dX8_likesAllBy_9 (fun a7 e_a7 g_a7 => ?_)
  refine lv_aload_n hx hb dX8_likesAllBy_12 rfl (lv_at hl 0 rfl) ?_
  refine lv_iload_n hx hb dX8_likesAllBy_13 rfl (lv_at hl 2 rfl) ?_
  refine h_goi hI (by decide) (va_runV (As := [.ref a2, .int p1]) (rest := []) ⟨hx, hb, hml, hown, hts⟩ (h_tenantsOf_X4 l D g σ Z hZ0 M N R a7 g_a7 a2 g_a2 p1) (cwV 2 hts gX8_likesAllBy_X4_tenantsOf rfl rfl rfl (by decide +kernel) ⟨Nat.le_of_ble_eq_true rfl, Nat.le_of_ble_eq_true rfl⟩) (h_preV hZ0 hK hE hI g_a7 (by decide) rfl) rfl rfl hl.1 rfl (lv_room (Nat.le_of_ble_eq_true rfl)) dX8_likesAllBy_14 ⟨Nat.le_of_ble_eq_true rfl, Nat.le_of_ble_eq_true rfl⟩) (fun r8 M9 N10 R11 H locs q12 z_M9 hI => ?_)
  obtain ⟨rfl, rfl, rfl, i_r8⟩ := q12
  refine lv_istore (lv' := [(4, .int r8), (3, .ref a2), (0, .ref x), (1, .int p1), (2, .int p2)]) hx hb dX8_likesAllBy_17 hl (by decide) rfl (fun ls hl => ?_)
  refine lv_iconst (v := 0) hx hb dX8_likesAllBy_19 (by decide) ?_
  have J22 : ∀ (n : Nat) (M_22 : hM) (v5_22 : Int32) (H : Heap) (locs : List Loc) (ls : Array Slot), kI D g σ e_h_likesAllBy_X8 M s.heap M_22 N R H locs → lv_has ls 6 [(0, .ref x), (2, .int p2), (3, .ref a2), (4, .int r8), (5, .int v5_22)] → iv v5_22 0 7 → 8 ≤ v5_22.toInt + (n : Int) → W p l e (headSpec wsX8_likesAllBy ({ frames := 3, cells := 0, slots := 0, locals := 68 })).room s m ar below meth c H locs 0 0 Q (F0 m 22 ls []) := by
    intro n
    induction n with
    | zero => intro M_22 v5_22 H locs ls hI hl i_v5_22 hn; exfalso; have hz := i_v5_22; simp only [iv] at hz; omega
    | succ n ih22 =>
      intro M_22 v5_22 H locs ls hI hl i_v5_22 hn22
      refine lv_iload hx hb dX8_likesAllBy_22 (lv_at hl 4 rfl) ?_
      refine lv_aload_n hx hb dX8_likesAllBy_24 rfl (lv_at hl 0 rfl) ?_
      refine h_getr hx hb hts iX8_likesAllBy_X8 hown hK hI g_x (by decide) rfl rfl 3 (by decide) rfl 4 rfl (hts (.fieldLink RX8 27 "CatLeases" "mews" "LCatLeases$Mews;") (List.mem_of_getElem? (i := 2) rfl)) (fun _ h9 => h9) dX8_likesAllBy_25 (fun a13 e_a13 g_a13 => ?_)
      have q14 : a7 = a13 := (e_a7).trans e_a13.symm
      subst q14
      refine h_geti (lo := 0) (hi := 7) hx hb hts iX8_likesAllBy_X4 hown hK hI g_a7 (by decide) rfl rfl 2 (by decide) rfl rfl (hts (.fieldLink RX8 102 "CatLeases$Mews" "tenants" "I") (List.mem_of_getElem? (i := 3) rfl)) (fun _ h9 => h9) dX8_likesAllBy_28 (fun v15 e_v15 i_v15 => ?_)
      refine lv_icmp_ge (tgt := 81) hx hb dX8_likesAllBy_31 (by decide) (fun c16 => ?_) (fun c16 => ?_)
      · refine lv_iconst (v := 1) hx hb dX8_likesAllBy_81 (by decide) ?_
        exact h_iret hQ hx hb hr hlocks rfl hK hI ⟨rfl, rfl, (iv_w (lo' := 0) (hi' := 1) kc_1 (by decide) (by decide))⟩ dX8_likesAllBy_82
      · have i17 : iv v15 1 7 := iv_nle1 c16 i_v15 i_v5_22 (by decide)
        have i18 : iv v5_22 0 6 := iv_nle2 c16 i_v15 i_v5_22 (by decide)
        refine lv_iload hx hb dX8_likesAllBy_34 (lv_at hl 3 rfl) ?_
        refine lv_iload hx hb dX8_likesAllBy_36 (lv_at hl 4 rfl) ?_
        refine lv_ishr hx hb dX8_likesAllBy_38 ?_
        refine h_nm (lo := (-2147483648)) (hi := 2147483647) (iv_any _) (fun v19 e_v19 i_v19 => ?_)
        refine lv_iconst (v := 1) hx hb dX8_likesAllBy_39 (by decide) ?_
        refine lv_iand hx hb dX8_likesAllBy_40 ?_
        refine h_nm (lo := 0) (hi := 1) (iv_and 1 (by decide) (by decide) (by decide)) (fun v20 e_v20 i_v20 => ?_)
        have J75 : ∀ (M_75 : hM) (H : Heap) (locs : List Loc) (ls : Array Slot), kI D g σ e_h_likesAllBy_X8 M s.heap M_75 N R H locs → lv_has ls 6 [(0, .ref x), (2, .int p2), (3, .ref a2), (4, .int r8), (5, .int v5_22)] → v15 = M_75 a7 2 → W p l e (headSpec wsX8_likesAllBy ({ frames := 3, cells := 0, slots := 0, locals := 68 })).room s m ar below meth c H locs 0 0 Q (F0 m 75 ls []) := by
          intro M_75 H locs ls hI hl k0_75
          obtain ⟨v21, e_v21⟩ : ∃ z : Int32, z = v5_22 + Int32.ofInt 1 := ⟨_, rfl⟩
          have i_v21 : iv v21 1 7 := by rw [e_v21]; exact iv_add i18 (ki_1) (by decide) (by decide) (by decide) (by decide)
          refine lv_iinc (v := v21) (lv' := [(5, .int v21), (0, .ref x), (2, .int p2), (3, .ref a2), (4, .int r8)]) hx hb dX8_likesAllBy_75 hl (k := 4) rfl e_v21.symm (by decide) rfl (fun ls hl => ?_)
          refine lv_goto (tgt := 22) hx hb dX8_likesAllBy_78 (by decide) ?_
          exact ih22 M_75 v21 H locs ls hI (lv_sub hl [1, 2, 3, 4, 0] rfl) (iv_w (lo' := 0) (hi' := 7) i_v21 (by decide) (by decide)) (by have h9 := (h_inc e_v21 i18 ki_1 (by decide) (by decide)); omega)
        refine lv_if_eq (tgt := 75) hx hb dX8_likesAllBy_41 (by decide) (fun c22 => ?_) (fun c22 => ?_)
        · have i23 : iv v20 0 0 := iv_eq1 c22 i_v20 kc_0
          exact J75 M_22 H locs ls hI hl (e_v15)
        · have i24 : iv v20 1 1 := iv_neL c22 i_v20 (by decide) (by decide)
          refine lv_aload_n hx hb dX8_likesAllBy_44 rfl (lv_at hl 0 rfl) ?_
          refine h_getr hx hb hts iX8_likesAllBy_X8 hown hK hI g_x (by decide) rfl rfl 3 (by decide) rfl 4 rfl (hts (.fieldLink RX8 27 "CatLeases" "mews" "LCatLeases$Mews;") (List.mem_of_getElem? (i := 2) rfl)) (fun _ h9 => h9) dX8_likesAllBy_45 (fun a25 e_a25 g_a25 => ?_)
          have q26 : a7 = a25 := (e_a7).trans e_a25.symm
          subst q26
          refine lv_aload_n hx hb dX8_likesAllBy_48 rfl (lv_at hl 2 rfl) ?_
          refine lv_iload hx hb dX8_likesAllBy_49 (lv_at hl 4 rfl) ?_
          refine lv_aload_n hx hb dX8_likesAllBy_51 rfl (lv_at hl 2 rfl) ?_
          refine h_getr hx hb hts iX8_likesAllBy_X7 hown hK hI g_a2 (by decide) rfl rfl 1 (by decide) rfl 13 rfl (hts (.fieldLink RX8 147 "CatLeases$State" "places" "[I") (List.mem_of_getElem? (i := 4) rfl)) (fun _ h9 => h9) dX8_likesAllBy_52 (fun a27 e_a27 g_a27 => ?_)
          refine lv_iload hx hb dX8_likesAllBy_55 (lv_at hl 4 rfl) ?_
          refine h_iald (j := v5_22.toNatClampNeg) (lo := (-1)) (hi := 7) hx hb hK hI g_a27 (by decide) rfl (iv_in (n := 7) i18 (by decide) (by decide)) rfl (hI.iv1 (n := 7) g_a27 rfl (in_lt (iv_in (n := 7) i18 (by decide) (by decide))) rfl) dX8_likesAllBy_57 (fun v28 e_v28 i_v28 => ?_)
          refine h_gov hI (by decide) (va_runV (As := [.ref a2, .int v5_22, .int v28]) (rest := []) ⟨hx, hb, hml, hown, hts⟩ (h_consider_X4 l D g σ Z hZ0 M_22 N R a7 g_a7 a2 g_a2 v5_22 v28) (cwV 3 hts gX8_likesAllBy_X4_consider rfl rfl rfl (by decide +kernel) ⟨Nat.le_of_ble_eq_true rfl, Nat.le_of_ble_eq_true rfl⟩) (h_preV hZ0 hK hE hI g_a7 (by decide) rfl) rfl rfl hl.1 rfl (lv_room (Nat.le_of_ble_eq_true rfl)) dX8_likesAllBy_58 ⟨Nat.le_of_ble_eq_true rfl, Nat.le_of_ble_eq_true rfl⟩) (fun M30 N31 R32 H locs q33 z_M30 hI => ?_)
          obtain ⟨rfl, rfl⟩ := q33
          refine lv_aload_n hx hb dX8_likesAllBy_61 rfl (lv_at hl 0 rfl) ?_
          refine h_getr hx hb hts iX8_likesAllBy_X8 hown hK hI g_x (by decide) rfl rfl 3 (by decide) rfl 4 rfl (hts (.fieldLink RX8 27 "CatLeases" "mews" "LCatLeases$Mews;") (List.mem_of_getElem? (i := 2) rfl)) (fun _ h9 => h9) dX8_likesAllBy_62 (fun a34 e_a34 g_a34 => ?_)
          have q35 : a7 = a34 := (e_a7).trans e_a34.symm
          subst q35
          refine lv_iconst (v := 5) hx hb dX8_likesAllBy_65 (by decide) ?_
          refine lv_iload_n hx hb dX8_likesAllBy_66 rfl (lv_at hl 1 rfl) ?_
          refine h_goi hI (by decide) (va_runV (As := [.int (5 : Int32), .int p2]) (rest := []) ⟨hx, hb, hml, hown, hts⟩ (h_likesBy_X4 l D g σ Z hZ0 M30 N R a7 g_a7 (5 : Int32) p2) (cwV 2 hts gX8_likesAllBy_X4_likesBy rfl rfl rfl (by decide +kernel) ⟨Nat.le_of_ble_eq_true rfl, Nat.le_of_ble_eq_true rfl⟩) (h_preV hZ0 hK hE hI g_a7 (by decide) rfl) rfl rfl hl.1 rfl (lv_room (Nat.le_of_ble_eq_true rfl)) dX8_likesAllBy_67 ⟨Nat.le_of_ble_eq_true rfl, Nat.le_of_ble_eq_true rfl⟩) (fun r36 M37 N38 R39 H locs q40 z_M37 hI => ?_)
          obtain ⟨rfl, rfl⟩ := q40
          refine lv_if_gt (tgt := 75) hx hb dX8_likesAllBy_70 (by decide) (fun c41 => ?_) (fun c41 => ?_)
          · have i42 : iv r36 1 2147483647 := iv_lt2 c41 kc_0 (iv_any r36) (by decide)
            exact J75 M37 H locs ls hI hl (((e_v15).trans (z_M30 a7 4 2 g_a7 rfl).symm).trans (z_M37 a7 4 2 g_a7 rfl).symm)
          · have i43 : iv r36 (-2147483648) 0 := iv_nlt2 c41 kc_0 (iv_any r36) (by decide)
            refine lv_iconst (v := 0) hx hb dX8_likesAllBy_73 (by decide) ?_
            exact h_iret hQ hx hb hr hlocks rfl hK hI ⟨rfl, rfl, (iv_w (lo' := 0) (hi' := 1) kc_0 (by decide) (by decide))⟩ dX8_likesAllBy_74
  refine lv_istore (lv' := [(5, .int (0 : Int32)), (4, .int r8), (3, .ref a2), (0, .ref x), (1, .int p1), (2, .int p2)]) hx hb dX8_likesAllBy_20 hl (by decide) rfl (fun ls hl => ?_)
  exact J22 8 M (0 : Int32) H locs ls hI (lv_sub hl [3, 5, 2, 1, 0] rfl) (iv_w (lo' := 0) (hi' := 7) kc_0 (by decide) (by decide)) (by have h9 := kc_0; simp only [iv] at h9; omega)
abbrev e_h_likingTogether_X8 : List (Nat × Nat) := [(14, 999), (18, 999)]
set_option maxHeartbeats 4000000 in
set_option maxRecDepth 100000 in
theorem h_likingTogether_X8 (l : Launch) (D : va_G) (g : Nat → ClassId) (σ : Nat → Option Nat) (Z : State → Heap → Prop) (hZ0 : hZ σ Z) (M : hM) (N : hN) (R : hR) (x : Nat) (g_x : σ x = some 8) (p1 : Int32) : Met l yX8_likingTogether wsX8_likingTogether ({ frames := 3, cells := 0, slots := 0, locals := 70 }) (va_Pc [.ref x, .int p1] (hPre D g σ Z M N R)) (hQi D g σ e_h_likingTogether_X8 M (fun (r : Int32) (M1 : hM) (N1 : hN) (R1 : hR) => N = N1 ∧ R = R1)) 0 0 (hA σ) := by
  refine h_head (cc := cX8_likingTogether) (maxL := 6) (ret := (some .int)) (by decide) rfl (Nat.le_of_ble_eq_true rfl) e_h_likingTogether_X8 ?_
  intro p e s m below meth c ls Q ar hQ hx hb hr hlocks hml hown hts hK hE H locs hI hl
  have hown : s.vm.findClass RX8 = some m.cls := hown
  have hl : lv_has ls 6 [(0, .ref x), (1, .int p1)] := hl
  refine lv_aload_n hx hb dX8_likingTogether_0 rfl (lv_at hl 0 rfl) ?_
  refine h_getr hx hb hts iX8_likingTogether_X8 hown hK hI g_x (by decide) rfl rfl 4 (by decide) rfl 0 rfl (hts (.fieldLink RX8 34 "CatLeases" "acts" "LCatLeases$Acts;") (List.mem_of_getElem? (i := 1) rfl)) (fun _ h9 => h9) dX8_likingTogether_1 (fun a1 e_a1 g_a1 => ?_)
  refine h_gor hI (by decide) (va_runV (As := []) (rest := []) ⟨hx, hb, hml, hown, hts⟩ (h_current_X0 l D g σ Z hZ0 M N R a1 g_a1) (cwV 0 hts gX8_likingTogether_X0_current rfl rfl rfl (by decide +kernel) ⟨Nat.le_of_ble_eq_true rfl, Nat.le_of_ble_eq_true rfl⟩) (h_preV hZ0 hK hE hI g_a1 (by decide) rfl) rfl rfl hl.1 rfl (lv_room (Nat.le_of_ble_eq_true rfl)) dX8_likingTogether_4 ⟨Nat.le_of_ble_eq_true rfl, Nat.le_of_ble_eq_true rfl⟩) (fun a2 M3 N4 R5 H locs q6 z_M3 hI => ?_)
  obtain ⟨rfl, rfl, rfl, g_a2⟩ := q6
  refine lv_astore_n (lv' := [(2, .ref a2), (0, .ref x), (1, .int p1)]) hx hb dX8_likingTogether_7 rfl hl (by decide) rfl (fun ls hl => ?_)
  refine lv_iconst (v := 0) hx hb dX8_likingTogether_8 (by decide) ?_
  refine lv_istore_n (lv' := [(3, .int (0 : Int32)), (2, .ref a2), (0, .ref x), (1, .int p1)]) hx hb dX8_likingTogether_9 rfl hl (by decide) rfl (fun ls hl => ?_)
  refine lv_iconst (v := 0) hx hb dX8_likingTogether_10 (by decide) ?_
  have J13 : ∀ (n : Nat) (M_13 : hM) (v3_13 : Int32) (v4_13 : Int32) (H : Heap) (locs : List Loc) (ls : Array Slot), kI D g σ e_h_likingTogether_X8 M s.heap M_13 N R H locs → lv_has ls 6 [(0, .ref x), (1, .int p1), (2, .ref a2), (3, .int v3_13), (4, .int v4_13)] → iv v4_13 0 7 → 8 ≤ v4_13.toInt + (n : Int) → W p l e (headSpec wsX8_likingTogether ({ frames := 3, cells := 0, slots := 0, locals := 70 })).room s m ar below meth c H locs 0 0 Q (F0 m 13 ls []) := by
    intro n
    induction n with
    | zero => intro M_13 v3_13 v4_13 H locs ls hI hl i_v4_13 hn; exfalso; have hz := i_v4_13; simp only [iv] at hz; omega
    | succ n ih13 =>
      intro M_13 v3_13 v4_13 H locs ls hI hl i_v4_13 hn13
      refine lv_iload hx hb dX8_likingTogether_13 (lv_at hl 4 rfl) ?_
      refine lv_aload_n hx hb dX8_likingTogether_15 rfl (lv_at hl 0 rfl) ?_
      refine h_getr hx hb hts iX8_likingTogether_X8 hown hK hI g_x (by decide) rfl rfl 3 (by decide) rfl 4 rfl (hts (.fieldLink RX8 27 "CatLeases" "mews" "LCatLeases$Mews;") (List.mem_of_getElem? (i := 2) rfl)) (fun _ h9 => h9) dX8_likingTogether_16 (fun a7 e_a7 g_a7 => ?_)
      refine h_geti (lo := 0) (hi := 7) hx hb hts iX8_likingTogether_X4 hown hK hI g_a7 (by decide) rfl rfl 2 (by decide) rfl rfl (hts (.fieldLink RX8 102 "CatLeases$Mews" "tenants" "I") (List.mem_of_getElem? (i := 3) rfl)) (fun _ h9 => h9) dX8_likingTogether_19 (fun v8 e_v8 i_v8 => ?_)
      refine lv_icmp_ge (tgt := 76) hx hb dX8_likingTogether_22 (by decide) (fun c9 => ?_) (fun c9 => ?_)
      · refine lv_iload_n hx hb dX8_likingTogether_76 rfl (lv_at hl 3 rfl) ?_
        exact h_iret hQ hx hb hr hlocks rfl hK hI ⟨rfl, rfl⟩ dX8_likingTogether_77
      · have i10 : iv v8 1 7 := iv_nle1 c9 i_v8 i_v4_13 (by decide)
        have i11 : iv v4_13 0 6 := iv_nle2 c9 i_v8 i_v4_13 (by decide)
        refine lv_iload_n hx hb dX8_likingTogether_25 rfl (lv_at hl 1 rfl) ?_
        refine lv_iload hx hb dX8_likingTogether_26 (lv_at hl 4 rfl) ?_
        refine lv_ishr hx hb dX8_likingTogether_28 ?_
        refine h_nm (lo := (-2147483648)) (hi := 2147483647) (iv_any _) (fun v12 e_v12 i_v12 => ?_)
        refine lv_iconst (v := 1) hx hb dX8_likingTogether_29 (by decide) ?_
        refine lv_iand hx hb dX8_likingTogether_30 ?_
        refine h_nm (lo := 0) (hi := 1) (iv_and 1 (by decide) (by decide) (by decide)) (fun v13 e_v13 i_v13 => ?_)
        have J70 : ∀ (M_70 : hM) (v3_70 : Int32) (H : Heap) (locs : List Loc) (ls : Array Slot), kI D g σ e_h_likingTogether_X8 M s.heap M_70 N R H locs → lv_has ls 6 [(0, .ref x), (1, .int p1), (2, .ref a2), (3, .int v3_70), (4, .int v4_13)] → v8 = M_70 a7 2 → W p l e (headSpec wsX8_likingTogether ({ frames := 3, cells := 0, slots := 0, locals := 70 })).room s m ar below meth c H locs 0 0 Q (F0 m 70 ls []) := by
          intro M_70 v3_70 H locs ls hI hl k0_70
          obtain ⟨v14, e_v14⟩ : ∃ z : Int32, z = v4_13 + Int32.ofInt 1 := ⟨_, rfl⟩
          have i_v14 : iv v14 1 7 := by rw [e_v14]; exact iv_add i11 (ki_1) (by decide) (by decide) (by decide) (by decide)
          refine lv_iinc (v := v14) (lv' := [(4, .int v14), (0, .ref x), (1, .int p1), (2, .ref a2), (3, .int v3_70)]) hx hb dX8_likingTogether_70 hl (k := 4) rfl e_v14.symm (by decide) rfl (fun ls hl => ?_)
          refine lv_goto (tgt := 13) hx hb dX8_likingTogether_73 (by decide) ?_
          exact ih13 M_70 v3_70 v14 H locs ls hI (lv_sub hl [1, 2, 3, 4, 0] rfl) (iv_w (lo' := 0) (hi' := 7) i_v14 (by decide) (by decide)) (by have h9 := (h_inc e_v14 i11 ki_1 (by decide) (by decide)); omega)
        refine lv_if_eq (tgt := 70) hx hb dX8_likingTogether_31 (by decide) (fun c15 => ?_) (fun c15 => ?_)
        · have i16 : iv v13 0 0 := iv_eq1 c15 i_v13 kc_0
          exact J70 M_13 v3_13 H locs ls hI hl (e_v8)
        · have i17 : iv v13 1 1 := iv_neL c15 i_v13 (by decide) (by decide)
          refine lv_aload_n hx hb dX8_likingTogether_34 rfl (lv_at hl 0 rfl) ?_
          refine h_getr hx hb hts iX8_likingTogether_X8 hown hK hI g_x (by decide) rfl rfl 3 (by decide) rfl 4 rfl (hts (.fieldLink RX8 27 "CatLeases" "mews" "LCatLeases$Mews;") (List.mem_of_getElem? (i := 2) rfl)) (fun _ h9 => h9) dX8_likingTogether_35 (fun a18 e_a18 g_a18 => ?_)
          have q19 : a7 = a18 := (e_a7).trans e_a18.symm
          subst q19
          refine lv_aload_n hx hb dX8_likingTogether_38 rfl (lv_at hl 2 rfl) ?_
          refine lv_iload hx hb dX8_likingTogether_39 (lv_at hl 4 rfl) ?_
          refine lv_aload_n hx hb dX8_likingTogether_41 rfl (lv_at hl 2 rfl) ?_
          refine h_getr hx hb hts iX8_likingTogether_X7 hown hK hI g_a2 (by decide) rfl rfl 1 (by decide) rfl 13 rfl (hts (.fieldLink RX8 147 "CatLeases$State" "places" "[I") (List.mem_of_getElem? (i := 4) rfl)) (fun _ h9 => h9) dX8_likingTogether_42 (fun a20 e_a20 g_a20 => ?_)
          refine lv_iload hx hb dX8_likingTogether_45 (lv_at hl 4 rfl) ?_
          refine h_iald (j := v4_13.toNatClampNeg) (lo := (-1)) (hi := 7) hx hb hK hI g_a20 (by decide) rfl (iv_in (n := 7) i11 (by decide) (by decide)) rfl (hI.iv1 (n := 7) g_a20 rfl (in_lt (iv_in (n := 7) i11 (by decide) (by decide))) rfl) dX8_likingTogether_47 (fun v21 e_v21 i_v21 => ?_)
          refine h_goi hI (by decide) (va_runV (As := [.ref a2, .int v4_13, .int v21]) (rest := []) ⟨hx, hb, hml, hown, hts⟩ (h_likes_X4 l D g σ Z hZ0 M_13 N R a7 g_a7 a2 g_a2 v4_13 v21) (cwV 3 hts gX8_likingTogether_X4_likes rfl rfl rfl (by decide +kernel) ⟨Nat.le_of_ble_eq_true rfl, Nat.le_of_ble_eq_true rfl⟩) (h_preV hZ0 hK hE hI g_a7 (by decide) rfl) rfl rfl hl.1 rfl (lv_room (Nat.le_of_ble_eq_true rfl)) dX8_likingTogether_48 ⟨Nat.le_of_ble_eq_true rfl, Nat.le_of_ble_eq_true rfl⟩) (fun r22 M23 N24 R25 H locs q26 z_M23 hI => ?_)
          obtain ⟨rfl, rfl⟩ := q26
          refine lv_istore (lv' := [(5, .int r22), (0, .ref x), (1, .int p1), (2, .ref a2), (3, .int v3_13), (4, .int v4_13)]) hx hb dX8_likingTogether_51 hl (by decide) rfl (fun ls hl => ?_)
          refine lv_iload_n hx hb dX8_likingTogether_53 rfl (lv_at hl 4 rfl) ?_
          refine lv_sipush (v := (-9999)) hx hb dX8_likingTogether_54 (by decide) ?_
          refine lv_sipush (v := 9999) hx hb dX8_likingTogether_57 (by decide) ?_
          refine lv_iload hx hb dX8_likingTogether_60 (lv_at hl 0 rfl) ?_
          refine va_mmin hx hb (hml.trans hl.1.symm) hown (hts (.methodLink RX8 246 Lib.Math.min.name) (List.mem_of_getElem? (i := 5) rfl)) (hts (.static Lib.Math.min.name) (List.mem_of_getElem? (i := 6) rfl)) (hts (.initialized "java/lang/Math") (List.mem_of_getElem? (i := 7) rfl)) (hts (.code Lib.Math.min.name Lib.Math.min.code 2 (some .int)) (List.mem_of_getElem? (i := 8) rfl)) (Nat.le_of_ble_eq_true rfl) (Nat.le_of_ble_eq_true rfl) (Nat.le_of_ble_eq_true rfl) (Nat.le_of_ble_eq_true rfl) dX8_likingTogether_62 ?_
          refine h_nm (lo := (-2147483648)) (hi := 9999) (iv_min kc_9999 (iv_any r22) (by decide) (by decide) (by decide)) (fun v27 e_v27 i_v27 => ?_)
          refine va_mmax hx hb (hml.trans hl.1.symm) hown (hts (.methodLink RX8 241 Lib.Math.max.name) (List.mem_of_getElem? (i := 9) rfl)) (hts (.static Lib.Math.max.name) (List.mem_of_getElem? (i := 10) rfl)) (hts (.initialized "java/lang/Math") (List.mem_of_getElem? (i := 7) rfl)) (hts (.code Lib.Math.max.name Lib.Math.max.code 2 (some .int)) (List.mem_of_getElem? (i := 11) rfl)) (Nat.le_of_ble_eq_true rfl) (Nat.le_of_ble_eq_true rfl) (Nat.le_of_ble_eq_true rfl) (Nat.le_of_ble_eq_true rfl) dX8_likingTogether_65 ?_
          refine h_nm (lo := (-9999)) (hi := 9999) (iv_max kc_m9999 i_v27 (by decide) (by decide) (by decide)) (fun v28 e_v28 i_v28 => ?_)
          refine lv_iadd hx hb dX8_likingTogether_68 ?_
          refine h_nm (lo := (-2147483648)) (hi := 2147483647) (iv_any _) (fun v29 e_v29 i_v29 => ?_)
          refine lv_istore_n (lv' := [(3, .int v29), (5, .int r22), (0, .ref x), (1, .int p1), (2, .ref a2), (4, .int v4_13)]) hx hb dX8_likingTogether_69 rfl hl (by decide) rfl (fun ls hl => ?_)
          exact J70 M23 v29 H locs ls hI (lv_sub hl [2, 3, 4, 0, 5] rfl) ((e_v8).trans (z_M23 a7 4 2 g_a7 rfl).symm)
  refine lv_istore (lv' := [(4, .int (0 : Int32)), (3, .int (0 : Int32)), (2, .ref a2), (0, .ref x), (1, .int p1)]) hx hb dX8_likingTogether_11 hl (by decide) rfl (fun ls hl => ?_)
  exact J13 8 M (0 : Int32) (0 : Int32) H locs ls hI (lv_sub hl [3, 4, 2, 1, 0] rfl) (iv_w (lo' := 0) (hi' := 7) kc_0 (by decide) (by decide)) (by have h9 := kc_0; simp only [iv] at h9; omega)
abbrev e_h_isLikedAnywhere_X8 : List (Nat × Nat) := [(14, 999), (18, 999)]
set_option maxHeartbeats 4000000 in
set_option maxRecDepth 100000 in
theorem h_isLikedAnywhere_X8 (l : Launch) (D : va_G) (g : Nat → ClassId) (σ : Nat → Option Nat) (Z : State → Heap → Prop) (hZ0 : hZ σ Z) (M : hM) (N : hN) (R : hR) (x : Nat) (g_x : σ x = some 8) (p1 : Int32) : Met l yX8_isLikedAnywhere wsX8_isLikedAnywhere ({ frames := 3, cells := 0, slots := 0, locals := 70 }) (va_Pc [.ref x, .int p1] (hPre D g σ Z M N R)) (hQi D g σ e_h_isLikedAnywhere_X8 M (fun (r : Int32) (M1 : hM) (N1 : hN) (R1 : hR) => N = N1 ∧ R = R1 ∧ iv r 0 1)) 0 0 (hA σ) := by
  refine h_head (cc := cX8_isLikedAnywhere) (maxL := 4) (ret := (some .boolean)) (by decide) rfl (Nat.le_of_ble_eq_true rfl) e_h_isLikedAnywhere_X8 ?_
  intro p e s m below meth c ls Q ar hQ hx hb hr hlocks hml hown hts hK hE H locs hI hl
  have hown : s.vm.findClass RX8 = some m.cls := hown
  have hl : lv_has ls 4 [(0, .ref x), (1, .int p1)] := hl
  refine lv_aload_n hx hb dX8_isLikedAnywhere_0 rfl (lv_at hl 0 rfl) ?_
  refine h_getr hx hb hts iX8_isLikedAnywhere_X8 hown hK hI g_x (by decide) rfl rfl 4 (by decide) rfl 0 rfl (hts (.fieldLink RX8 34 "CatLeases" "acts" "LCatLeases$Acts;") (List.mem_of_getElem? (i := 1) rfl)) (fun _ h9 => h9) dX8_isLikedAnywhere_1 (fun a1 e_a1 g_a1 => ?_)
  refine h_gor hI (by decide) (va_runV (As := []) (rest := []) ⟨hx, hb, hml, hown, hts⟩ (h_current_X0 l D g σ Z hZ0 M N R a1 g_a1) (cwV 0 hts gX8_isLikedAnywhere_X0_current rfl rfl rfl (by decide +kernel) ⟨Nat.le_of_ble_eq_true rfl, Nat.le_of_ble_eq_true rfl⟩) (h_preV hZ0 hK hE hI g_a1 (by decide) rfl) rfl rfl hl.1 rfl (lv_room (Nat.le_of_ble_eq_true rfl)) dX8_isLikedAnywhere_4 ⟨Nat.le_of_ble_eq_true rfl, Nat.le_of_ble_eq_true rfl⟩) (fun a2 M3 N4 R5 H locs q6 z_M3 hI => ?_)
  obtain ⟨rfl, rfl, rfl, g_a2⟩ := q6
  refine lv_astore_n (lv' := [(2, .ref a2), (0, .ref x), (1, .int p1)]) hx hb dX8_isLikedAnywhere_7 rfl hl (by decide) rfl (fun ls hl => ?_)
  refine lv_iconst (v := 0) hx hb dX8_isLikedAnywhere_8 (by decide) ?_
  have J10 : ∀ (n : Nat) (M_10 : hM) (v3_10 : Int32) (H : Heap) (locs : List Loc) (ls : Array Slot), kI D g σ e_h_isLikedAnywhere_X8 M s.heap M_10 N R H locs → lv_has ls 4 [(0, .ref x), (1, .int p1), (2, .ref a2), (3, .int v3_10)] → iv v3_10 0 8 → 9 ≤ v3_10.toInt + (n : Int) → W p l e (headSpec wsX8_isLikedAnywhere ({ frames := 3, cells := 0, slots := 0, locals := 70 })).room s m ar below meth c H locs 0 0 Q (F0 m 10 ls []) := by
    intro n
    induction n with
    | zero => intro M_10 v3_10 H locs ls hI hl i_v3_10 hn; exfalso; have hz := i_v3_10; simp only [iv] at hz; omega
    | succ n ih10 =>
      intro M_10 v3_10 H locs ls hI hl i_v3_10 hn10
      refine lv_iload_n hx hb dX8_isLikedAnywhere_10 rfl (lv_at hl 3 rfl) ?_
      refine lv_aload_n hx hb dX8_isLikedAnywhere_11 rfl (lv_at hl 0 rfl) ?_
      refine h_getr hx hb hts iX8_isLikedAnywhere_X8 hown hK hI g_x (by decide) rfl rfl 3 (by decide) rfl 4 rfl (hts (.fieldLink RX8 27 "CatLeases" "mews" "LCatLeases$Mews;") (List.mem_of_getElem? (i := 2) rfl)) (fun _ h9 => h9) dX8_isLikedAnywhere_12 (fun a7 e_a7 g_a7 => ?_)
      refine h_geti (lo := 0) (hi := 8) hx hb hts iX8_isLikedAnywhere_X4 hown hK hI g_a7 (by decide) rfl rfl 1 (by decide) rfl rfl (hts (.fieldLink RX8 173 "CatLeases$Mews" "rooms" "I") (List.mem_of_getElem? (i := 3) rfl)) (fun _ h9 => h9) dX8_isLikedAnywhere_15 (fun v8 e_v8 i_v8 => ?_)
      refine lv_icmp_ge (tgt := 50) hx hb dX8_isLikedAnywhere_18 (by decide) (fun c9 => ?_) (fun c9 => ?_)
      · refine lv_iconst (v := 0) hx hb dX8_isLikedAnywhere_50 (by decide) ?_
        exact h_iret hQ hx hb hr hlocks rfl hK hI ⟨rfl, rfl, (iv_w (lo' := 0) (hi' := 1) kc_0 (by decide) (by decide))⟩ dX8_isLikedAnywhere_51
      · have i10 : iv v8 1 8 := iv_nle1 c9 i_v8 i_v3_10 (by decide)
        have i11 : iv v3_10 0 7 := iv_nle2 c9 i_v8 i_v3_10 (by decide)
        refine lv_aload_n hx hb dX8_isLikedAnywhere_21 rfl (lv_at hl 2 rfl) ?_
        refine lv_iload_n hx hb dX8_isLikedAnywhere_22 rfl (lv_at hl 3 rfl) ?_
        refine h_goi hI (by decide) (va_runV (As := [.int v3_10]) (rest := []) ⟨hx, hb, hml, hown, hts⟩ (h_isKept_X7 l D g σ Z hZ0 M_10 N R a2 g_a2 v3_10) (cwV 1 hts gX8_isLikedAnywhere_X7_isKept rfl rfl rfl (by decide +kernel) ⟨Nat.le_of_ble_eq_true rfl, Nat.le_of_ble_eq_true rfl⟩) (h_preV hZ0 hK hE hI g_a2 (by decide) rfl) rfl rfl hl.1 rfl (lv_room (Nat.le_of_ble_eq_true rfl)) dX8_isLikedAnywhere_23 ⟨Nat.le_of_ble_eq_true rfl, Nat.le_of_ble_eq_true rfl⟩) (fun r12 M13 N14 R15 H locs q16 z_M13 hI => ?_)
        obtain ⟨rfl, rfl, rfl, i_r12, z17, z18⟩ := q16
        have J44 : ∀ (M_44 : hM) (H : Heap) (locs : List Loc) (ls : Array Slot), kI D g σ e_h_isLikedAnywhere_X8 M s.heap M_44 N R H locs → lv_has ls 4 [(0, .ref x), (1, .int p1), (2, .ref a2), (3, .int v3_10)] → v8 = M_44 a7 1 → W p l e (headSpec wsX8_isLikedAnywhere ({ frames := 3, cells := 0, slots := 0, locals := 70 })).room s m ar below meth c H locs 0 0 Q (F0 m 44 ls []) := by
          intro M_44 H locs ls hI hl k0_44
          obtain ⟨v19, e_v19⟩ : ∃ z : Int32, z = v3_10 + Int32.ofInt 1 := ⟨_, rfl⟩
          have i_v19 : iv v19 1 8 := by rw [e_v19]; exact iv_add i11 (ki_1) (by decide) (by decide) (by decide) (by decide)
          refine lv_iinc (v := v19) (lv' := [(3, .int v19), (0, .ref x), (1, .int p1), (2, .ref a2)]) hx hb dX8_isLikedAnywhere_44 hl (k := 3) rfl e_v19.symm (by decide) rfl (fun ls hl => ?_)
          refine lv_goto (tgt := 10) hx hb dX8_isLikedAnywhere_47 (by decide) ?_
          exact ih10 M_44 v19 H locs ls hI (lv_sub hl [1, 2, 3, 0] rfl) (iv_w (lo' := 0) (hi' := 8) i_v19 (by decide) (by decide)) (by have h9 := (h_inc e_v19 i11 ki_1 (by decide) (by decide)); omega)
        refine lv_if_eq (tgt := 44) hx hb dX8_isLikedAnywhere_26 (by decide) (fun c20 => ?_) (fun c20 => ?_)
        · have i21 : iv r12 0 0 := iv_eq1 c20 i_r12 kc_0
          exact J44 M_10 H locs ls hI hl (e_v8)
        · have i22 := z18 c20
          have i23 : iv r12 1 1 := iv_neL c20 i_r12 (by decide) (by decide)
          refine lv_aload_n hx hb dX8_isLikedAnywhere_29 rfl (lv_at hl 0 rfl) ?_
          refine h_getr hx hb hts iX8_isLikedAnywhere_X8 hown hK hI g_x (by decide) rfl rfl 3 (by decide) rfl 4 rfl (hts (.fieldLink RX8 27 "CatLeases" "mews" "LCatLeases$Mews;") (List.mem_of_getElem? (i := 2) rfl)) (fun _ h9 => h9) dX8_isLikedAnywhere_30 (fun a24 e_a24 g_a24 => ?_)
          have q25 : a7 = a24 := (e_a7).trans e_a24.symm
          subst q25
          refine lv_aload_n hx hb dX8_isLikedAnywhere_33 rfl (lv_at hl 2 rfl) ?_
          refine lv_iload_n hx hb dX8_isLikedAnywhere_34 rfl (lv_at hl 1 rfl) ?_
          refine lv_iload_n hx hb dX8_isLikedAnywhere_35 rfl (lv_at hl 3 rfl) ?_
          refine h_goi hI (by decide) (va_runV (As := [.ref a2, .int p1, .int v3_10]) (rest := []) ⟨hx, hb, hml, hown, hts⟩ (h_likes_X4 l D g σ Z hZ0 M_10 N R a7 g_a7 a2 g_a2 p1 v3_10) (cwV 3 hts gX8_isLikedAnywhere_X4_likes rfl rfl rfl (by decide +kernel) ⟨Nat.le_of_ble_eq_true rfl, Nat.le_of_ble_eq_true rfl⟩) (h_preV hZ0 hK hE hI g_a7 (by decide) rfl) rfl rfl hl.1 rfl (lv_room (Nat.le_of_ble_eq_true rfl)) dX8_isLikedAnywhere_36 ⟨Nat.le_of_ble_eq_true rfl, Nat.le_of_ble_eq_true rfl⟩) (fun r26 M27 N28 R29 H locs q30 z_M27 hI => ?_)
          obtain ⟨rfl, rfl⟩ := q30
          refine lv_if_le (tgt := 44) hx hb dX8_isLikedAnywhere_39 (by decide) (fun c31 => ?_) (fun c31 => ?_)
          · have i32 : iv r26 (-2147483648) 0 := iv_le1 c31 (iv_any r26) kc_0 (by decide)
            exact J44 M27 H locs ls hI hl ((e_v8).trans (z_M27 a7 4 1 g_a7 rfl).symm)
          · have i33 : iv r26 1 2147483647 := iv_nle1 c31 (iv_any r26) kc_0 (by decide)
            refine lv_iconst (v := 1) hx hb dX8_isLikedAnywhere_42 (by decide) ?_
            exact h_iret hQ hx hb hr hlocks rfl hK hI ⟨rfl, rfl, (iv_w (lo' := 0) (hi' := 1) kc_1 (by decide) (by decide))⟩ dX8_isLikedAnywhere_43
  refine lv_istore_n (lv' := [(3, .int (0 : Int32)), (2, .ref a2), (0, .ref x), (1, .int p1)]) hx hb dX8_isLikedAnywhere_9 rfl hl (by decide) rfl (fun ls hl => ?_)
  exact J10 9 M (0 : Int32) H locs ls hI (lv_sub hl [2, 3, 1, 0] rfl) (iv_w (lo' := 0) (hi' := 8) kc_0 (by decide) (by decide)) (by have h9 := kc_0; simp only [iv] at h9; omega)
