abbrev e_h_end_X8 : List (Nat × Nat) := [(8, 1)]
set_option maxHeartbeats 4000000 in
set_option maxRecDepth 100000 in
theorem h_end_X8 (l : Launch) (D : va_G) (g : Nat → ClassId) (σ : Nat → Option Nat) (Z : State → Heap → Prop) (hZ0 : hZ σ Z) (M : hM) (N : hN) (R : hR) (x : Nat) (g_x : σ x = some 8) (p1 : Int32) : Met l yX8_end wsX8_end ({ frames := 0, cells := 0, slots := 0, locals := 0 }) (va_Pc [.ref x, .int p1] (hPre D g σ Z M N R)) (hQi D g σ e_h_end_X8 M (fun (r : Int32) (M1 : hM) (N1 : hN) (R1 : hR) => N = N1 ∧ R = R1 ∧ iv r (-1) 1600)) 0 0 (hA σ) := by
  refine h_head (cc := cX8_end) (maxL := 2) (ret := (some .int)) (by decide) rfl (Nat.le_of_ble_eq_true rfl) e_h_end_X8 ?_
  intro p e s m below meth c ls Q ar hQ hx hb hr hlocks hml hown hts hK hE H locs hI hl
  have hown : s.vm.findClass RX8 = some m.cls := hown
  have hl : lv_has ls 2 [(0, .ref x), (1, .int p1)] := hl
  refine lv_iload_n hx hb dX8_end_0 rfl (lv_at hl 1 rfl) ?_
  refine lv_if_lt (tgt := 12) hx hb dX8_end_1 (by decide) (fun c1 => ?_) (fun c1 => ?_)
  · have i2 : iv p1 (-2147483648) (-1) := iv_lt1 c1 (iv_any p1) kc_0 (by decide)
    refine lv_iconst (v := (-1)) hx hb dX8_end_12 (by decide) ?_
    exact h_iret hQ hx hb hr hlocks rfl hK hI ⟨rfl, rfl, (iv_w (lo' := (-1)) (hi' := 1600) kc_m1 (by decide) (by decide))⟩ dX8_end_13
  · have i3 : iv p1 0 2147483647 := iv_nlt1 c1 (iv_any p1) kc_0 (by decide)
    refine lv_iload_n hx hb dX8_end_4 rfl (lv_at hl 1 rfl) ?_
    refine lv_aload_n hx hb dX8_end_5 rfl (lv_at hl 0 rfl) ?_
    refine h_geti (lo := 0) (hi := 1600) hx hb hts iX8_end_X8 hown hK hI g_x (by decide) rfl rfl 1 (by decide) rfl rfl (hts (.fieldLink RX8 13 "CatLeases" "tapeLength" "I") (List.mem_of_getElem? (i := 1) rfl)) (fun _ h9 => h9) dX8_end_6 (fun v4 e_v4 i_v4 => ?_)
    refine lv_icmp_le (tgt := 14) hx hb dX8_end_9 (by decide) (fun c5 => ?_) (fun c5 => ?_)
    · have i6 : iv p1 0 1600 := iv_le1 c5 i3 i_v4 (by decide)
      refine lv_aload_n hx hb dX8_end_14 rfl (lv_at hl 0 rfl) ?_
      refine lv_iload_n hx hb dX8_end_15 rfl (lv_at hl 1 rfl) ?_
      refine h_puti hx hb hts iX8_end_X8 tyX8 tyX8_ok nmX8 hown hK hI g_x (by decide) rfl rfl 1 (by decide) rfl (hts (.fieldLink RX8 13 "CatLeases" "tapeLength" "I") (List.mem_of_getElem? (i := 1) rfl)) (fun _ h9 => h9) rfl .int (by decide +kernel) rfl rfl i6 rfl dX8_end_16 (fun M7 H locs e_M7 hI => ?_)
      refine lv_iload_n hx hb dX8_end_19 rfl (lv_at hl 1 rfl) ?_
      exact h_iret hQ hx hb hr hlocks rfl hK hI ⟨rfl, rfl, (iv_w (lo' := (-1)) (hi' := 1600) i6 (by decide) (by decide))⟩ dX8_end_20
    · have i8 : iv p1 1 2147483647 := iv_nle1 c5 i3 i_v4 (by decide)
      refine lv_iconst (v := (-1)) hx hb dX8_end_12 (by decide) ?_
      exact h_iret hQ hx hb hr hlocks rfl hK hI ⟨rfl, rfl, (iv_w (lo' := (-1)) (hi' := 1600) kc_m1 (by decide) (by decide))⟩ dX8_end_13
abbrev e_h_mews_X8 : List (Nat × Nat) := [(0, 0), (0, 1), (2, 2), (4, 0), (4, 1), (4, 2), (4, 3), (4, 4), (5, 1), (5, 2), (5, 8), (5, 9), (5, 10), (5, 11), (5, 12), (5, 13), (6, 0), (6, 7), (7, 5), (7, 6), (7, 7), (8, 1), (8, 7), (8, 11), (12, 999), (13, 999), (14, 999), (15, 999), (17, 999)]
set_option maxHeartbeats 4000000 in
set_option maxRecDepth 100000 in
theorem h_mews_X8 (l : Launch) (D : va_G) (g : Nat → ClassId) (σ : Nat → Option Nat) (Z : State → Heap → Prop) (hZ0 : hZ σ Z) (M : hM) (N : hN) (R : hR) (x : Nat) (g_x : σ x = some 8) : Met l yX8_mews wsX8_mews ({ frames := 62, cells := 0, slots := 0, locals := 1415 }) (va_Pc [.ref x] (hPre D g σ Z M N R)) (hQi D g σ e_h_mews_X8 M (fun (r : Int32) (M1 : hM) (N1 : hN) (R1 : hR) => iv r (-1) 7)) 0 0 (hA σ) := by
  refine h_head (cc := cX8_mews) (maxL := 2) (ret := (some .int)) (by decide) rfl (Nat.le_of_ble_eq_true rfl) e_h_mews_X8 ?_
  intro p e s m below meth c ls Q ar hQ hx hb hr hlocks hml hown hts hK hE H locs hI hl
  have hown : s.vm.findClass RX8 = some m.cls := hown
  have hl : lv_has ls 2 [(0, .ref x)] := hl
  refine lv_aload_n hx hb dX8_mews_0 rfl (lv_at hl 0 rfl) ?_
  refine h_getr hx hb hts iX8_mews_X8 hown hK hI g_x (by decide) rfl rfl 2 (by decide) rfl 5 rfl (hts (.fieldLink RX8 20 "CatLeases" "reader" "LCatLeases$Reader;") (List.mem_of_getElem? (i := 1) rfl)) (fun _ h9 => h9) dX8_mews_1 (fun a1 e_a1 g_a1 => ?_)
  refine lv_aload_n hx hb dX8_mews_4 rfl (lv_at hl 0 rfl) ?_
  refine h_getr hx hb hts iX8_mews_X8 hown hK hI g_x (by decide) rfl rfl 0 (by decide) rfl 10 rfl (hts (.fieldLink RX8 9 "CatLeases" "tape" "[B") (List.mem_of_getElem? (i := 2) rfl)) (fun _ h9 => h9) dX8_mews_5 (fun a2 e_a2 g_a2 => ?_)
  refine lv_aload_n hx hb dX8_mews_8 rfl (lv_at hl 0 rfl) ?_
  refine h_geti (lo := 0) (hi := 1600) hx hb hts iX8_mews_X8 hown hK hI g_x (by decide) rfl rfl 1 (by decide) rfl rfl (hts (.fieldLink RX8 13 "CatLeases" "tapeLength" "I") (List.mem_of_getElem? (i := 3) rfl)) (fun _ h9 => h9) dX8_mews_9 (fun v3 e_v3 i_v3 => ?_)
  refine h_goi hI (by decide) (va_runV (As := [.ref a2, .int v3]) (rest := []) ⟨hx, hb, hml, hown, hts⟩ (h_read_X5 l D g σ Z hZ0 M N R a1 g_a1 a2 g_a2 v3) (cwV 2 hts gX8_mews_X5_read rfl rfl rfl (by decide +kernel) ⟨Nat.le_of_ble_eq_true rfl, Nat.le_of_ble_eq_true rfl⟩) (h_preV hZ0 hK hE hI g_a1 (by decide) rfl) rfl rfl hl.1 rfl (lv_room (Nat.le_of_ble_eq_true rfl)) dX8_mews_12 ⟨Nat.le_of_ble_eq_true rfl, Nat.le_of_ble_eq_true rfl⟩) (fun r4 M5 N6 R7 H locs q8 z_M5 hI => ?_)
  have i_r4 := q8
  refine lv_if_ne (tgt := 20) hx hb dX8_mews_15 (by decide) (fun c9 => ?_) (fun c9 => ?_)
  · have i10 : iv r4 1 1 := iv_neL c9 i_r4 (by decide) (by decide)
    refine lv_aload_n hx hb dX8_mews_20 rfl (lv_at hl 0 rfl) ?_
    refine h_getr hx hb hts iX8_mews_X8 hown hK hI g_x (by decide) rfl rfl 3 (by decide) rfl 4 rfl (hts (.fieldLink RX8 27 "CatLeases" "mews" "LCatLeases$Mews;") (List.mem_of_getElem? (i := 4) rfl)) (fun _ h9 => h9) dX8_mews_21 (fun a11 e_a11 g_a11 => ?_)
    refine lv_astore_n (lv' := [(1, .ref a11), (0, .ref x)]) hx hb dX8_mews_24 rfl hl (by decide) rfl (fun ls hl => ?_)
    refine lv_aload_n hx hb dX8_mews_25 rfl (lv_at hl 1 rfl) ?_
    refine lv_aload_n hx hb dX8_mews_26 rfl (lv_at hl 1 rfl) ?_
    refine h_getr hx hb hts iX8_mews_X8 hown hK hI g_x (by decide) rfl rfl 2 (by decide) rfl 5 rfl (hts (.fieldLink RX8 20 "CatLeases" "reader" "LCatLeases$Reader;") (List.mem_of_getElem? (i := 1) rfl)) (fun _ h9 => h9) dX8_mews_27 (fun a12 e_a12 g_a12 => ?_)
    refine h_getr hx hb hts iX8_mews_X5 hown hK hI g_a12 (by decide) rfl rfl 0 (by decide) rfl 4 rfl (hts (.fieldLink RX8 91 "CatLeases$Reader" "mews" "LCatLeases$Mews;") (List.mem_of_getElem? (i := 5) rfl)) (fun _ h9 => h9) dX8_mews_30 (fun a13 e_a13 g_a13 => ?_)
    refine h_putr hx hb hts iX8_mews_X8 tyX8 tyX8_ok nmX8 hown hK hI g_x (by decide) rfl rfl 3 (by decide) rfl (hts (.fieldLink RX8 27 "CatLeases" "mews" "LCatLeases$Mews;") (List.mem_of_getElem? (i := 4) rfl)) (fun _ h9 => h9) rfl (.object "CatLeases$Mews") (by decide +kernel) rfl rfl 4 (by decide) g_a13 dX8_mews_33 (fun R14 H locs e_R14 hI => ?_)
    refine lv_aload_n hx hb dX8_mews_36 rfl (lv_at hl 1 rfl) ?_
    refine h_getr hx hb hts iX8_mews_X8 hown hK hI g_x (by decide) rfl rfl 2 (by decide) rfl 5 rfl (hts (.fieldLink RX8 20 "CatLeases" "reader" "LCatLeases$Reader;") (List.mem_of_getElem? (i := 1) rfl)) (fun _ h9 => h9) dX8_mews_37 (fun a15 e_a15 g_a15 => ?_)
    have q16 : a12 = a15 := ((e_a12).trans (u2_st (a := x) (k := 2) e_R14 (u2_k (by decide))).symm).trans e_a15.symm
    subst q16
    refine lv_aload_n hx hb dX8_mews_40 rfl (lv_at hl 0 rfl) ?_
    refine h_putr hx hb hts iX8_mews_X5 tyX5 tyX5_ok nmX5 hown hK hI g_a12 (by decide) rfl rfl 0 (by decide) rfl (hts (.fieldLink RX8 91 "CatLeases$Reader" "mews" "LCatLeases$Mews;") (List.mem_of_getElem? (i := 5) rfl)) (fun _ h9 => h9) rfl (.object "CatLeases$Mews") (by decide +kernel) rfl rfl 4 (by decide) g_a11 dX8_mews_41 (fun R17 H locs e_R17 hI => ?_)
    refine lv_aload_n hx hb dX8_mews_44 rfl (lv_at hl 1 rfl) ?_
    refine lv_iconst (v := 0) hx hb dX8_mews_45 (by decide) ?_
    refine h_puti hx hb hts iX8_mews_X8 tyX8 tyX8_ok nmX8 hown hK hI g_x (by decide) rfl rfl 1 (by decide) rfl (hts (.fieldLink RX8 13 "CatLeases" "tapeLength" "I") (List.mem_of_getElem? (i := 3) rfl)) (fun _ h9 => h9) rfl .int (by decide +kernel) rfl rfl (iv_w (lo' := 0) (hi' := 1600) kc_0 (by decide) (by decide)) rfl dX8_mews_46 (fun M18 H locs e_M18 hI => ?_)
    refine lv_aload_n hx hb dX8_mews_49 rfl (lv_at hl 1 rfl) ?_
    refine h_getr hx hb hts iX8_mews_X8 hown hK hI g_x (by decide) rfl rfl 4 (by decide) rfl 0 rfl (hts (.fieldLink RX8 34 "CatLeases" "acts" "LCatLeases$Acts;") (List.mem_of_getElem? (i := 6) rfl)) (fun _ h9 => h9) dX8_mews_50 (fun a19 e_a19 g_a19 => ?_)
    refine lv_aload_n hx hb dX8_mews_53 rfl (lv_at hl 1 rfl) ?_
    refine h_getr hx hb hts iX8_mews_X8 hown hK hI g_x (by decide) rfl rfl 3 (by decide) rfl 4 rfl (hts (.fieldLink RX8 27 "CatLeases" "mews" "LCatLeases$Mews;") (List.mem_of_getElem? (i := 4) rfl)) (fun _ h9 => h9) dX8_mews_54 (fun a20 e_a20 g_a20 => ?_)
    have q21 : a13 = a20 := (((u2_wr e_R14)).trans (u2_st (a := x) (k := 3) e_R17 (u2_a (so_ne g_x g_a12 (by decide)))).symm).trans e_a20.symm
    subst q21
    refine h_getr hx hb hts iX8_mews_X4 hown hK hI g_a13 (by decide) rfl rfl 8 (by decide) rfl 7 rfl (hts (.fieldLink RX8 92 "CatLeases$Mews" "told" "LCatLeases$State;") (List.mem_of_getElem? (i := 7) rfl)) (fun _ h9 => h9) dX8_mews_57 (fun a22 e_a22 g_a22 => ?_)
    refine h_gov hI (by decide) (va_runV (As := [.ref a22]) (rest := []) ⟨hx, hb, hml, hown, hts⟩ (h_startFrom_X0 l D g σ Z hZ0 M18 N6 R17 a19 g_a19 a22 g_a22) (cwV 1 hts gX8_mews_X0_startFrom rfl rfl rfl (by decide +kernel) ⟨Nat.le_of_ble_eq_true rfl, Nat.le_of_ble_eq_true rfl⟩) (h_preV hZ0 hK hE hI g_a19 (by decide) rfl) rfl rfl hl.1 rfl (lv_room (Nat.le_of_ble_eq_true rfl)) dX8_mews_60 ⟨Nat.le_of_ble_eq_true rfl, Nat.le_of_ble_eq_true rfl⟩) (fun M24 N25 R26 H locs q27 z_M24 hI => ?_)
    obtain ⟨rfl, rfl⟩ := q27
    refine lv_aload_n hx hb dX8_mews_63 rfl (lv_at hl 1 rfl) ?_
    refine h_getr hx hb hts iX8_mews_X8 hown hK hI g_x (by decide) rfl rfl 12 (by decide) rfl 6 rfl (hts (.fieldLink RX8 76 "CatLeases" "sightings" "LCatLeases$Sightings;") (List.mem_of_getElem? (i := 8) rfl)) (fun _ h9 => h9) dX8_mews_64 (fun a28 e_a28 g_a28 => ?_)
    refine h_gov hI (by decide) (va_runV (As := []) (rest := []) ⟨hx, hb, hml, hown, hts⟩ (h_forget_X6 l D g σ Z hZ0 M24 N6 R17 a28 g_a28) (cwV 0 hts gX8_mews_X6_forget rfl rfl rfl (by decide +kernel) ⟨Nat.le_of_ble_eq_true rfl, Nat.le_of_ble_eq_true rfl⟩) (h_preV hZ0 hK hE hI g_a28 (by decide) rfl) rfl rfl hl.1 rfl (lv_room (Nat.le_of_ble_eq_true rfl)) dX8_mews_67 ⟨Nat.le_of_ble_eq_true rfl, Nat.le_of_ble_eq_true rfl⟩) (fun M30 N31 R32 H locs q33 z_M30 hI => ?_)
    obtain ⟨rfl, rfl⟩ := q33
    refine lv_aload_n hx hb dX8_mews_70 rfl (lv_at hl 1 rfl) ?_
    refine lv_iconst (v := 0) hx hb dX8_mews_71 (by decide) ?_
    refine h_puti hx hb hts iX8_mews_X8 tyX8 tyX8_ok nmX8 hown hK hI g_x (by decide) rfl rfl 11 (by decide) rfl (hts (.fieldLink RX8 70 "CatLeases" "lyingCount" "I") (List.mem_of_getElem? (i := 9) rfl)) (fun _ h9 => h9) rfl .int (by decide +kernel) rfl rfl (iv_w (lo' := 0) (hi' := 7) kc_0 (by decide) (by decide)) rfl dX8_mews_72 (fun M34 H locs e_M34 hI => ?_)
    refine lv_aload_n hx hb dX8_mews_75 rfl (lv_at hl 1 rfl) ?_
    refine lv_iconst (v := 0) hx hb dX8_mews_76 (by decide) ?_
    refine h_puti hx hb hts iX8_mews_X8 tyX8 tyX8_ok nmX8 hown hK hI g_x (by decide) rfl rfl 7 (by decide) rfl (hts (.fieldLink RX8 49 "CatLeases" "filledBoxes" "I") (List.mem_of_getElem? (i := 10) rfl)) (fun _ h9 => h9) rfl .int (by decide +kernel) rfl rfl (iv_w (lo' := (-2147483648)) (hi' := 2147483647) kc_0 (by decide) (by decide)) rfl dX8_mews_77 (fun M35 H locs e_M35 hI => ?_)
    refine lv_aload_n hx hb dX8_mews_80 rfl (lv_at hl 1 rfl) ?_
    refine h_getr hx hb hts iX8_mews_X8 hown hK hI g_x (by decide) rfl rfl 3 (by decide) rfl 4 rfl (hts (.fieldLink RX8 27 "CatLeases" "mews" "LCatLeases$Mews;") (List.mem_of_getElem? (i := 4) rfl)) (fun _ h9 => h9) dX8_mews_81 (fun a36 e_a36 g_a36 => ?_)
    have q37 : a13 = a36 := (((u2_wr e_R14)).trans (u2_st (a := x) (k := 3) e_R17 (u2_a (so_ne g_x g_a12 (by decide)))).symm).trans e_a36.symm
    subst q37
    refine h_geti (lo := 0) (hi := 7) hx hb hts iX8_mews_X4 hown hK hI g_a13 (by decide) rfl rfl 2 (by decide) rfl rfl (hts (.fieldLink RX8 102 "CatLeases$Mews" "tenants" "I") (List.mem_of_getElem? (i := 11) rfl)) (fun _ h9 => h9) dX8_mews_84 (fun v38 e_v38 i_v38 => ?_)
    exact h_iret hQ hx hb hr hlocks rfl hK hI (iv_w (lo' := (-1)) (hi' := 7) i_v38 (by decide) (by decide)) dX8_mews_87
  · have i39 : iv r4 0 0 := iv_eq1 c9 i_r4 kc_0
    refine lv_iconst (v := (-1)) hx hb dX8_mews_18 (by decide) ?_
    exact h_iret hQ hx hb hr hlocks rfl hK hI (iv_w (lo' := (-1)) (hi' := 7) kc_m1 (by decide) (by decide)) dX8_mews_19
abbrev e_h_fault_X8 : List (Nat × Nat) := []
set_option maxHeartbeats 4000000 in
set_option maxRecDepth 100000 in
theorem h_fault_X8 (l : Launch) (D : va_G) (g : Nat → ClassId) (σ : Nat → Option Nat) (Z : State → Heap → Prop) (hZ0 : hZ σ Z) (M : hM) (N : hN) (R : hR) (x : Nat) (g_x : σ x = some 8) (p1 : Int32) : Met l yX8_fault wsX8_fault ({ frames := 0, cells := 0, slots := 0, locals := 0 }) (va_Pc [.ref x, .int p1] (hPre D g σ Z M N R)) (hQi D g σ e_h_fault_X8 M (fun (r : Int32) (M1 : hM) (N1 : hN) (R1 : hR) => M = M1 ∧ N = N1 ∧ R = R1)) 0 0 (hA σ) := by
  refine h_head (cc := cX8_fault) (maxL := 2) (ret := (some .int)) (by decide) rfl (Nat.le_of_ble_eq_true rfl) e_h_fault_X8 ?_
  intro p e s m below meth c ls Q ar hQ hx hb hr hlocks hml hown hts hK hE H locs hI hl
  have hown : s.vm.findClass RX8 = some m.cls := hown
  have hl : lv_has ls 2 [(0, .ref x), (1, .int p1)] := hl
  refine lv_iload_n hx hb dX8_fault_0 rfl (lv_at hl 1 rfl) ?_
  by_cases c1 : p1 = 0
  · refine lv_lookup (off := 27) (tgt := 28) hx hb dX8_fault_1 (by decide) (by rw [c1] <;> rfl) (by decide) ?_
    have i2 : iv p1 0 0 := iv_eq1 c1 (iv_any p1) kc_0
    refine lv_aload_n hx hb dX8_fault_28 rfl (lv_at hl 0 rfl) ?_
    refine h_getr hx hb hts iX8_fault_X8 hown hK hI g_x (by decide) rfl rfl 2 (by decide) rfl 5 rfl (hts (.fieldLink RX8 20 "CatLeases" "reader" "LCatLeases$Reader;") (List.mem_of_getElem? (i := 1) rfl)) (fun _ h9 => h9) dX8_fault_29 (fun a3 e_a3 g_a3 => ?_)
    refine h_geti (lo := (-2147483648)) (hi := 2147483647) hx hb hts iX8_fault_X5 hown hK hI g_a3 (by decide) rfl rfl 1 (by decide) rfl rfl (hts (.fieldLink RX8 105 "CatLeases$Reader" "fault" "I") (List.mem_of_getElem? (i := 2) rfl)) (fun _ h9 => h9) dX8_fault_32 (fun v4 e_v4 i_v4 => ?_)
    exact h_iret hQ hx hb hr hlocks rfl hK hI ⟨rfl, rfl, rfl⟩ dX8_fault_35
  by_cases c5 : p1 = 1
  · refine lv_lookup (off := 35) (tgt := 36) hx hb dX8_fault_1 (by decide) (by rw [c5] <;> rfl) (by decide) ?_
    have i6 : iv p1 1 1 := iv_eq1 c5 (iv_any p1) kc_1
    refine lv_aload_n hx hb dX8_fault_36 rfl (lv_at hl 0 rfl) ?_
    refine h_getr hx hb hts iX8_fault_X8 hown hK hI g_x (by decide) rfl rfl 2 (by decide) rfl 5 rfl (hts (.fieldLink RX8 20 "CatLeases" "reader" "LCatLeases$Reader;") (List.mem_of_getElem? (i := 1) rfl)) (fun _ h9 => h9) dX8_fault_37 (fun a7 e_a7 g_a7 => ?_)
    refine h_geti (lo := (-2147483648)) (hi := 2147483647) hx hb hts iX8_fault_X5 hown hK hI g_a7 (by decide) rfl rfl 2 (by decide) rfl rfl (hts (.fieldLink RX8 108 "CatLeases$Reader" "faultPlace" "I") (List.mem_of_getElem? (i := 3) rfl)) (fun _ h9 => h9) dX8_fault_40 (fun v8 e_v8 i_v8 => ?_)
    exact h_iret hQ hx hb hr hlocks rfl hK hI ⟨rfl, rfl, rfl⟩ dX8_fault_43
  refine lv_lookup (off := 43) (tgt := 44) hx hb dX8_fault_1 (by decide) ((lv_osw c1 (by decide)).trans ((lv_osw c5 (by decide)).trans rfl)) (by decide) ?_
  refine lv_iconst (v := (-1)) hx hb dX8_fault_44 (by decide) ?_
  exact h_iret hQ hx hb hr hlocks rfl hK hI ⟨rfl, rfl, rfl⟩ dX8_fault_45
