abbrev e_h_readKnownName_24 : List (Nat × Nat) := [(5, 1), (5, 2), (5, 10), (5, 11), (5, 12), (5, 13)]
set_option maxHeartbeats 4000000 in
set_option maxRecDepth 100000 in
theorem h_readKnownName_24 (l : Launch) (D : va_G) (g : Nat → ClassId) (σ : Nat → Option Nat) (Z : State → Heap → Prop) (hZ0 : hZ σ Z) (M : hM) (N : hN) (R : hR) (a : Nat) (g_a : σ a = some 5) (b : Nat) (g_b : σ b = some 24) (p2 : Int32) : Met l yX5_readKnownName wsX5_readKnownName ({ frames := 5, cells := 0, slots := 0, locals := 112 }) (va_Pc [.ref a, .ref b, .int p2] (hPre D g σ Z M N R)) (hQi D g σ e_h_readKnownName_24 M (fun (r : Int32) (M1 : hM) (N1 : hN) (R1 : hR) => R = R1 ∧ iv r (-1) 7)) 0 0 (hA σ) := by
  refine h_head (cc := cX5_readKnownName) (maxL := 4) (ret := (some .int)) (by decide) rfl (Nat.le_of_ble_eq_true rfl) e_h_readKnownName_24 ?_
  intro p e s m below meth c ls Q ar hQ hx hb hr hlocks hml hown hts hK hE H locs hI hl
  have hown : s.vm.findClass RX5 = some m.cls := hown
  have hl : lv_has ls 4 [(0, .ref a), (1, .ref b), (2, .int p2)] := hl
  refine lv_aload_n hx hb dX5_readKnownName_0 rfl (lv_at hl 0 rfl) ?_
  refine h_geti (lo := (-2147483648)) (hi := 2147483647) hx hb hts iX5_readKnownName_X5 hown hK hI g_a (by decide) rfl rfl 12 (by decide) rfl rfl (hts (.fieldLink RX5 54 "CatLeases$Reader" "kind" "I") (List.mem_of_getElem? (i := 1) rfl)) (fun _ h9 => h9) dX5_readKnownName_1 (fun v1 e_v1 i_v1 => ?_)
  refine lv_sipush (v := 256) hx hb dX5_readKnownName_4 (by decide) ?_
  refine lv_icmp_eq (tgt := 17) hx hb dX5_readKnownName_7 (by decide) (fun c2 => ?_) (fun c2 => ?_)
  · have i3 : iv v1 256 256 := iv_eq1 c2 i_v1 kc_256
    refine lv_aload_n hx hb dX5_readKnownName_17 rfl (lv_at hl 0 rfl) ?_
    refine lv_aload_n hx hb dX5_readKnownName_18 rfl (lv_at hl 1 rfl) ?_
    refine lv_iload_n hx hb dX5_readKnownName_19 rfl (lv_at hl 2 rfl) ?_
    refine h_goi hI (by decide) (va_runV (As := [.ref b, .int p2]) (rest := []) ⟨hx, hb, hml, hown, hts⟩ (h_indexOfWord_24 l D g σ Z hZ0 M N R a g_a b g_b p2) (cwV 2 hts gX5_readKnownName_X5_indexOfWord rfl rfl rfl (by decide +kernel) ⟨Nat.le_of_ble_eq_true rfl, Nat.le_of_ble_eq_true rfl⟩) (h_preV hZ0 hK hE hI g_a (by decide) rfl) rfl rfl hl.1 rfl (lv_room (Nat.le_of_ble_eq_true rfl)) dX5_readKnownName_20 ⟨Nat.le_of_ble_eq_true rfl, Nat.le_of_ble_eq_true rfl⟩) (fun r4 M5 N6 R7 H locs q8 z_M5 hI => ?_)
    obtain ⟨rfl, rfl, rfl, i_r4⟩ := q8
    refine lv_istore_n (lv' := [(3, .int r4), (0, .ref a), (1, .ref b), (2, .int p2)]) hx hb dX5_readKnownName_23 rfl hl (by decide) rfl (fun ls hl => ?_)
    refine lv_iload_n hx hb dX5_readKnownName_24 rfl (lv_at hl 0 rfl) ?_
    refine lv_iconst (v := (-1)) hx hb dX5_readKnownName_25 (by decide) ?_
    refine lv_icmp_ne (tgt := 41) hx hb dX5_readKnownName_26 (by decide) (fun c9 => ?_) (fun c9 => ?_)
    · have i10 : iv r4 0 7 := iv_neL c9 i_r4 (by decide) (by decide)
      refine lv_aload_n hx hb dX5_readKnownName_41 rfl (lv_at hl 1 rfl) ?_
      refine h_gov hI (by decide) (va_runV (As := []) (rest := []) ⟨hx, hb, hml, hown, hts⟩ (h_advance_X5 l D g σ Z hZ0 M N R a g_a) (cwV 0 hts gX5_readKnownName_X5_advance rfl rfl rfl (by decide +kernel) ⟨Nat.le_of_ble_eq_true rfl, Nat.le_of_ble_eq_true rfl⟩) (h_preV hZ0 hK hE hI g_a (by decide) rfl) rfl rfl hl.1 rfl (lv_room (Nat.le_of_ble_eq_true rfl)) dX5_readKnownName_42 ⟨Nat.le_of_ble_eq_true rfl, Nat.le_of_ble_eq_true rfl⟩) (fun M12 N13 R14 H locs q15 z_M12 hI => ?_)
      subst q15
      refine lv_iload_n hx hb dX5_readKnownName_45 rfl (lv_at hl 0 rfl) ?_
      exact h_iret hQ hx hb hr hlocks rfl hK hI ⟨rfl, (iv_w (lo' := (-1)) (hi' := 7) i10 (by decide) (by decide))⟩ dX5_readKnownName_46
    · have i16 : iv r4 (-1) (-1) := iv_eq1 c9 i_r4 kc_m1
      refine lv_aload_n hx hb dX5_readKnownName_29 rfl (lv_at hl 1 rfl) ?_
      refine lv_iconst (v := 5) hx hb dX5_readKnownName_30 (by decide) ?_
      refine lv_aload_n hx hb dX5_readKnownName_31 rfl (lv_at hl 1 rfl) ?_
      refine h_geti (lo := (-2147483648)) (hi := 2147483647) hx hb hts iX5_readKnownName_X5 hown hK hI g_a (by decide) rfl rfl 11 (by decide) rfl rfl (hts (.fieldLink RX5 51 "CatLeases$Reader" "place" "I") (List.mem_of_getElem? (i := 2) rfl)) (fun _ h9 => h9) dX5_readKnownName_32 (fun v17 e_v17 i_v17 => ?_)
      refine h_goi hI (by decide) (va_runV (As := [.int (5 : Int32), .int v17]) (rest := []) ⟨hx, hb, hml, hown, hts⟩ (h_fail_X5 l D g σ Z hZ0 M N R a g_a (5 : Int32) v17) (cwV 2 hts gX5_readKnownName_X5_fail rfl rfl rfl (by decide +kernel) ⟨Nat.le_of_ble_eq_true rfl, Nat.le_of_ble_eq_true rfl⟩) (h_preV hZ0 hK hE hI g_a (by decide) rfl) rfl rfl hl.1 rfl (lv_room (Nat.le_of_ble_eq_true rfl)) dX5_readKnownName_35 ⟨Nat.le_of_ble_eq_true rfl, Nat.le_of_ble_eq_true rfl⟩) (fun r18 M19 N20 R21 H locs q22 z_M19 hI => ?_)
      obtain ⟨rfl, rfl, i_r18⟩ := q22
      refine lv_pop hx hb dX5_readKnownName_38 rfl ?_
      refine lv_iconst (v := (-1)) hx hb dX5_readKnownName_39 (by decide) ?_
      exact h_iret hQ hx hb hr hlocks rfl hK hI ⟨rfl, (iv_w (lo' := (-1)) (hi' := 7) kc_m1 (by decide) (by decide))⟩ dX5_readKnownName_40
  · refine lv_aload_n hx hb dX5_readKnownName_10 rfl (lv_at hl 0 rfl) ?_
    refine h_goi hI (by decide) (va_runV (As := []) (rest := []) ⟨hx, hb, hml, hown, hts⟩ (h_refuse_X5 l D g σ Z hZ0 M N R a g_a) (cwV 0 hts gX5_readKnownName_X5_refuse rfl rfl rfl (by decide +kernel) ⟨Nat.le_of_ble_eq_true rfl, Nat.le_of_ble_eq_true rfl⟩) (h_preV hZ0 hK hE hI g_a (by decide) rfl) rfl rfl hl.1 rfl (lv_room (Nat.le_of_ble_eq_true rfl)) dX5_readKnownName_11 ⟨Nat.le_of_ble_eq_true rfl, Nat.le_of_ble_eq_true rfl⟩) (fun r23 M24 N25 R26 H locs q27 z_M24 hI => ?_)
    obtain ⟨rfl, rfl, i_r23⟩ := q27
    refine lv_pop hx hb dX5_readKnownName_14 rfl ?_
    refine lv_iconst (v := (-1)) hx hb dX5_readKnownName_15 (by decide) ?_
    exact h_iret hQ hx hb hr hlocks rfl hK hI ⟨rfl, (iv_w (lo' := (-1)) (hi' := 7) kc_m1 (by decide) (by decide))⟩ dX5_readKnownName_16
abbrev e_h_readNumber_X5 : List (Nat × Nat) := [(5, 1), (5, 2), (5, 10), (5, 11), (5, 12), (5, 13)]
set_option maxHeartbeats 4000000 in
set_option maxRecDepth 100000 in
theorem h_readNumber_X5 (l : Launch) (D : va_G) (g : Nat → ClassId) (σ : Nat → Option Nat) (Z : State → Heap → Prop) (hZ0 : hZ σ Z) (M : hM) (N : hN) (R : hR) (a : Nat) (g_a : σ a = some 5) (p1 : Int32) : Met l yX5_readNumber wsX5_readNumber ({ frames := 5, cells := 0, slots := 0, locals := 112 }) (va_Pc [.ref a, .int p1] (hPre D g σ Z M N R)) (hQi D g σ e_h_readNumber_X5 M (fun (r : Int32) (M1 : hM) (N1 : hN) (R1 : hR) => R = R1 ∧ iv r 0 1)) 0 0 (hA σ) := by
  refine h_head (cc := cX5_readNumber) (maxL := 3) (ret := (some .boolean)) (by decide) rfl (Nat.le_of_ble_eq_true rfl) e_h_readNumber_X5 ?_
  intro p e s m below meth c ls Q ar hQ hx hb hr hlocks hml hown hts hK hE H locs hI hl
  have hown : s.vm.findClass RX5 = some m.cls := hown
  have hl : lv_has ls 3 [(0, .ref a), (1, .int p1)] := hl
  refine lv_aload_n hx hb dX5_readNumber_0 rfl (lv_at hl 0 rfl) ?_
  refine h_geti (lo := (-2147483648)) (hi := 2147483647) hx hb hts iX5_readNumber_X5 hown hK hI g_a (by decide) rfl rfl 12 (by decide) rfl rfl (hts (.fieldLink RX5 54 "CatLeases$Reader" "kind" "I") (List.mem_of_getElem? (i := 1) rfl)) (fun _ h9 => h9) dX5_readNumber_1 (fun v1 e_v1 i_v1 => ?_)
  refine lv_sipush (v := 257) hx hb dX5_readNumber_4 (by decide) ?_
  refine lv_icmp_eq (tgt := 15) hx hb dX5_readNumber_7 (by decide) (fun c2 => ?_) (fun c2 => ?_)
  · have i3 : iv v1 257 257 := iv_eq1 c2 i_v1 kc_257
    refine lv_aload_n hx hb dX5_readNumber_15 rfl (lv_at hl 0 rfl) ?_
    refine h_geti (lo := (-2147483648)) (hi := 2147483647) hx hb hts iX5_readNumber_X5 hown hK hI g_a (by decide) rfl rfl 13 (by decide) rfl rfl (hts (.fieldLink RX5 57 "CatLeases$Reader" "number" "I") (List.mem_of_getElem? (i := 2) rfl)) (fun _ h9 => h9) dX5_readNumber_16 (fun v4 e_v4 i_v4 => ?_)
    refine lv_iload_n hx hb dX5_readNumber_19 rfl (lv_at hl 1 rfl) ?_
    refine lv_icmp_le (tgt := 33) hx hb dX5_readNumber_20 (by decide) (fun c5 => ?_) (fun c5 => ?_)
    · refine lv_aload_n hx hb dX5_readNumber_33 rfl (lv_at hl 0 rfl) ?_
      refine h_geti (lo := (-2147483648)) (hi := 2147483647) hx hb hts iX5_readNumber_X5 hown hK hI g_a (by decide) rfl rfl 13 (by decide) rfl rfl (hts (.fieldLink RX5 57 "CatLeases$Reader" "number" "I") (List.mem_of_getElem? (i := 2) rfl)) (fun _ h9 => h9) dX5_readNumber_34 (fun v6 e_v6 i_v6 => ?_)
      have q7 : v4 = v6 := (e_v4).trans e_v6.symm
      subst q7
      refine lv_istore_n (lv' := [(2, .int v4), (0, .ref a), (1, .int p1)]) hx hb dX5_readNumber_37 rfl hl (by decide) rfl (fun ls hl => ?_)
      refine lv_aload_n hx hb dX5_readNumber_38 rfl (lv_at hl 1 rfl) ?_
      refine h_gov hI (by decide) (va_runV (As := []) (rest := []) ⟨hx, hb, hml, hown, hts⟩ (h_advance_X5 l D g σ Z hZ0 M N R a g_a) (cwV 0 hts gX5_readNumber_X5_advance rfl rfl rfl (by decide +kernel) ⟨Nat.le_of_ble_eq_true rfl, Nat.le_of_ble_eq_true rfl⟩) (h_preV hZ0 hK hE hI g_a (by decide) rfl) rfl rfl hl.1 rfl (lv_room (Nat.le_of_ble_eq_true rfl)) dX5_readNumber_39 ⟨Nat.le_of_ble_eq_true rfl, Nat.le_of_ble_eq_true rfl⟩) (fun M9 N10 R11 H locs q12 z_M9 hI => ?_)
      subst q12
      refine lv_aload_n hx hb dX5_readNumber_42 rfl (lv_at hl 1 rfl) ?_
      refine lv_iload_n hx hb dX5_readNumber_43 rfl (lv_at hl 0 rfl) ?_
      refine h_puti hx hb hts iX5_readNumber_X5 tyX5 tyX5_ok nmX5 hown hK hI g_a (by decide) rfl rfl 13 (by decide) rfl (hts (.fieldLink RX5 57 "CatLeases$Reader" "number" "I") (List.mem_of_getElem? (i := 2) rfl)) (fun _ h9 => h9) rfl .int (by decide +kernel) rfl rfl i_v4 rfl dX5_readNumber_44 (fun M13 H locs e_M13 hI => ?_)
      refine lv_iconst (v := 1) hx hb dX5_readNumber_47 (by decide) ?_
      exact h_iret hQ hx hb hr hlocks rfl hK hI ⟨rfl, (iv_w (lo' := 0) (hi' := 1) kc_1 (by decide) (by decide))⟩ dX5_readNumber_48
    · have i14 : iv v4 (-2147483647) 2147483647 := iv_nle1 c5 i_v4 (iv_any p1) (by decide)
      have i15 : iv p1 (-2147483648) 2147483646 := iv_nle2 c5 i_v4 (iv_any p1) (by decide)
      refine lv_aload_n hx hb dX5_readNumber_23 rfl (lv_at hl 0 rfl) ?_
      refine lv_iconst (v := 4) hx hb dX5_readNumber_24 (by decide) ?_
      refine lv_aload_n hx hb dX5_readNumber_25 rfl (lv_at hl 0 rfl) ?_
      refine h_geti (lo := (-2147483648)) (hi := 2147483647) hx hb hts iX5_readNumber_X5 hown hK hI g_a (by decide) rfl rfl 11 (by decide) rfl rfl (hts (.fieldLink RX5 51 "CatLeases$Reader" "place" "I") (List.mem_of_getElem? (i := 3) rfl)) (fun _ h9 => h9) dX5_readNumber_26 (fun v16 e_v16 i_v16 => ?_)
      refine h_goi hI (by decide) (va_runV (As := [.int (4 : Int32), .int v16]) (rest := []) ⟨hx, hb, hml, hown, hts⟩ (h_fail_X5 l D g σ Z hZ0 M N R a g_a (4 : Int32) v16) (cwV 2 hts gX5_readNumber_X5_fail rfl rfl rfl (by decide +kernel) ⟨Nat.le_of_ble_eq_true rfl, Nat.le_of_ble_eq_true rfl⟩) (h_preV hZ0 hK hE hI g_a (by decide) rfl) rfl rfl hl.1 rfl (lv_room (Nat.le_of_ble_eq_true rfl)) dX5_readNumber_29 ⟨Nat.le_of_ble_eq_true rfl, Nat.le_of_ble_eq_true rfl⟩) (fun r17 M18 N19 R20 H locs q21 z_M18 hI => ?_)
      obtain ⟨rfl, rfl, i_r17⟩ := q21
      exact h_iret hQ hx hb hr hlocks (nar_z (iv_w (lo' := 0) (hi' := 1) i_r17 (by decide) (by decide))) hK hI ⟨rfl, (iv_w (lo' := 0) (hi' := 1) i_r17 (by decide) (by decide))⟩ dX5_readNumber_32
  · refine lv_aload_n hx hb dX5_readNumber_10 rfl (lv_at hl 0 rfl) ?_
    refine h_goi hI (by decide) (va_runV (As := []) (rest := []) ⟨hx, hb, hml, hown, hts⟩ (h_refuse_X5 l D g σ Z hZ0 M N R a g_a) (cwV 0 hts gX5_readNumber_X5_refuse rfl rfl rfl (by decide +kernel) ⟨Nat.le_of_ble_eq_true rfl, Nat.le_of_ble_eq_true rfl⟩) (h_preV hZ0 hK hE hI g_a (by decide) rfl) rfl rfl hl.1 rfl (lv_room (Nat.le_of_ble_eq_true rfl)) dX5_readNumber_11 ⟨Nat.le_of_ble_eq_true rfl, Nat.le_of_ble_eq_true rfl⟩) (fun r22 M23 N24 R25 H locs q26 z_M23 hI => ?_)
    obtain ⟨rfl, rfl, i_r22⟩ := q26
    exact h_iret hQ hx hb hr hlocks (nar_z (iv_w (lo' := 0) (hi' := 1) i_r22 (by decide) (by decide))) hK hI ⟨rfl, (iv_w (lo' := 0) (hi' := 1) i_r22 (by decide) (by decide))⟩ dX5_readNumber_14
abbrev e_h_follows_X5 : List (Nat × Nat) := [(5, 10), (5, 11), (5, 12), (5, 13)]
set_option maxHeartbeats 4000000 in
set_option maxRecDepth 100000 in
theorem h_follows_X5 (l : Launch) (D : va_G) (g : Nat → ClassId) (σ : Nat → Option Nat) (Z : State → Heap → Prop) (hZ0 : hZ σ Z) (M : hM) (N : hN) (R : hR) (a : Nat) (g_a : σ a = some 5) (p1 : Int32) : Met l yX5_follows wsX5_follows ({ frames := 5, cells := 0, slots := 0, locals := 112 }) (va_Pc [.ref a, .int p1] (hPre D g σ Z M N R)) (hQi D g σ e_h_follows_X5 M (fun (r : Int32) (M1 : hM) (N1 : hN) (R1 : hR) => R = R1 ∧ iv r 0 1)) 0 0 (hA σ) := by
  refine h_head (cc := cX5_follows) (maxL := 3) (ret := (some .boolean)) (by decide) rfl (Nat.le_of_ble_eq_true rfl) e_h_follows_X5 ?_
  intro p e s m below meth c ls Q ar hQ hx hb hr hlocks hml hown hts hK hE H locs hI hl
  have hown : s.vm.findClass RX5 = some m.cls := hown
  have hl : lv_has ls 3 [(0, .ref a), (1, .int p1)] := hl
  refine lv_aload_n hx hb dX5_follows_0 rfl (lv_at hl 0 rfl) ?_
  refine h_geti (lo := (-2147483648)) (hi := 2147483647) hx hb hts iX5_follows_X5 hown hK hI g_a (by decide) rfl rfl 12 (by decide) rfl rfl (hts (.fieldLink RX5 54 "CatLeases$Reader" "kind" "I") (List.mem_of_getElem? (i := 1) rfl)) (fun _ h9 => h9) dX5_follows_1 (fun v1 e_v1 i_v1 => ?_)
  refine lv_iload_n hx hb dX5_follows_4 rfl (lv_at hl 1 rfl) ?_
  have J13 : ∀ (t0_13 : Int32) (H : Heap) (locs : List Loc) (ls : Array Slot), kI D g σ e_h_follows_X5 M s.heap M N R H locs → lv_has ls 3 [(0, .ref a)] → iv t0_13 0 1 → W p l e (headSpec wsX5_follows ({ frames := 5, cells := 0, slots := 0, locals := 112 })).room s m ar below meth c H locs 0 0 Q (F0 m 13 ls [.int t0_13]) := by
    intro t0_13 H locs ls hI hl i_t0_13
    refine lv_istore_n (lv' := [(2, .int t0_13), (0, .ref a)]) hx hb dX5_follows_13 rfl hl (by decide) rfl (fun ls hl => ?_)
    refine lv_iload_n hx hb dX5_follows_14 rfl (lv_at hl 0 rfl) ?_
    refine lv_if_eq (tgt := 22) hx hb dX5_follows_15 (by decide) (fun c2 => ?_) (fun c2 => ?_)
    · have i3 : iv t0_13 0 0 := iv_eq1 c2 i_t0_13 kc_0
      refine lv_iload_n hx hb dX5_follows_22 rfl (lv_at hl 0 rfl) ?_
      exact h_iret hQ hx hb hr hlocks (nar_z (iv_w (lo' := 0) (hi' := 1) i3 (by decide) (by decide))) hK hI ⟨rfl, (iv_w (lo' := 0) (hi' := 1) i3 (by decide) (by decide))⟩ dX5_follows_23
    · have i4 : iv t0_13 1 1 := iv_neL c2 i_t0_13 (by decide) (by decide)
      refine lv_aload_n hx hb dX5_follows_18 rfl (lv_at hl 1 rfl) ?_
      refine h_gov hI (by decide) (va_runV (As := []) (rest := []) ⟨hx, hb, hml, hown, hts⟩ (h_advance_X5 l D g σ Z hZ0 M N R a g_a) (cwV 0 hts gX5_follows_X5_advance rfl rfl rfl (by decide +kernel) ⟨Nat.le_of_ble_eq_true rfl, Nat.le_of_ble_eq_true rfl⟩) (h_preV hZ0 hK hE hI g_a (by decide) rfl) rfl rfl hl.1 rfl (lv_room (Nat.le_of_ble_eq_true rfl)) dX5_follows_19 ⟨Nat.le_of_ble_eq_true rfl, Nat.le_of_ble_eq_true rfl⟩) (fun M6 N7 R8 H locs q9 z_M6 hI => ?_)
      subst q9
      refine lv_iload_n hx hb dX5_follows_22 rfl (lv_at hl 0 rfl) ?_
      exact h_iret hQ hx hb hr hlocks (nar_z (iv_w (lo' := 0) (hi' := 1) i4 (by decide) (by decide))) hK hI ⟨rfl, (iv_w (lo' := 0) (hi' := 1) i4 (by decide) (by decide))⟩ dX5_follows_23
  refine lv_icmp_ne (tgt := 12) hx hb dX5_follows_5 (by decide) (fun c10 => ?_) (fun c10 => ?_)
  · refine lv_iconst (v := 0) hx hb dX5_follows_12 (by decide) ?_
    exact J13 (0 : Int32) H locs ls hI (lv_sub hl [0] rfl) (iv_w (lo' := 0) (hi' := 1) kc_0 (by decide) (by decide))
  · refine lv_iconst (v := 1) hx hb dX5_follows_8 (by decide) ?_
    refine lv_goto (tgt := 13) hx hb dX5_follows_9 (by decide) ?_
    exact J13 (1 : Int32) H locs ls hI (lv_sub hl [0] rfl) (iv_w (lo' := 0) (hi' := 1) kc_1 (by decide) (by decide))
abbrev e_h_readWord_X5 : List (Nat × Nat) := [(5, 1), (5, 2), (5, 10), (5, 11), (5, 12), (5, 13)]
set_option maxHeartbeats 4000000 in
set_option maxRecDepth 100000 in
theorem h_readWord_X5 (l : Launch) (D : va_G) (g : Nat → ClassId) (σ : Nat → Option Nat) (Z : State → Heap → Prop) (hZ0 : hZ σ Z) (M : hM) (N : hN) (R : hR) (a : Nat) (g_a : σ a = some 5) (p1 : Int32) : Met l yX5_readWord wsX5_readWord ({ frames := 5, cells := 0, slots := 0, locals := 112 }) (va_Pc [.ref a, .int p1] (hPre D g σ Z M N R)) (hQi D g σ e_h_readWord_X5 M (fun (r : Int32) (M1 : hM) (N1 : hN) (R1 : hR) => R = R1 ∧ iv r 0 1)) 0 0 (hA σ) := by
  refine h_head (cc := cX5_readWord) (maxL := 2) (ret := (some .boolean)) (by decide) rfl (Nat.le_of_ble_eq_true rfl) e_h_readWord_X5 ?_
  intro p e s m below meth c ls Q ar hQ hx hb hr hlocks hml hown hts hK hE H locs hI hl
  have hown : s.vm.findClass RX5 = some m.cls := hown
  have hl : lv_has ls 2 [(0, .ref a), (1, .int p1)] := hl
  refine lv_aload_n hx hb dX5_readWord_0 rfl (lv_at hl 0 rfl) ?_
  refine h_geti (lo := (-2147483648)) (hi := 2147483647) hx hb hts iX5_readWord_X5 hown hK hI g_a (by decide) rfl rfl 12 (by decide) rfl rfl (hts (.fieldLink RX5 54 "CatLeases$Reader" "kind" "I") (List.mem_of_getElem? (i := 1) rfl)) (fun _ h9 => h9) dX5_readWord_1 (fun v1 e_v1 i_v1 => ?_)
  refine lv_iload_n hx hb dX5_readWord_4 rfl (lv_at hl 1 rfl) ?_
  refine lv_icmp_eq (tgt := 13) hx hb dX5_readWord_5 (by decide) (fun c2 => ?_) (fun c2 => ?_)
  · refine lv_aload_n hx hb dX5_readWord_13 rfl (lv_at hl 0 rfl) ?_
    refine h_gov hI (by decide) (va_runV (As := []) (rest := []) ⟨hx, hb, hml, hown, hts⟩ (h_advance_X5 l D g σ Z hZ0 M N R a g_a) (cwV 0 hts gX5_readWord_X5_advance rfl rfl rfl (by decide +kernel) ⟨Nat.le_of_ble_eq_true rfl, Nat.le_of_ble_eq_true rfl⟩) (h_preV hZ0 hK hE hI g_a (by decide) rfl) rfl rfl hl.1 rfl (lv_room (Nat.le_of_ble_eq_true rfl)) dX5_readWord_14 ⟨Nat.le_of_ble_eq_true rfl, Nat.le_of_ble_eq_true rfl⟩) (fun M4 N5 R6 H locs q7 z_M4 hI => ?_)
    subst q7
    refine lv_iconst (v := 1) hx hb dX5_readWord_17 (by decide) ?_
    exact h_iret hQ hx hb hr hlocks rfl hK hI ⟨rfl, (iv_w (lo' := 0) (hi' := 1) kc_1 (by decide) (by decide))⟩ dX5_readWord_18
  · refine lv_aload_n hx hb dX5_readWord_8 rfl (lv_at hl 0 rfl) ?_
    refine h_goi hI (by decide) (va_runV (As := []) (rest := []) ⟨hx, hb, hml, hown, hts⟩ (h_refuse_X5 l D g σ Z hZ0 M N R a g_a) (cwV 0 hts gX5_readWord_X5_refuse rfl rfl rfl (by decide +kernel) ⟨Nat.le_of_ble_eq_true rfl, Nat.le_of_ble_eq_true rfl⟩) (h_preV hZ0 hK hE hI g_a (by decide) rfl) rfl rfl hl.1 rfl (lv_room (Nat.le_of_ble_eq_true rfl)) dX5_readWord_9 ⟨Nat.le_of_ble_eq_true rfl, Nat.le_of_ble_eq_true rfl⟩) (fun r8 M9 N10 R11 H locs q12 z_M9 hI => ?_)
    obtain ⟨rfl, rfl, i_r8⟩ := q12
    exact h_iret hQ hx hb hr hlocks (nar_z (iv_w (lo' := 0) (hi' := 1) i_r8 (by decide) (by decide))) hK hI ⟨rfl, (iv_w (lo' := 0) (hi' := 1) i_r8 (by decide) (by decide))⟩ dX5_readWord_12
abbrev e_h_closeLine_X5 : List (Nat × Nat) := [(5, 1), (5, 2), (5, 10), (5, 11), (5, 12), (5, 13)]
set_option maxHeartbeats 4000000 in
set_option maxRecDepth 100000 in
theorem h_closeLine_X5 (l : Launch) (D : va_G) (g : Nat → ClassId) (σ : Nat → Option Nat) (Z : State → Heap → Prop) (hZ0 : hZ σ Z) (M : hM) (N : hN) (R : hR) (a : Nat) (g_a : σ a = some 5) : Met l yX5_closeLine wsX5_closeLine ({ frames := 6, cells := 0, slots := 0, locals := 133 }) (va_Pc [.ref a] (hPre D g σ Z M N R)) (hQi D g σ e_h_closeLine_X5 M (fun (r : Int32) (M1 : hM) (N1 : hN) (R1 : hR) => R = R1 ∧ iv r 0 1)) 0 0 (hA σ) := by
  refine h_head (cc := cX5_closeLine) (maxL := 1) (ret := (some .boolean)) (by decide) rfl (Nat.le_of_ble_eq_true rfl) e_h_closeLine_X5 ?_
  intro p e s m below meth c ls Q ar hQ hx hb hr hlocks hml hown hts hK hE H locs hI hl
  have hown : s.vm.findClass RX5 = some m.cls := hown
  have hl : lv_has ls 1 [(0, .ref a)] := hl
  refine lv_aload_n hx hb dX5_closeLine_0 rfl (lv_at hl 0 rfl) ?_
  refine lv_bipush (v := 59) hx hb dX5_closeLine_1 (by decide) ?_
  refine h_goi hI (by decide) (va_runV (As := [.int (59 : Int32)]) (rest := []) ⟨hx, hb, hml, hown, hts⟩ (h_readWord_X5 l D g σ Z hZ0 M N R a g_a (59 : Int32)) (cwV 1 hts gX5_closeLine_X5_readWord rfl rfl rfl (by decide +kernel) ⟨Nat.le_of_ble_eq_true rfl, Nat.le_of_ble_eq_true rfl⟩) (h_preV hZ0 hK hE hI g_a (by decide) rfl) rfl rfl hl.1 rfl (lv_room (Nat.le_of_ble_eq_true rfl)) dX5_closeLine_3 ⟨Nat.le_of_ble_eq_true rfl, Nat.le_of_ble_eq_true rfl⟩) (fun r1 M2 N3 R4 H locs q5 z_M2 hI => ?_)
  obtain ⟨rfl, i_r1⟩ := q5
  exact h_iret hQ hx hb hr hlocks (nar_z i_r1) hK hI ⟨rfl, i_r1⟩ dX5_closeLine_6
abbrev e_h_readOnce_X5 : List (Nat × Nat) := [(5, 1), (5, 2), (5, 9), (5, 10), (5, 11), (5, 12), (5, 13)]
set_option maxHeartbeats 4000000 in
set_option maxRecDepth 100000 in
theorem h_readOnce_X5 (l : Launch) (D : va_G) (g : Nat → ClassId) (σ : Nat → Option Nat) (Z : State → Heap → Prop) (hZ0 : hZ σ Z) (M : hM) (N : hN) (R : hR) (a : Nat) (g_a : σ a = some 5) : Met l yX5_readOnce wsX5_readOnce ({ frames := 5, cells := 0, slots := 0, locals := 112 }) (va_Pc [.ref a] (hPre D g σ Z M N R)) (hQi D g σ e_h_readOnce_X5 M (fun (r : Int32) (M1 : hM) (N1 : hN) (R1 : hR) => R = R1 ∧ iv r 0 1)) 0 0 (hA σ) := by
  refine h_head (cc := cX5_readOnce) (maxL := 1) (ret := (some .boolean)) (by decide) rfl (Nat.le_of_ble_eq_true rfl) e_h_readOnce_X5 ?_
  intro p e s m below meth c ls Q ar hQ hx hb hr hlocks hml hown hts hK hE H locs hI hl
  have hown : s.vm.findClass RX5 = some m.cls := hown
  have hl : lv_has ls 1 [(0, .ref a)] := hl
  refine lv_aload_n hx hb dX5_readOnce_0 rfl (lv_at hl 0 rfl) ?_
  refine h_geti (lo := (-2147483648)) (hi := 2147483647) hx hb hts iX5_readOnce_X5 hown hK hI g_a (by decide) rfl rfl 9 (by decide) rfl rfl (hts (.fieldLink RX5 45 "CatLeases$Reader" "toldOnce" "I") (List.mem_of_getElem? (i := 1) rfl)) (fun _ h9 => h9) dX5_readOnce_1 (fun v1 e_v1 i_v1 => ?_)
  refine lv_aload_n hx hb dX5_readOnce_4 rfl (lv_at hl 0 rfl) ?_
  refine h_geti (lo := (-2147483648)) (hi := 2147483647) hx hb hts iX5_readOnce_X5 hown hK hI g_a (by decide) rfl rfl 12 (by decide) rfl rfl (hts (.fieldLink RX5 54 "CatLeases$Reader" "kind" "I") (List.mem_of_getElem? (i := 2) rfl)) (fun _ h9 => h9) dX5_readOnce_5 (fun v2 e_v2 i_v2 => ?_)
  refine lv_ishr hx hb dX5_readOnce_8 ?_
  refine h_nm (lo := (-2147483648)) (hi := 2147483647) (iv_any _) (fun v3 e_v3 i_v3 => ?_)
  refine lv_iconst (v := 1) hx hb dX5_readOnce_9 (by decide) ?_
  refine lv_iand hx hb dX5_readOnce_10 ?_
  refine h_nm (lo := 0) (hi := 1) (iv_and 1 (by decide) (by decide) (by decide)) (fun v4 e_v4 i_v4 => ?_)
  refine lv_if_eq (tgt := 19) hx hb dX5_readOnce_11 (by decide) (fun c5 => ?_) (fun c5 => ?_)
  · have i6 : iv v4 0 0 := iv_eq1 c5 i_v4 kc_0
    refine lv_aload_n hx hb dX5_readOnce_19 rfl (lv_at hl 0 rfl) ?_
    refine lv_dup hx hb dX5_readOnce_20 rfl ?_
    refine h_geti (lo := (-2147483648)) (hi := 2147483647) hx hb hts iX5_readOnce_X5 hown hK hI g_a (by decide) rfl rfl 9 (by decide) rfl rfl (hts (.fieldLink RX5 45 "CatLeases$Reader" "toldOnce" "I") (List.mem_of_getElem? (i := 1) rfl)) (fun _ h9 => h9) dX5_readOnce_21 (fun v7 e_v7 i_v7 => ?_)
    have q8 : v1 = v7 := (e_v1).trans e_v7.symm
    subst q8
    refine lv_iconst (v := 1) hx hb dX5_readOnce_24 (by decide) ?_
    refine lv_aload_n hx hb dX5_readOnce_25 rfl (lv_at hl 0 rfl) ?_
    refine h_geti (lo := (-2147483648)) (hi := 2147483647) hx hb hts iX5_readOnce_X5 hown hK hI g_a (by decide) rfl rfl 12 (by decide) rfl rfl (hts (.fieldLink RX5 54 "CatLeases$Reader" "kind" "I") (List.mem_of_getElem? (i := 2) rfl)) (fun _ h9 => h9) dX5_readOnce_26 (fun v9 e_v9 i_v9 => ?_)
    have q10 : v2 = v9 := (e_v2).trans e_v9.symm
    subst q10
    refine lv_ishl hx hb dX5_readOnce_29 ?_
    refine h_nm (lo := (-2147483648)) (hi := 2147483647) (iv_any _) (fun v11 e_v11 i_v11 => ?_)
    refine lv_ior hx hb dX5_readOnce_30 ?_
    refine h_nm (lo := (-2147483648)) (hi := 2147483647) (iv_any _) (fun v12 e_v12 i_v12 => ?_)
    refine h_puti hx hb hts iX5_readOnce_X5 tyX5 tyX5_ok nmX5 hown hK hI g_a (by decide) rfl rfl 9 (by decide) rfl (hts (.fieldLink RX5 45 "CatLeases$Reader" "toldOnce" "I") (List.mem_of_getElem? (i := 1) rfl)) (fun _ h9 => h9) rfl .int (by decide +kernel) rfl rfl i_v12 rfl dX5_readOnce_31 (fun M13 H locs e_M13 hI => ?_)
    refine lv_aload_n hx hb dX5_readOnce_34 rfl (lv_at hl 0 rfl) ?_
    refine h_gov hI (by decide) (va_runV (As := []) (rest := []) ⟨hx, hb, hml, hown, hts⟩ (h_advance_X5 l D g σ Z hZ0 M13 N R a g_a) (cwV 0 hts gX5_readOnce_X5_advance rfl rfl rfl (by decide +kernel) ⟨Nat.le_of_ble_eq_true rfl, Nat.le_of_ble_eq_true rfl⟩) (h_preV hZ0 hK hE hI g_a (by decide) rfl) rfl rfl hl.1 rfl (lv_room (Nat.le_of_ble_eq_true rfl)) dX5_readOnce_35 ⟨Nat.le_of_ble_eq_true rfl, Nat.le_of_ble_eq_true rfl⟩) (fun M15 N16 R17 H locs q18 z_M15 hI => ?_)
    subst q18
    refine lv_iconst (v := 1) hx hb dX5_readOnce_38 (by decide) ?_
    exact h_iret hQ hx hb hr hlocks rfl hK hI ⟨rfl, (iv_w (lo' := 0) (hi' := 1) kc_1 (by decide) (by decide))⟩ dX5_readOnce_39
  · have i19 : iv v4 1 1 := iv_neL c5 i_v4 (by decide) (by decide)
    refine lv_aload_n hx hb dX5_readOnce_14 rfl (lv_at hl 0 rfl) ?_
    refine h_goi hI (by decide) (va_runV (As := []) (rest := []) ⟨hx, hb, hml, hown, hts⟩ (h_refuse_X5 l D g σ Z hZ0 M N R a g_a) (cwV 0 hts gX5_readOnce_X5_refuse rfl rfl rfl (by decide +kernel) ⟨Nat.le_of_ble_eq_true rfl, Nat.le_of_ble_eq_true rfl⟩) (h_preV hZ0 hK hE hI g_a (by decide) rfl) rfl rfl hl.1 rfl (lv_room (Nat.le_of_ble_eq_true rfl)) dX5_readOnce_15 ⟨Nat.le_of_ble_eq_true rfl, Nat.le_of_ble_eq_true rfl⟩) (fun r20 M21 N22 R23 H locs q24 z_M21 hI => ?_)
    obtain ⟨rfl, rfl, i_r20⟩ := q24
    exact h_iret hQ hx hb hr hlocks (nar_z (iv_w (lo' := 0) (hi' := 1) i_r20 (by decide) (by decide))) hK hI ⟨rfl, (iv_w (lo' := 0) (hi' := 1) i_r20 (by decide) (by decide))⟩ dX5_readOnce_18
abbrev e_h_readDraw_X5 : List (Nat × Nat) := [(5, 1), (5, 2), (5, 10), (5, 11), (5, 12), (5, 13), (7, 7)]
set_option maxHeartbeats 4000000 in
set_option maxRecDepth 100000 in
theorem h_readDraw_X5 (l : Launch) (D : va_G) (g : Nat → ClassId) (σ : Nat → Option Nat) (Z : State → Heap → Prop) (hZ0 : hZ σ Z) (M : hM) (N : hN) (R : hR) (a : Nat) (g_a : σ a = some 5) : Met l yX5_readDraw wsX5_readDraw ({ frames := 6, cells := 0, slots := 0, locals := 134 }) (va_Pc [.ref a] (hPre D g σ Z M N R)) (hQi D g σ e_h_readDraw_X5 M (fun (r : Int32) (M1 : hM) (N1 : hN) (R1 : hR) => R = R1 ∧ iv r 0 1)) 0 0 (hA σ) := by
  refine h_head (cc := cX5_readDraw) (maxL := 1) (ret := (some .boolean)) (by decide) rfl (Nat.le_of_ble_eq_true rfl) e_h_readDraw_X5 ?_
  intro p e s m below meth c ls Q ar hQ hx hb hr hlocks hml hown hts hK hE H locs hI hl
  have hown : s.vm.findClass RX5 = some m.cls := hown
  have hl : lv_has ls 1 [(0, .ref a)] := hl
  refine lv_aload_n hx hb dX5_readDraw_0 rfl (lv_at hl 0 rfl) ?_
  refine lv_sipush (v := 999) hx hb dX5_readDraw_1 (by decide) ?_
  refine h_goi hI (by decide) (va_runV (As := [.int (999 : Int32)]) (rest := []) ⟨hx, hb, hml, hown, hts⟩ (h_readNumber_X5 l D g σ Z hZ0 M N R a g_a (999 : Int32)) (cwV 1 hts gX5_readDraw_X5_readNumber rfl rfl rfl (by decide +kernel) ⟨Nat.le_of_ble_eq_true rfl, Nat.le_of_ble_eq_true rfl⟩) (h_preV hZ0 hK hE hI g_a (by decide) rfl) rfl rfl hl.1 rfl (lv_room (Nat.le_of_ble_eq_true rfl)) dX5_readDraw_4 ⟨Nat.le_of_ble_eq_true rfl, Nat.le_of_ble_eq_true rfl⟩) (fun r1 M2 N3 R4 H locs q5 z_M2 hI => ?_)
  obtain ⟨rfl, i_r1⟩ := q5
  refine lv_if_ne (tgt := 12) hx hb dX5_readDraw_7 (by decide) (fun c6 => ?_) (fun c6 => ?_)
  · have i7 : iv r1 1 1 := iv_neL c6 i_r1 (by decide) (by decide)
    refine lv_aload_n hx hb dX5_readDraw_12 rfl (lv_at hl 0 rfl) ?_
    refine h_getr hx hb hts iX5_readDraw_X5 hown hK hI g_a (by decide) rfl rfl 0 (by decide) rfl 4 rfl (hts (.fieldLink RX5 12 "CatLeases$Reader" "mews" "LCatLeases$Mews;") (List.mem_of_getElem? (i := 1) rfl)) (fun _ h9 => h9) dX5_readDraw_13 (fun a8 e_a8 g_a8 => ?_)
    refine h_getr hx hb hts iX5_readDraw_X4 hown hK hI g_a8 (by decide) rfl rfl 8 (by decide) rfl 7 rfl (hts (.fieldLink RX5 100 "CatLeases$Mews" "told" "LCatLeases$State;") (List.mem_of_getElem? (i := 2) rfl)) (fun _ h9 => h9) dX5_readDraw_16 (fun a9 e_a9 g_a9 => ?_)
    refine lv_aload_n hx hb dX5_readDraw_19 rfl (lv_at hl 0 rfl) ?_
    refine h_geti (lo := (-2147483648)) (hi := 2147483647) hx hb hts iX5_readDraw_X5 hown hK hI g_a (by decide) rfl rfl 13 (by decide) rfl rfl (hts (.fieldLink RX5 57 "CatLeases$Reader" "number" "I") (List.mem_of_getElem? (i := 3) rfl)) (fun _ h9 => h9) dX5_readDraw_20 (fun v10 e_v10 i_v10 => ?_)
    refine h_puti hx hb hts iX5_readDraw_X7 tyX7 tyX7_ok nmX7 hown hK hI g_a9 (by decide) rfl rfl 7 (by decide) rfl (hts (.fieldLink RX5 205 "CatLeases$State" "seed" "I") (List.mem_of_getElem? (i := 4) rfl)) (fun _ h9 => h9) rfl .int (by decide +kernel) rfl rfl i_v10 rfl dX5_readDraw_23 (fun M11 H locs e_M11 hI => ?_)
    refine lv_iconst (v := 1) hx hb dX5_readDraw_26 (by decide) ?_
    exact h_iret hQ hx hb hr hlocks rfl hK hI ⟨rfl, (iv_w (lo' := 0) (hi' := 1) kc_1 (by decide) (by decide))⟩ dX5_readDraw_27
  · have i12 : iv r1 0 0 := iv_eq1 c6 i_r1 kc_0
    refine lv_iconst (v := 0) hx hb dX5_readDraw_10 (by decide) ?_
    exact h_iret hQ hx hb hr hlocks rfl hK hI ⟨rfl, (iv_w (lo' := 0) (hi' := 1) kc_0 (by decide) (by decide))⟩ dX5_readDraw_11
abbrev e_h_readDies_X5 : List (Nat × Nat) := [(4, 3), (5, 1), (5, 2), (5, 10), (5, 11), (5, 12), (5, 13)]
set_option maxHeartbeats 4000000 in
set_option maxRecDepth 100000 in
theorem h_readDies_X5 (l : Launch) (D : va_G) (g : Nat → ClassId) (σ : Nat → Option Nat) (Z : State → Heap → Prop) (hZ0 : hZ σ Z) (M : hM) (N : hN) (R : hR) (a : Nat) (g_a : σ a = some 5) : Met l yX5_readDies wsX5_readDies ({ frames := 6, cells := 0, slots := 0, locals := 134 }) (va_Pc [.ref a] (hPre D g σ Z M N R)) (hQi D g σ e_h_readDies_X5 M (fun (r : Int32) (M1 : hM) (N1 : hN) (R1 : hR) => R = R1 ∧ iv r 0 1)) 0 0 (hA σ) := by
  refine h_head (cc := cX5_readDies) (maxL := 1) (ret := (some .boolean)) (by decide) rfl (Nat.le_of_ble_eq_true rfl) e_h_readDies_X5 ?_
  intro p e s m below meth c ls Q ar hQ hx hb hr hlocks hml hown hts hK hE H locs hI hl
  have hown : s.vm.findClass RX5 = some m.cls := hown
  have hl : lv_has ls 1 [(0, .ref a)] := hl
  refine lv_aload_n hx hb dX5_readDies_0 rfl (lv_at hl 0 rfl) ?_
  refine lv_bipush (v := 100) hx hb dX5_readDies_1 (by decide) ?_
  refine h_goi hI (by decide) (va_runV (As := [.int (100 : Int32)]) (rest := []) ⟨hx, hb, hml, hown, hts⟩ (h_readNumber_X5 l D g σ Z hZ0 M N R a g_a (100 : Int32)) (cwV 1 hts gX5_readDies_X5_readNumber rfl rfl rfl (by decide +kernel) ⟨Nat.le_of_ble_eq_true rfl, Nat.le_of_ble_eq_true rfl⟩) (h_preV hZ0 hK hE hI g_a (by decide) rfl) rfl rfl hl.1 rfl (lv_room (Nat.le_of_ble_eq_true rfl)) dX5_readDies_3 ⟨Nat.le_of_ble_eq_true rfl, Nat.le_of_ble_eq_true rfl⟩) (fun r1 M2 N3 R4 H locs q5 z_M2 hI => ?_)
  obtain ⟨rfl, i_r1⟩ := q5
  refine lv_if_ne (tgt := 11) hx hb dX5_readDies_6 (by decide) (fun c6 => ?_) (fun c6 => ?_)
  · have i7 : iv r1 1 1 := iv_neL c6 i_r1 (by decide) (by decide)
    refine lv_aload_n hx hb dX5_readDies_11 rfl (lv_at hl 0 rfl) ?_
    refine h_getr hx hb hts iX5_readDies_X5 hown hK hI g_a (by decide) rfl rfl 0 (by decide) rfl 4 rfl (hts (.fieldLink RX5 12 "CatLeases$Reader" "mews" "LCatLeases$Mews;") (List.mem_of_getElem? (i := 1) rfl)) (fun _ h9 => h9) dX5_readDies_12 (fun a8 e_a8 g_a8 => ?_)
    refine lv_aload_n hx hb dX5_readDies_15 rfl (lv_at hl 0 rfl) ?_
    refine h_geti (lo := (-2147483648)) (hi := 2147483647) hx hb hts iX5_readDies_X5 hown hK hI g_a (by decide) rfl rfl 13 (by decide) rfl rfl (hts (.fieldLink RX5 57 "CatLeases$Reader" "number" "I") (List.mem_of_getElem? (i := 2) rfl)) (fun _ h9 => h9) dX5_readDies_16 (fun v9 e_v9 i_v9 => ?_)
    refine h_puti hx hb hts iX5_readDies_X4 tyX4 tyX4_ok nmX4 hown hK hI g_a8 (by decide) rfl rfl 3 (by decide) rfl (hts (.fieldLink RX5 202 "CatLeases$Mews" "dies" "I") (List.mem_of_getElem? (i := 3) rfl)) (fun _ h9 => h9) rfl .int (by decide +kernel) rfl rfl i_v9 rfl dX5_readDies_19 (fun M10 H locs e_M10 hI => ?_)
    refine lv_iconst (v := 1) hx hb dX5_readDies_22 (by decide) ?_
    exact h_iret hQ hx hb hr hlocks rfl hK hI ⟨rfl, (iv_w (lo' := 0) (hi' := 1) kc_1 (by decide) (by decide))⟩ dX5_readDies_23
  · have i11 : iv r1 0 0 := iv_eq1 c6 i_r1 kc_0
    refine lv_iconst (v := 0) hx hb dX5_readDies_9 (by decide) ?_
    exact h_iret hQ hx hb hr hlocks rfl hK hI ⟨rfl, (iv_w (lo' := 0) (hi' := 1) kc_0 (by decide) (by decide))⟩ dX5_readDies_10
abbrev e_h_readCat_X5 : List (Nat × Nat) := [(4, 0), (5, 1), (5, 2), (5, 10), (5, 11), (5, 12), (5, 13), (15, 999)]
set_option maxHeartbeats 4000000 in
set_option maxRecDepth 100000 in
theorem h_readCat_X5 (l : Launch) (D : va_G) (g : Nat → ClassId) (σ : Nat → Option Nat) (Z : State → Heap → Prop) (hZ0 : hZ σ Z) (M : hM) (N : hN) (R : hR) (a : Nat) (g_a : σ a = some 5) : Met l yX5_readCat wsX5_readCat ({ frames := 6, cells := 0, slots := 0, locals := 135 }) (va_Pc [.ref a] (hPre D g σ Z M N R)) (hQi D g σ e_h_readCat_X5 M (fun (r : Int32) (M1 : hM) (N1 : hN) (R1 : hR) => R = R1 ∧ iv r 0 1)) 0 0 (hA σ) := by
  refine h_head (cc := cX5_readCat) (maxL := 3) (ret := (some .boolean)) (by decide) rfl (Nat.le_of_ble_eq_true rfl) e_h_readCat_X5 ?_
  intro p e s m below meth c ls Q ar hQ hx hb hr hlocks hml hown hts hK hE H locs hI hl
  have hown : s.vm.findClass RX5 = some m.cls := hown
  have hl : lv_has ls 3 [(0, .ref a)] := hl
  refine lv_aload_n hx hb dX5_readCat_0 rfl (lv_at hl 0 rfl) ?_
  refine h_getr hx hb hts iX5_readCat_X5 hown hK hI g_a (by decide) rfl rfl 0 (by decide) rfl 4 rfl (hts (.fieldLink RX5 12 "CatLeases$Reader" "mews" "LCatLeases$Mews;") (List.mem_of_getElem? (i := 1) rfl)) (fun _ h9 => h9) dX5_readCat_1 (fun a1 e_a1 g_a1 => ?_)
  refine h_geti (lo := 0) (hi := 6) hx hb hts iX5_readCat_X4 hown hK hI g_a1 (by decide) rfl rfl 0 (by decide) rfl rfl (hts (.fieldLink RX5 104 "CatLeases$Mews" "cats" "I") (List.mem_of_getElem? (i := 2) rfl)) (fun _ h9 => h9) dX5_readCat_4 (fun v2 e_v2 i_v2 => ?_)
  refine lv_istore_n (lv' := [(1, .int v2), (0, .ref a)]) hx hb dX5_readCat_7 rfl hl (by decide) rfl (fun ls hl => ?_)
  refine lv_iload_n hx hb dX5_readCat_8 rfl (lv_at hl 0 rfl) ?_
  refine lv_bipush (v := 6) hx hb dX5_readCat_9 (by decide) ?_
  refine lv_icmp_lt (tgt := 19) hx hb dX5_readCat_11 (by decide) (fun c3 => ?_) (fun c3 => ?_)
  · have i4 : iv v2 0 5 := iv_lt1 c3 i_v2 kc_6 (by decide)
    refine lv_aload_n hx hb dX5_readCat_19 rfl (lv_at hl 1 rfl) ?_
    refine h_gov hI (by decide) (va_runV (As := []) (rest := []) ⟨hx, hb, hml, hown, hts⟩ (h_advance_X5 l D g σ Z hZ0 M N R a g_a) (cwV 0 hts gX5_readCat_X5_advance rfl rfl rfl (by decide +kernel) ⟨Nat.le_of_ble_eq_true rfl, Nat.le_of_ble_eq_true rfl⟩) (h_preV hZ0 hK hE hI g_a (by decide) rfl) rfl rfl hl.1 rfl (lv_room (Nat.le_of_ble_eq_true rfl)) dX5_readCat_20 ⟨Nat.le_of_ble_eq_true rfl, Nat.le_of_ble_eq_true rfl⟩) (fun M6 N7 R8 H locs q9 z_M6 hI => ?_)
    subst q9
    refine lv_aload_n hx hb dX5_readCat_23 rfl (lv_at hl 1 rfl) ?_
    refine lv_aload_n hx hb dX5_readCat_24 rfl (lv_at hl 1 rfl) ?_
    refine h_getr hx hb hts iX5_readCat_X5 hown hK hI g_a (by decide) rfl rfl 4 (by decide) rfl 23 rfl (hts (.fieldLink RX5 29 "CatLeases$Reader" "catNames" "[J") (List.mem_of_getElem? (i := 3) rfl)) (fun _ h9 => h9) dX5_readCat_25 (fun a10 e_a10 g_a10 => ?_)
    refine lv_iload_n hx hb dX5_readCat_28 rfl (lv_at hl 0 rfl) ?_
    refine h_goi hI (by decide) (va_runV (As := [.ref a10, .int v2]) (rest := []) ⟨hx, hb, hml, hown, hts⟩ (h_readNewName_23 l D g σ Z hZ0 M6 N7 R a g_a a10 g_a10 v2 i4) (cwV 2 hts gX5_readCat_X5_readNewName rfl rfl rfl (by decide +kernel) ⟨Nat.le_of_ble_eq_true rfl, Nat.le_of_ble_eq_true rfl⟩) (h_preV hZ0 hK hE hI g_a (by decide) rfl) rfl rfl hl.1 rfl (lv_room (Nat.le_of_ble_eq_true rfl)) dX5_readCat_29 ⟨Nat.le_of_ble_eq_true rfl, Nat.le_of_ble_eq_true rfl⟩) (fun r11 M12 N13 R14 H locs q15 z_M12 hI => ?_)
    obtain ⟨rfl, i_r11⟩ := q15
    refine lv_if_eq (tgt := 53) hx hb dX5_readCat_32 (by decide) (fun c16 => ?_) (fun c16 => ?_)
    · have i17 : iv r11 0 0 := iv_eq1 c16 i_r11 kc_0
      refine lv_iconst (v := 0) hx hb dX5_readCat_53 (by decide) ?_
      exact h_iret hQ hx hb hr hlocks rfl hK hI ⟨rfl, (iv_w (lo' := 0) (hi' := 1) kc_0 (by decide) (by decide))⟩ dX5_readCat_54
    · have i18 : iv r11 1 1 := iv_neL c16 i_r11 (by decide) (by decide)
      refine lv_aload_n hx hb dX5_readCat_35 rfl (lv_at hl 1 rfl) ?_
      refine lv_bipush (v := 6) hx hb dX5_readCat_36 (by decide) ?_
      refine h_goi hI (by decide) (va_runV (As := [.int (6 : Int32)]) (rest := []) ⟨hx, hb, hml, hown, hts⟩ (h_readWord_X5 l D g σ Z hZ0 M12 N13 R a g_a (6 : Int32)) (cwV 1 hts gX5_readCat_X5_readWord rfl rfl rfl (by decide +kernel) ⟨Nat.le_of_ble_eq_true rfl, Nat.le_of_ble_eq_true rfl⟩) (h_preV hZ0 hK hE hI g_a (by decide) rfl) rfl rfl hl.1 rfl (lv_room (Nat.le_of_ble_eq_true rfl)) dX5_readCat_38 ⟨Nat.le_of_ble_eq_true rfl, Nat.le_of_ble_eq_true rfl⟩) (fun r19 M20 N21 R22 H locs q23 z_M20 hI => ?_)
      obtain ⟨rfl, i_r19⟩ := q23
      refine lv_if_eq (tgt := 53) hx hb dX5_readCat_41 (by decide) (fun c24 => ?_) (fun c24 => ?_)
      · have i25 : iv r19 0 0 := iv_eq1 c24 i_r19 kc_0
        refine lv_iconst (v := 0) hx hb dX5_readCat_53 (by decide) ?_
        exact h_iret hQ hx hb hr hlocks rfl hK hI ⟨rfl, (iv_w (lo' := 0) (hi' := 1) kc_0 (by decide) (by decide))⟩ dX5_readCat_54
      · have i26 : iv r19 1 1 := iv_neL c24 i_r19 (by decide) (by decide)
        refine lv_aload_n hx hb dX5_readCat_44 rfl (lv_at hl 1 rfl) ?_
        refine lv_bipush (v := 99) hx hb dX5_readCat_45 (by decide) ?_
        refine h_goi hI (by decide) (va_runV (As := [.int (99 : Int32)]) (rest := []) ⟨hx, hb, hml, hown, hts⟩ (h_readNumber_X5 l D g σ Z hZ0 M20 N21 R a g_a (99 : Int32)) (cwV 1 hts gX5_readCat_X5_readNumber rfl rfl rfl (by decide +kernel) ⟨Nat.le_of_ble_eq_true rfl, Nat.le_of_ble_eq_true rfl⟩) (h_preV hZ0 hK hE hI g_a (by decide) rfl) rfl rfl hl.1 rfl (lv_room (Nat.le_of_ble_eq_true rfl)) dX5_readCat_47 ⟨Nat.le_of_ble_eq_true rfl, Nat.le_of_ble_eq_true rfl⟩) (fun r27 M28 N29 R30 H locs q31 z_M28 hI => ?_)
        obtain ⟨rfl, i_r27⟩ := q31
        refine lv_if_ne (tgt := 55) hx hb dX5_readCat_50 (by decide) (fun c32 => ?_) (fun c32 => ?_)
        · have i33 : iv r27 1 1 := iv_neL c32 i_r27 (by decide) (by decide)
          refine lv_aload_n hx hb dX5_readCat_55 rfl (lv_at hl 1 rfl) ?_
          refine h_getr hx hb hts iX5_readCat_X5 hown hK hI g_a (by decide) rfl rfl 0 (by decide) rfl 4 rfl (hts (.fieldLink RX5 12 "CatLeases$Reader" "mews" "LCatLeases$Mews;") (List.mem_of_getElem? (i := 1) rfl)) (fun _ h9 => h9) dX5_readCat_56 (fun a34 e_a34 g_a34 => ?_)
          have q35 : a1 = a34 := (e_a1).trans e_a34.symm
          subst q35
          refine h_getr hx hb hts iX5_readCat_X4 hown hK hI g_a1 (by decide) rfl rfl 5 (by decide) rfl 15 rfl (hts (.fieldLink RX5 159 "CatLeases$Mews" "wants" "[I") (List.mem_of_getElem? (i := 4) rfl)) (fun _ h9 => h9) dX5_readCat_59 (fun a36 e_a36 g_a36 => ?_)
          refine lv_iload_n hx hb dX5_readCat_62 rfl (lv_at hl 0 rfl) ?_
          refine lv_aload_n hx hb dX5_readCat_63 rfl (lv_at hl 1 rfl) ?_
          refine h_geti (lo := (-2147483648)) (hi := 2147483647) hx hb hts iX5_readCat_X5 hown hK hI g_a (by decide) rfl rfl 13 (by decide) rfl rfl (hts (.fieldLink RX5 57 "CatLeases$Reader" "number" "I") (List.mem_of_getElem? (i := 5) rfl)) (fun _ h9 => h9) dX5_readCat_64 (fun v37 e_v37 i_v37 => ?_)
          refine h_iast (j := v2.toNatClampNeg) hx hb hK hI g_a36 (by decide) rfl (iv_in (n := 6) i4 (by decide) (by decide)) rfl (iv_any _) rfl dX5_readCat_67 (fun M38 H locs e_M38 hI => ?_)
          refine lv_aload_n hx hb dX5_readCat_68 rfl (lv_at hl 1 rfl) ?_
          refine h_getr hx hb hts iX5_readCat_X5 hown hK hI g_a (by decide) rfl rfl 0 (by decide) rfl 4 rfl (hts (.fieldLink RX5 12 "CatLeases$Reader" "mews" "LCatLeases$Mews;") (List.mem_of_getElem? (i := 1) rfl)) (fun _ h9 => h9) dX5_readCat_69 (fun a39 e_a39 g_a39 => ?_)
          have q40 : a1 = a39 := (e_a1).trans e_a39.symm
          subst q40
          refine h_getr hx hb hts iX5_readCat_X4 hown hK hI g_a1 (by decide) rfl rfl 6 (by decide) rfl 15 rfl (hts (.fieldLink RX5 163 "CatLeases$Mews" "heirs" "[I") (List.mem_of_getElem? (i := 6) rfl)) (fun _ h9 => h9) dX5_readCat_72 (fun a41 e_a41 g_a41 => ?_)
          refine lv_iload_n hx hb dX5_readCat_75 rfl (lv_at hl 0 rfl) ?_
          refine lv_iconst (v := (-1)) hx hb dX5_readCat_76 (by decide) ?_
          refine h_iast (j := v2.toNatClampNeg) hx hb hK hI g_a41 (by decide) rfl (iv_in (n := 6) i4 (by decide) (by decide)) rfl (iv_any _) rfl dX5_readCat_77 (fun M42 H locs e_M42 hI => ?_)
          refine lv_aload_n hx hb dX5_readCat_78 rfl (lv_at hl 1 rfl) ?_
          refine lv_bipush (v := 7) hx hb dX5_readCat_79 (by decide) ?_
          refine h_goi hI (by decide) (va_runV (As := [.int (7 : Int32)]) (rest := []) ⟨hx, hb, hml, hown, hts⟩ (h_follows_X5 l D g σ Z hZ0 M42 N29 R a g_a (7 : Int32)) (cwV 1 hts gX5_readCat_X5_follows rfl rfl rfl (by decide +kernel) ⟨Nat.le_of_ble_eq_true rfl, Nat.le_of_ble_eq_true rfl⟩) (h_preV hZ0 hK hE hI g_a (by decide) rfl) rfl rfl hl.1 rfl (lv_room (Nat.le_of_ble_eq_true rfl)) dX5_readCat_81 ⟨Nat.le_of_ble_eq_true rfl, Nat.le_of_ble_eq_true rfl⟩) (fun r43 M44 N45 R46 H locs q47 z_M44 hI => ?_)
          obtain ⟨rfl, i_r43⟩ := q47
          have J113 : ∀ (M_113 : hM) (N_113 : hN) (H : Heap) (locs : List Loc) (ls : Array Slot), kI D g σ e_h_readCat_X5 M s.heap M_113 N_113 R H locs → lv_has ls 3 [(0, .ref a)] → v2 = M_113 a1 0 → W p l e (headSpec wsX5_readCat ({ frames := 6, cells := 0, slots := 0, locals := 135 })).room s m ar below meth c H locs 0 0 Q (F0 m 113 ls []) := by
            intro M_113 N_113 H locs ls hI hl k0_113
            refine lv_aload_n hx hb dX5_readCat_113 rfl (lv_at hl 0 rfl) ?_
            refine h_getr hx hb hts iX5_readCat_X5 hown hK hI g_a (by decide) rfl rfl 0 (by decide) rfl 4 rfl (hts (.fieldLink RX5 12 "CatLeases$Reader" "mews" "LCatLeases$Mews;") (List.mem_of_getElem? (i := 1) rfl)) (fun _ h9 => h9) dX5_readCat_114 (fun a48 e_a48 g_a48 => ?_)
            have q49 : a1 = a48 := (e_a1).trans e_a48.symm
            subst q49
            refine lv_dup hx hb dX5_readCat_117 rfl ?_
            refine h_geti (lo := 0) (hi := 6) hx hb hts iX5_readCat_X4 hown hK hI g_a1 (by decide) rfl rfl 0 (by decide) rfl rfl (hts (.fieldLink RX5 104 "CatLeases$Mews" "cats" "I") (List.mem_of_getElem? (i := 2) rfl)) (fun _ h9 => h9) dX5_readCat_118 (fun v50 e_v50 i_v50 => ?_)
            have q51 : v2 = v50 := (k0_113).trans e_v50.symm
            subst q51
            refine lv_iconst (v := 1) hx hb dX5_readCat_121 (by decide) ?_
            refine lv_iadd hx hb dX5_readCat_122 ?_
            refine h_nm (lo := 1) (hi := 6) (iv_add i4 kc_1 (by decide) (by decide) (by decide) (by decide)) (fun v52 e_v52 i_v52 => ?_)
            refine h_puti hx hb hts iX5_readCat_X4 tyX4 tyX4_ok nmX4 hown hK hI g_a1 (by decide) rfl rfl 0 (by decide) rfl (hts (.fieldLink RX5 104 "CatLeases$Mews" "cats" "I") (List.mem_of_getElem? (i := 2) rfl)) (fun _ h9 => h9) rfl .int (by decide +kernel) rfl rfl (iv_w (lo' := 0) (hi' := 6) i_v52 (by decide) (by decide)) rfl dX5_readCat_123 (fun M53 H locs e_M53 hI => ?_)
            refine lv_iconst (v := 1) hx hb dX5_readCat_126 (by decide) ?_
            exact h_iret hQ hx hb hr hlocks rfl hK hI ⟨rfl, (iv_w (lo' := 0) (hi' := 1) kc_1 (by decide) (by decide))⟩ dX5_readCat_127
          refine lv_if_eq (tgt := 113) hx hb dX5_readCat_84 (by decide) (fun c54 => ?_) (fun c54 => ?_)
          · have i55 : iv r43 0 0 := iv_eq1 c54 i_r43 kc_0
            exact J113 M44 N45 H locs ls hI (lv_sub hl [1] rfl) ((((((((e_v2).trans (z_M6 a1 4 0 g_a1 rfl).symm).trans (z_M12 a1 4 0 g_a1 rfl).symm).trans (z_M20 a1 4 0 g_a1 rfl).symm).trans (z_M28 a1 4 0 g_a1 rfl).symm).trans (u2_st (a := a1) (k := 0) e_M38 (u2_a (so_ne g_a1 g_a36 (by decide)))).symm).trans (u2_st (a := a1) (k := 0) e_M42 (u2_a (so_ne g_a1 g_a41 (by decide)))).symm).trans (z_M44 a1 4 0 g_a1 rfl).symm)
          · have i56 : iv r43 1 1 := iv_neL c54 i_r43 (by decide) (by decide)
            refine lv_aload_n hx hb dX5_readCat_87 rfl (lv_at hl 1 rfl) ?_
            refine lv_aload_n hx hb dX5_readCat_88 rfl (lv_at hl 1 rfl) ?_
            refine h_getr hx hb hts iX5_readCat_X5 hown hK hI g_a (by decide) rfl rfl 4 (by decide) rfl 23 rfl (hts (.fieldLink RX5 29 "CatLeases$Reader" "catNames" "[J") (List.mem_of_getElem? (i := 3) rfl)) (fun _ h9 => h9) dX5_readCat_89 (fun a57 e_a57 g_a57 => ?_)
            have q58 : a10 = a57 := (e_a10).trans e_a57.symm
            subst q58
            refine lv_iload_n hx hb dX5_readCat_92 rfl (lv_at hl 0 rfl) ?_
            refine h_goi hI (by decide) (va_runV (As := [.ref a10, .int v2]) (rest := []) ⟨hx, hb, hml, hown, hts⟩ (h_readKnownName_23 l D g σ Z hZ0 M44 N45 R a g_a a10 g_a10 v2) (cwV 2 hts gX5_readCat_X5_readKnownName rfl rfl rfl (by decide +kernel) ⟨Nat.le_of_ble_eq_true rfl, Nat.le_of_ble_eq_true rfl⟩) (h_preV hZ0 hK hE hI g_a (by decide) rfl) rfl rfl hl.1 rfl (lv_room (Nat.le_of_ble_eq_true rfl)) dX5_readCat_93 ⟨Nat.le_of_ble_eq_true rfl, Nat.le_of_ble_eq_true rfl⟩) (fun r59 M60 N61 R62 H locs q63 z_M60 hI => ?_)
            obtain ⟨rfl, i_r59⟩ := q63
            refine lv_istore_n (lv' := [(2, .int r59), (1, .int v2), (0, .ref a)]) hx hb dX5_readCat_96 rfl hl (by decide) rfl (fun ls hl => ?_)
            refine lv_iload_n hx hb dX5_readCat_97 rfl (lv_at hl 0 rfl) ?_
            refine lv_if_ge (tgt := 103) hx hb dX5_readCat_98 (by decide) (fun c64 => ?_) (fun c64 => ?_)
            · have i65 : iv r59 0 5 := iv_le2 c64 kc_0 i_r59 (by decide)
              refine lv_aload_n hx hb dX5_readCat_103 rfl (lv_at hl 2 rfl) ?_
              refine h_getr hx hb hts iX5_readCat_X5 hown hK hI g_a (by decide) rfl rfl 0 (by decide) rfl 4 rfl (hts (.fieldLink RX5 12 "CatLeases$Reader" "mews" "LCatLeases$Mews;") (List.mem_of_getElem? (i := 1) rfl)) (fun _ h9 => h9) dX5_readCat_104 (fun a66 e_a66 g_a66 => ?_)
              have q67 : a1 = a66 := (e_a1).trans e_a66.symm
              subst q67
              refine h_getr hx hb hts iX5_readCat_X4 hown hK hI g_a1 (by decide) rfl rfl 6 (by decide) rfl 15 rfl (hts (.fieldLink RX5 163 "CatLeases$Mews" "heirs" "[I") (List.mem_of_getElem? (i := 6) rfl)) (fun _ h9 => h9) dX5_readCat_107 (fun a68 e_a68 g_a68 => ?_)
              have q69 : a41 = a68 := (e_a41).trans e_a68.symm
              subst q69
              refine lv_iload_n hx hb dX5_readCat_110 rfl (lv_at hl 1 rfl) ?_
              refine lv_iload_n hx hb dX5_readCat_111 rfl (lv_at hl 0 rfl) ?_
              refine h_iast (j := v2.toNatClampNeg) hx hb hK hI g_a41 (by decide) rfl (iv_in (n := 6) i4 (by decide) (by decide)) rfl (iv_any _) rfl dX5_readCat_112 (fun M70 H locs e_M70 hI => ?_)
              exact J113 M70 N61 H locs ls hI (lv_sub hl [2] rfl) ((((((((((e_v2).trans (z_M6 a1 4 0 g_a1 rfl).symm).trans (z_M12 a1 4 0 g_a1 rfl).symm).trans (z_M20 a1 4 0 g_a1 rfl).symm).trans (z_M28 a1 4 0 g_a1 rfl).symm).trans (u2_st (a := a1) (k := 0) e_M38 (u2_a (so_ne g_a1 g_a36 (by decide)))).symm).trans (u2_st (a := a1) (k := 0) e_M42 (u2_a (so_ne g_a1 g_a41 (by decide)))).symm).trans (z_M44 a1 4 0 g_a1 rfl).symm).trans (z_M60 a1 4 0 g_a1 rfl).symm).trans (u2_st (a := a1) (k := 0) e_M70 (u2_a (so_ne g_a1 g_a41 (by decide)))).symm)
            · have i71 : iv r59 (-1) (-1) := iv_nle2 c64 kc_0 i_r59 (by decide)
              refine lv_iconst (v := 0) hx hb dX5_readCat_101 (by decide) ?_
              exact h_iret hQ hx hb hr hlocks rfl hK hI ⟨rfl, (iv_w (lo' := 0) (hi' := 1) kc_0 (by decide) (by decide))⟩ dX5_readCat_102
        · have i72 : iv r27 0 0 := iv_eq1 c32 i_r27 kc_0
          refine lv_iconst (v := 0) hx hb dX5_readCat_53 (by decide) ?_
          exact h_iret hQ hx hb hr hlocks rfl hK hI ⟨rfl, (iv_w (lo' := 0) (hi' := 1) kc_0 (by decide) (by decide))⟩ dX5_readCat_54
  · have i73 : iv v2 6 6 := iv_nlt1 c3 i_v2 kc_6 (by decide)
    refine lv_aload_n hx hb dX5_readCat_14 rfl (lv_at hl 1 rfl) ?_
    refine h_goi hI (by decide) (va_runV (As := []) (rest := []) ⟨hx, hb, hml, hown, hts⟩ (h_refuse_X5 l D g σ Z hZ0 M N R a g_a) (cwV 0 hts gX5_readCat_X5_refuse rfl rfl rfl (by decide +kernel) ⟨Nat.le_of_ble_eq_true rfl, Nat.le_of_ble_eq_true rfl⟩) (h_preV hZ0 hK hE hI g_a (by decide) rfl) rfl rfl hl.1 rfl (lv_room (Nat.le_of_ble_eq_true rfl)) dX5_readCat_15 ⟨Nat.le_of_ble_eq_true rfl, Nat.le_of_ble_eq_true rfl⟩) (fun r74 M75 N76 R77 H locs q78 z_M75 hI => ?_)
    obtain ⟨rfl, rfl, i_r74⟩ := q78
    exact h_iret hQ hx hb hr hlocks (nar_z (iv_w (lo' := 0) (hi' := 1) i_r74 (by decide) (by decide))) hK hI ⟨rfl, (iv_w (lo' := 0) (hi' := 1) i_r74 (by decide) (by decide))⟩ dX5_readCat_18
abbrev e_h_readRoom_X5 : List (Nat × Nat) := [(4, 1), (5, 1), (5, 2), (5, 10), (5, 11), (5, 12), (5, 13), (12, 999)]
set_option maxHeartbeats 4000000 in
set_option maxRecDepth 100000 in
theorem h_readRoom_X5 (l : Launch) (D : va_G) (g : Nat → ClassId) (σ : Nat → Option Nat) (Z : State → Heap → Prop) (hZ0 : hZ σ Z) (M : hM) (N : hN) (R : hR) (a : Nat) (g_a : σ a = some 5) : Met l yX5_readRoom wsX5_readRoom ({ frames := 6, cells := 0, slots := 0, locals := 135 }) (va_Pc [.ref a] (hPre D g σ Z M N R)) (hQi D g σ e_h_readRoom_X5 M (fun (r : Int32) (M1 : hM) (N1 : hN) (R1 : hR) => R = R1 ∧ iv r 0 1)) 0 0 (hA σ) := by
  refine h_head (cc := cX5_readRoom) (maxL := 3) (ret := (some .boolean)) (by decide) rfl (Nat.le_of_ble_eq_true rfl) e_h_readRoom_X5 ?_
  intro p e s m below meth c ls Q ar hQ hx hb hr hlocks hml hown hts hK hE H locs hI hl
  have hown : s.vm.findClass RX5 = some m.cls := hown
  have hl : lv_has ls 3 [(0, .ref a)] := hl
  refine lv_aload_n hx hb dX5_readRoom_0 rfl (lv_at hl 0 rfl) ?_
  refine h_getr hx hb hts iX5_readRoom_X5 hown hK hI g_a (by decide) rfl rfl 0 (by decide) rfl 4 rfl (hts (.fieldLink RX5 12 "CatLeases$Reader" "mews" "LCatLeases$Mews;") (List.mem_of_getElem? (i := 1) rfl)) (fun _ h9 => h9) dX5_readRoom_1 (fun a1 e_a1 g_a1 => ?_)
  refine h_geti (lo := 0) (hi := 8) hx hb hts iX5_readRoom_X4 hown hK hI g_a1 (by decide) rfl rfl 1 (by decide) rfl rfl (hts (.fieldLink RX5 173 "CatLeases$Mews" "rooms" "I") (List.mem_of_getElem? (i := 2) rfl)) (fun _ h9 => h9) dX5_readRoom_4 (fun v2 e_v2 i_v2 => ?_)
  refine lv_istore_n (lv' := [(1, .int v2), (0, .ref a)]) hx hb dX5_readRoom_7 rfl hl (by decide) rfl (fun ls hl => ?_)
  refine lv_iload_n hx hb dX5_readRoom_8 rfl (lv_at hl 0 rfl) ?_
  refine lv_bipush (v := 8) hx hb dX5_readRoom_9 (by decide) ?_
  refine lv_icmp_lt (tgt := 19) hx hb dX5_readRoom_11 (by decide) (fun c3 => ?_) (fun c3 => ?_)
  · have i4 : iv v2 0 7 := iv_lt1 c3 i_v2 kc_8 (by decide)
    refine lv_aload_n hx hb dX5_readRoom_19 rfl (lv_at hl 1 rfl) ?_
    refine h_gov hI (by decide) (va_runV (As := []) (rest := []) ⟨hx, hb, hml, hown, hts⟩ (h_advance_X5 l D g σ Z hZ0 M N R a g_a) (cwV 0 hts gX5_readRoom_X5_advance rfl rfl rfl (by decide +kernel) ⟨Nat.le_of_ble_eq_true rfl, Nat.le_of_ble_eq_true rfl⟩) (h_preV hZ0 hK hE hI g_a (by decide) rfl) rfl rfl hl.1 rfl (lv_room (Nat.le_of_ble_eq_true rfl)) dX5_readRoom_20 ⟨Nat.le_of_ble_eq_true rfl, Nat.le_of_ble_eq_true rfl⟩) (fun M6 N7 R8 H locs q9 z_M6 hI => ?_)
    subst q9
    refine lv_aload_n hx hb dX5_readRoom_23 rfl (lv_at hl 1 rfl) ?_
    refine lv_aload_n hx hb dX5_readRoom_24 rfl (lv_at hl 1 rfl) ?_
    refine h_getr hx hb hts iX5_readRoom_X5 hown hK hI g_a (by decide) rfl rfl 5 (by decide) rfl 24 rfl (hts (.fieldLink RX5 32 "CatLeases$Reader" "roomNames" "[J") (List.mem_of_getElem? (i := 3) rfl)) (fun _ h9 => h9) dX5_readRoom_25 (fun a10 e_a10 g_a10 => ?_)
    refine lv_iload_n hx hb dX5_readRoom_28 rfl (lv_at hl 0 rfl) ?_
    refine h_goi hI (by decide) (va_runV (As := [.ref a10, .int v2]) (rest := []) ⟨hx, hb, hml, hown, hts⟩ (h_readNewName_24 l D g σ Z hZ0 M6 N7 R a g_a a10 g_a10 v2 i4) (cwV 2 hts gX5_readRoom_X5_readNewName rfl rfl rfl (by decide +kernel) ⟨Nat.le_of_ble_eq_true rfl, Nat.le_of_ble_eq_true rfl⟩) (h_preV hZ0 hK hE hI g_a (by decide) rfl) rfl rfl hl.1 rfl (lv_room (Nat.le_of_ble_eq_true rfl)) dX5_readRoom_29 ⟨Nat.le_of_ble_eq_true rfl, Nat.le_of_ble_eq_true rfl⟩) (fun r11 M12 N13 R14 H locs q15 z_M12 hI => ?_)
    obtain ⟨rfl, i_r11⟩ := q15
    refine lv_if_ne (tgt := 37) hx hb dX5_readRoom_32 (by decide) (fun c16 => ?_) (fun c16 => ?_)
    · have i17 : iv r11 1 1 := iv_neL c16 i_r11 (by decide) (by decide)
      refine lv_aload_n hx hb dX5_readRoom_37 rfl (lv_at hl 1 rfl) ?_
      refine lv_bipush (v := 8) hx hb dX5_readRoom_38 (by decide) ?_
      refine h_goi hI (by decide) (va_runV (As := [.int (8 : Int32)]) (rest := []) ⟨hx, hb, hml, hown, hts⟩ (h_follows_X5 l D g σ Z hZ0 M12 N13 R a g_a (8 : Int32)) (cwV 1 hts gX5_readRoom_X5_follows rfl rfl rfl (by decide +kernel) ⟨Nat.le_of_ble_eq_true rfl, Nat.le_of_ble_eq_true rfl⟩) (h_preV hZ0 hK hE hI g_a (by decide) rfl) rfl rfl hl.1 rfl (lv_room (Nat.le_of_ble_eq_true rfl)) dX5_readRoom_40 ⟨Nat.le_of_ble_eq_true rfl, Nat.le_of_ble_eq_true rfl⟩) (fun r18 M19 N20 R21 H locs q22 z_M19 hI => ?_)
      obtain ⟨rfl, i_r18⟩ := q22
      have J81 : ∀ (M_81 : hM) (N_81 : hN) (H : Heap) (locs : List Loc) (ls : Array Slot), kI D g σ e_h_readRoom_X5 M s.heap M_81 N_81 R H locs → lv_has ls 3 [(0, .ref a)] → v2 = M_81 a1 1 → W p l e (headSpec wsX5_readRoom ({ frames := 6, cells := 0, slots := 0, locals := 135 })).room s m ar below meth c H locs 0 0 Q (F0 m 81 ls []) := by
        intro M_81 N_81 H locs ls hI hl k0_81
        refine lv_aload_n hx hb dX5_readRoom_81 rfl (lv_at hl 0 rfl) ?_
        refine h_getr hx hb hts iX5_readRoom_X5 hown hK hI g_a (by decide) rfl rfl 0 (by decide) rfl 4 rfl (hts (.fieldLink RX5 12 "CatLeases$Reader" "mews" "LCatLeases$Mews;") (List.mem_of_getElem? (i := 1) rfl)) (fun _ h9 => h9) dX5_readRoom_82 (fun a23 e_a23 g_a23 => ?_)
        have q24 : a1 = a23 := (e_a1).trans e_a23.symm
        subst q24
        refine lv_dup hx hb dX5_readRoom_85 rfl ?_
        refine h_geti (lo := 0) (hi := 8) hx hb hts iX5_readRoom_X4 hown hK hI g_a1 (by decide) rfl rfl 1 (by decide) rfl rfl (hts (.fieldLink RX5 173 "CatLeases$Mews" "rooms" "I") (List.mem_of_getElem? (i := 2) rfl)) (fun _ h9 => h9) dX5_readRoom_86 (fun v25 e_v25 i_v25 => ?_)
        have q26 : v2 = v25 := (k0_81).trans e_v25.symm
        subst q26
        refine lv_iconst (v := 1) hx hb dX5_readRoom_89 (by decide) ?_
        refine lv_iadd hx hb dX5_readRoom_90 ?_
        refine h_nm (lo := 1) (hi := 8) (iv_add i4 kc_1 (by decide) (by decide) (by decide) (by decide)) (fun v27 e_v27 i_v27 => ?_)
        refine h_puti hx hb hts iX5_readRoom_X4 tyX4 tyX4_ok nmX4 hown hK hI g_a1 (by decide) rfl rfl 1 (by decide) rfl (hts (.fieldLink RX5 173 "CatLeases$Mews" "rooms" "I") (List.mem_of_getElem? (i := 2) rfl)) (fun _ h9 => h9) rfl .int (by decide +kernel) rfl rfl (iv_w (lo' := 0) (hi' := 8) i_v27 (by decide) (by decide)) rfl dX5_readRoom_91 (fun M28 H locs e_M28 hI => ?_)
        refine lv_iconst (v := 1) hx hb dX5_readRoom_94 (by decide) ?_
        exact h_iret hQ hx hb hr hlocks rfl hK hI ⟨rfl, (iv_w (lo' := 0) (hi' := 1) kc_1 (by decide) (by decide))⟩ dX5_readRoom_95
      refine lv_if_eq (tgt := 81) hx hb dX5_readRoom_43 (by decide) (fun c29 => ?_) (fun c29 => ?_)
      · have i30 : iv r18 0 0 := iv_eq1 c29 i_r18 kc_0
        exact J81 M19 N20 H locs ls hI (lv_sub hl [1] rfl) ((((e_v2).trans (z_M6 a1 4 1 g_a1 rfl).symm).trans (z_M12 a1 4 1 g_a1 rfl).symm).trans (z_M19 a1 4 1 g_a1 rfl).symm)
      · have i31 : iv r18 1 1 := iv_neL c29 i_r18 (by decide) (by decide)
        refine lv_aload_n hx hb dX5_readRoom_46 rfl (lv_at hl 1 rfl) ?_
        refine lv_aload_n hx hb dX5_readRoom_47 rfl (lv_at hl 1 rfl) ?_
        refine h_getr hx hb hts iX5_readRoom_X5 hown hK hI g_a (by decide) rfl rfl 4 (by decide) rfl 23 rfl (hts (.fieldLink RX5 29 "CatLeases$Reader" "catNames" "[J") (List.mem_of_getElem? (i := 4) rfl)) (fun _ h9 => h9) dX5_readRoom_48 (fun a32 e_a32 g_a32 => ?_)
        refine lv_aload_n hx hb dX5_readRoom_51 rfl (lv_at hl 1 rfl) ?_
        refine h_getr hx hb hts iX5_readRoom_X5 hown hK hI g_a (by decide) rfl rfl 0 (by decide) rfl 4 rfl (hts (.fieldLink RX5 12 "CatLeases$Reader" "mews" "LCatLeases$Mews;") (List.mem_of_getElem? (i := 1) rfl)) (fun _ h9 => h9) dX5_readRoom_52 (fun a33 e_a33 g_a33 => ?_)
        have q34 : a1 = a33 := (e_a1).trans e_a33.symm
        subst q34
        refine h_geti (lo := 0) (hi := 6) hx hb hts iX5_readRoom_X4 hown hK hI g_a1 (by decide) rfl rfl 0 (by decide) rfl rfl (hts (.fieldLink RX5 104 "CatLeases$Mews" "cats" "I") (List.mem_of_getElem? (i := 5) rfl)) (fun _ h9 => h9) dX5_readRoom_55 (fun v35 e_v35 i_v35 => ?_)
        refine h_goi hI (by decide) (va_runV (As := [.ref a32, .int v35]) (rest := []) ⟨hx, hb, hml, hown, hts⟩ (h_readKnownName_23 l D g σ Z hZ0 M19 N20 R a g_a a32 g_a32 v35) (cwV 2 hts gX5_readRoom_X5_readKnownName rfl rfl rfl (by decide +kernel) ⟨Nat.le_of_ble_eq_true rfl, Nat.le_of_ble_eq_true rfl⟩) (h_preV hZ0 hK hE hI g_a (by decide) rfl) rfl rfl hl.1 rfl (lv_room (Nat.le_of_ble_eq_true rfl)) dX5_readRoom_58 ⟨Nat.le_of_ble_eq_true rfl, Nat.le_of_ble_eq_true rfl⟩) (fun r36 M37 N38 R39 H locs q40 z_M37 hI => ?_)
        obtain ⟨rfl, i_r36⟩ := q40
        refine lv_istore_n (lv' := [(2, .int r36), (1, .int v2), (0, .ref a)]) hx hb dX5_readRoom_61 rfl hl (by decide) rfl (fun ls hl => ?_)
        refine lv_iload_n hx hb dX5_readRoom_62 rfl (lv_at hl 0 rfl) ?_
        refine lv_if_ge (tgt := 68) hx hb dX5_readRoom_63 (by decide) (fun c41 => ?_) (fun c41 => ?_)
        · have i42 : iv r36 0 5 := iv_le2 c41 kc_0 i_r36 (by decide)
          refine lv_aload_n hx hb dX5_readRoom_68 rfl (lv_at hl 2 rfl) ?_
          refine h_getr hx hb hts iX5_readRoom_X5 hown hK hI g_a (by decide) rfl rfl 0 (by decide) rfl 4 rfl (hts (.fieldLink RX5 12 "CatLeases$Reader" "mews" "LCatLeases$Mews;") (List.mem_of_getElem? (i := 1) rfl)) (fun _ h9 => h9) dX5_readRoom_69 (fun a43 e_a43 g_a43 => ?_)
          have q44 : a1 = a43 := (e_a1).trans e_a43.symm
          subst q44
          refine h_getr hx hb hts iX5_readRoom_X4 hown hK hI g_a1 (by decide) rfl rfl 8 (by decide) rfl 7 rfl (hts (.fieldLink RX5 100 "CatLeases$Mews" "told" "LCatLeases$State;") (List.mem_of_getElem? (i := 6) rfl)) (fun _ h9 => h9) dX5_readRoom_72 (fun a45 e_a45 g_a45 => ?_)
          refine h_getr hx hb hts iX5_readRoom_X7 hown hK hI g_a45 (by decide) rfl rfl 0 (by decide) rfl 12 rfl (hts (.fieldLink RX5 176 "CatLeases$State" "keepers" "[I") (List.mem_of_getElem? (i := 7) rfl)) (fun _ h9 => h9) dX5_readRoom_75 (fun a46 e_a46 g_a46 => ?_)
          refine lv_iload_n hx hb dX5_readRoom_78 rfl (lv_at hl 1 rfl) ?_
          refine lv_iload_n hx hb dX5_readRoom_79 rfl (lv_at hl 0 rfl) ?_
          refine h_iast (j := v2.toNatClampNeg) hx hb hK hI g_a46 (by decide) rfl (iv_in (n := 8) i4 (by decide) (by decide)) rfl (iv_w (lo' := (-1)) (hi' := 5) i42 (by decide) (by decide)) rfl dX5_readRoom_80 (fun M47 H locs e_M47 hI => ?_)
          exact J81 M47 N38 H locs ls hI (lv_sub hl [2] rfl) ((((((e_v2).trans (z_M6 a1 4 1 g_a1 rfl).symm).trans (z_M12 a1 4 1 g_a1 rfl).symm).trans (z_M19 a1 4 1 g_a1 rfl).symm).trans (z_M37 a1 4 1 g_a1 rfl).symm).trans (u2_st (a := a1) (k := 1) e_M47 (u2_a (so_ne g_a1 g_a46 (by decide)))).symm)
        · have i48 : iv r36 (-1) (-1) := iv_nle2 c41 kc_0 i_r36 (by decide)
          refine lv_iconst (v := 0) hx hb dX5_readRoom_66 (by decide) ?_
          exact h_iret hQ hx hb hr hlocks rfl hK hI ⟨rfl, (iv_w (lo' := 0) (hi' := 1) kc_0 (by decide) (by decide))⟩ dX5_readRoom_67
    · have i49 : iv r11 0 0 := iv_eq1 c16 i_r11 kc_0
      refine lv_iconst (v := 0) hx hb dX5_readRoom_35 (by decide) ?_
      exact h_iret hQ hx hb hr hlocks rfl hK hI ⟨rfl, (iv_w (lo' := 0) (hi' := 1) kc_0 (by decide) (by decide))⟩ dX5_readRoom_36
  · have i50 : iv v2 8 8 := iv_nlt1 c3 i_v2 kc_8 (by decide)
    refine lv_aload_n hx hb dX5_readRoom_14 rfl (lv_at hl 1 rfl) ?_
    refine h_goi hI (by decide) (va_runV (As := []) (rest := []) ⟨hx, hb, hml, hown, hts⟩ (h_refuse_X5 l D g σ Z hZ0 M N R a g_a) (cwV 0 hts gX5_readRoom_X5_refuse rfl rfl rfl (by decide +kernel) ⟨Nat.le_of_ble_eq_true rfl, Nat.le_of_ble_eq_true rfl⟩) (h_preV hZ0 hK hE hI g_a (by decide) rfl) rfl rfl hl.1 rfl (lv_room (Nat.le_of_ble_eq_true rfl)) dX5_readRoom_15 ⟨Nat.le_of_ble_eq_true rfl, Nat.le_of_ble_eq_true rfl⟩) (fun r51 M52 N53 R54 H locs q55 z_M52 hI => ?_)
    obtain ⟨rfl, rfl, i_r51⟩ := q55
    exact h_iret hQ hx hb hr hlocks (nar_z (iv_w (lo' := 0) (hi' := 1) i_r51 (by decide) (by decide))) hK hI ⟨rfl, (iv_w (lo' := 0) (hi' := 1) i_r51 (by decide) (by decide))⟩ dX5_readRoom_18
