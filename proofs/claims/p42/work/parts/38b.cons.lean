abbrev e_h_isWord_X9 : List (Nat × Nat) := []
set_option maxHeartbeats 4000000 in
set_option maxRecDepth 100000 in
theorem h_isWord_X9 (l : Launch) (D : va_G) (g : Nat → ClassId) (σ : Nat → Option Nat) (Z : State → Heap → Prop) (hZ0 : hZ σ Z) (M : hM) (N : hN) (R : hR) (y : Nat) (g_y : σ y = some 9) (p1 : Int64) : Met l yX9_isWord wsX9_isWord ({ frames := 0, cells := 0, slots := 0, locals := 0 }) (va_Pc [.ref y, .long p1] (hPre D g σ Z M N R)) (hQi D g σ e_h_isWord_X9 M (fun (r : Int32) (M1 : hM) (N1 : hN) (R1 : hR) => M = M1 ∧ N = N1 ∧ R = R1 ∧ iv r 0 1 ∧ (¬ r = 0 → M y 8 = 3 ∧ N y 10 = p1) ∧ (r = 0 → ¬ (M y 8 = 3 ∧ N y 10 = p1)))) 0 0 (hA σ) := by
  refine h_head (cc := cX9_isWord) (maxL := 3) (ret := (some .boolean)) (by decide) rfl (Nat.le_of_ble_eq_true rfl) e_h_isWord_X9 ?_
  intro p e s m below meth c ls Q ar hQ hx hb hr hlocks hml hown hts hK hE H locs hI hl
  have hown : s.vm.findClass RX9 = some m.cls := hown
  have hl : lv_has ls 3 [(0, .ref y), (1, .long p1)] := hl
  refine lv_aload_n hx hb dX9_isWord_0 rfl (lv_at hl 0 rfl) ?_
  refine h_geti (lo := (-2147483648)) (hi := 2147483647) hx hb hts iX9_isWord_X9 hown hK hI g_y (by decide) rfl rfl 8 (by decide) rfl rfl (hts (.fieldLink RX9 206 "CatLeasesModel" "token" "I") (List.mem_of_getElem? (i := 1) rfl)) (fun _ h9 => h9) dX9_isWord_1 (fun v1 e_v1 i_v1 => ?_)
  refine lv_iconst (v := 3) hx hb dX9_isWord_4 (by decide) ?_
  refine lv_icmp_ne (tgt := 21) hx hb dX9_isWord_5 (by decide) (fun c2 => ?_) (fun c2 => ?_)
  · refine lv_iconst (v := 0) hx hb dX9_isWord_21 (by decide) ?_
    exact h_iret hQ hx hb hr hlocks rfl hK hI ⟨rfl, rfl, rfl, (iv_w (lo' := 0) (hi' := 1) kc_0 (by decide) (by decide)), (fun h9 => absurd rfl h9), (fun _ h8 => c2 (by rw [e_v1]; exact h8.1))⟩ dX9_isWord_22
  · have i3 : iv v1 3 3 := iv_eq1 c2 i_v1 kc_3
    refine lv_aload_n hx hb dX9_isWord_8 rfl (lv_at hl 0 rfl) ?_
    refine h_getl hx hb hts iX9_isWord_X9 hown hK hI g_y (by decide) rfl rfl 10 (by decide) rfl  (hts (.fieldLink RX9 213 "CatLeasesModel" "name" "J") (List.mem_of_getElem? (i := 2) rfl)) (fun _ h9 => h9) dX9_isWord_9 (fun w4 e_w4 => ?_)
    refine lv_lload_n hx hb dX9_isWord_12 rfl (lv_at hl 1 rfl) ?_
    refine W.lcmp hx hb dX9_isWord_13 ?_
    refine h_nm (iv_any _) (fun v5 e_v5 i_v5 => ?_)
    refine lv_if_ne (tgt := 21) hx hb dX9_isWord_14 (by decide) (fun c6 => ?_) (fun c6 => ?_)
    · refine lv_iconst (v := 0) hx hb dX9_isWord_21 (by decide) ?_
      exact h_iret hQ hx hb hr hlocks rfl hK hI ⟨rfl, rfl, rfl, (iv_w (lo' := 0) (hi' := 1) kc_0 (by decide) (by decide)), (fun h9 => absurd rfl h9), (fun _ h8 => c6 (by rw [e_v5, e_w4, h8.2]; exact lcmps _))⟩ dX9_isWord_22
    · have i7 : iv v5 0 0 := iv_eq1 c6 (iv_any v5) kc_0
      refine lv_iconst (v := 1) hx hb dX9_isWord_17 (by decide) ?_
      refine lv_goto (tgt := 22) hx hb dX9_isWord_18 (by decide) ?_
      exact h_iret hQ hx hb hr hlocks rfl hK hI ⟨rfl, rfl, rfl, (iv_w (lo' := 0) (hi' := 1) kc_1 (by decide) (by decide)), (fun _ => ⟨by rw [← e_v1]; exact c2, by rw [← e_w4]; exact lcmp0 (by rw [← e_v5]; exact c6)⟩), (fun h9 => absurd h9 (by decide))⟩ dX9_isWord_22
abbrev e_h_isSignHere_X9 : List (Nat × Nat) := []
set_option maxHeartbeats 4000000 in
set_option maxRecDepth 100000 in
theorem h_isSignHere_X9 (l : Launch) (D : va_G) (g : Nat → ClassId) (σ : Nat → Option Nat) (Z : State → Heap → Prop) (hZ0 : hZ σ Z) (M : hM) (N : hN) (R : hR) (y : Nat) (g_y : σ y = some 9) (p1 : Int32) : Met l yX9_isSignHere wsX9_isSignHere ({ frames := 1, cells := 0, slots := 0, locals := 21 }) (va_Pc [.ref y, .int p1] (hPre D g σ Z M N R)) (hQi D g σ e_h_isSignHere_X9 M (fun (r : Int32) (M1 : hM) (N1 : hN) (R1 : hR) => M = M1 ∧ N = N1 ∧ R = R1 ∧ iv r 0 1 ∧ (¬ r = 0 → iv p1 0 255) ∧ (¬ r = 0 → M y 8 = 5 ∧ SG M R y (M y 6) = p1))) 0 0 (hA σ) := by
  refine h_head (cc := cX9_isSignHere) (maxL := 2) (ret := (some .boolean)) (by decide) rfl (Nat.le_of_ble_eq_true rfl) e_h_isSignHere_X9 ?_
  intro p e s m below meth c ls Q ar hQ hx hb hr hlocks hml hown hts hK hE H locs hI hl
  have hown : s.vm.findClass RX9 = some m.cls := hown
  have hl : lv_has ls 2 [(0, .ref y), (1, .int p1)] := hl
  refine lv_aload_n hx hb dX9_isSignHere_0 rfl (lv_at hl 0 rfl) ?_
  refine h_geti (lo := (-2147483648)) (hi := 2147483647) hx hb hts iX9_isSignHere_X9 hown hK hI g_y (by decide) rfl rfl 8 (by decide) rfl rfl (hts (.fieldLink RX9 206 "CatLeasesModel" "token" "I") (List.mem_of_getElem? (i := 1) rfl)) (fun _ h9 => h9) dX9_isSignHere_1 (fun v1 e_v1 i_v1 => ?_)
  refine lv_iconst (v := 5) hx hb dX9_isSignHere_4 (by decide) ?_
  refine lv_icmp_ne (tgt := 24) hx hb dX9_isSignHere_5 (by decide) (fun c2 => ?_) (fun c2 => ?_)
  · refine lv_iconst (v := 0) hx hb dX9_isSignHere_24 (by decide) ?_
    exact h_iret hQ hx hb hr hlocks rfl hK hI ⟨rfl, rfl, rfl, (iv_w (lo' := 0) (hi' := 1) kc_0 (by decide) (by decide)), (fun h9 => absurd rfl h9), (fun h9 => absurd rfl h9)⟩ dX9_isSignHere_25
  · have i3 : iv v1 5 5 := iv_eq1 c2 i_v1 kc_5
    refine lv_aload_n hx hb dX9_isSignHere_8 rfl (lv_at hl 0 rfl) ?_
    refine lv_aload_n hx hb dX9_isSignHere_9 rfl (lv_at hl 0 rfl) ?_
    refine h_geti (lo := 0) (hi := 1600) hx hb hts iX9_isSignHere_X9 hown hK hI g_y (by decide) rfl rfl 6 (by decide) rfl rfl (hts (.fieldLink RX9 199 "CatLeasesModel" "at" "I") (List.mem_of_getElem? (i := 2) rfl)) (fun _ h9 => h9) dX9_isSignHere_10 (fun v4 e_v4 i_v4 => ?_)
    refine h_goi hI (by decide) (va_runV (As := [.int v4]) (rest := []) ⟨hx, hb, hml, hown, hts⟩ (h_sign_X9 l D g σ Z hZ0 M N R y g_y v4 (iv_w (lo' := 0) (hi' := 1700) i_v4 (by decide) (by decide))) (cwV 1 hts gX9_isSignHere_X9_sign rfl rfl rfl (by decide +kernel) ⟨Nat.le_of_ble_eq_true rfl, Nat.le_of_ble_eq_true rfl⟩) (h_preV hZ0 hK hE hI g_y (by decide) rfl) rfl rfl hl.1 rfl (lv_room (Nat.le_of_ble_eq_true rfl)) dX9_isSignHere_13 ⟨Nat.le_of_ble_eq_true rfl, Nat.le_of_ble_eq_true rfl⟩) (fun r5 M6 N7 R8 H locs q9 z_M6 hI => ?_)
    obtain ⟨rfl, rfl, rfl, i_r5, z10, z11, z12⟩ := q9
    refine lv_iload_n hx hb dX9_isSignHere_16 rfl (lv_at hl 1 rfl) ?_
    refine lv_icmp_ne (tgt := 24) hx hb dX9_isSignHere_17 (by decide) (fun c13 => ?_) (fun c13 => ?_)
    · refine lv_iconst (v := 0) hx hb dX9_isSignHere_24 (by decide) ?_
      exact h_iret hQ hx hb hr hlocks rfl hK hI ⟨rfl, rfl, rfl, (iv_w (lo' := 0) (hi' := 1) kc_0 (by decide) (by decide)), (fun h9 => absurd rfl h9), (fun h9 => absurd rfl h9)⟩ dX9_isSignHere_25
    · have i14 : iv p1 0 255 := iv_eq2 c13 i_r5 (iv_any p1)
      refine lv_iconst (v := 1) hx hb dX9_isSignHere_20 (by decide) ?_
      refine lv_goto (tgt := 25) hx hb dX9_isSignHere_21 (by decide) ?_
      exact h_iret hQ hx hb hr hlocks rfl hK hI ⟨rfl, rfl, rfl, (iv_w (lo' := 0) (hi' := 1) kc_1 (by decide) (by decide)), (fun _ => i14), (fun _ => ⟨by rw [← e_v1]; exact c2, by rw [← e_v4, ← z12]; exact c13⟩)⟩ dX9_isSignHere_25
abbrev e_h_misplaced_X9 : List (Nat × Nat) := [(9, 4), (9, 5)]
set_option maxHeartbeats 4000000 in
set_option maxRecDepth 100000 in
theorem h_misplaced_X9 (l : Launch) (D : va_G) (g : Nat → ClassId) (σ : Nat → Option Nat) (Z : State → Heap → Prop) (hZ0 : hZ σ Z) (M : hM) (N : hN) (R : hR) (y : Nat) (g_y : σ y = some 9) (m0_PI : PI M y) : Met l yX9_misplaced wsX9_misplaced ({ frames := 1, cells := 0, slots := 0, locals := 22 }) (va_Pc [.ref y] (hPre D g σ Z M N R)) (hQv D g σ e_h_misplaced_X9 M (fun (M1 : hM) (N1 : hN) (R1 : hR) => N = N1 ∧ R = R1 ∧ (PI M1 y) ∧ (PN M M1 y) ∧ (iv (M1 y 4) 1 5))) 0 0 (hA σ) := by
  refine h_head (cc := cX9_misplaced) (maxL := 1) (ret := none) (by decide) rfl (Nat.le_of_ble_eq_true rfl) e_h_misplaced_X9 ?_
  intro p e s m below meth c ls Q ar hQ hx hb hr hlocks hml hown hts hK hE H locs hI hl
  have hown : s.vm.findClass RX9 = some m.cls := hown
  have hl : lv_has ls 1 [(0, .ref y)] := hl
  refine lv_aload_n hx hb dX9_misplaced_0 rfl (lv_at hl 0 rfl) ?_
  refine lv_aload_n hx hb dX9_misplaced_1 rfl (lv_at hl 0 rfl) ?_
  refine h_geti (lo := (-2147483648)) (hi := 2147483647) hx hb hts iX9_misplaced_X9 hown hK hI g_y (by decide) rfl rfl 8 (by decide) rfl rfl (hts (.fieldLink RX9 206 "CatLeasesModel" "token" "I") (List.mem_of_getElem? (i := 1) rfl)) (fun _ h9 => h9) dX9_misplaced_2 (fun v1 e_v1 i_v1 => ?_)
  refine lv_iconst (v := 1) hx hb dX9_misplaced_5 (by decide) ?_
  have J14 : ∀ (t1_14 : Int32) (H : Heap) (locs : List Loc) (ls : Array Slot), kI D g σ e_h_misplaced_X9 M s.heap M N R H locs → lv_has ls 1 [(0, .ref y)] → iv t1_14 1 2 → W p l e (headSpec wsX9_misplaced ({ frames := 1, cells := 0, slots := 0, locals := 22 })).room s m ar below meth c H locs 0 0 Q (F0 m 14 ls [.int t1_14, .ref y]) := by
    intro t1_14 H locs ls hI hl i_t1_14
    refine lv_aload_n hx hb dX9_misplaced_14 rfl (lv_at hl 0 rfl) ?_
    refine h_geti (lo := 0) (hi := 1600) hx hb hts iX9_misplaced_X9 hown hK hI g_y (by decide) rfl rfl 6 (by decide) rfl rfl (hts (.fieldLink RX9 199 "CatLeasesModel" "at" "I") (List.mem_of_getElem? (i := 2) rfl)) (fun _ h9 => h9) dX9_misplaced_15 (fun v2 e_v2 i_v2 => ?_)
    refine h_gov hI (by decide) (va_runV (As := [.int t1_14, .int v2]) (rest := []) ⟨hx, hb, hml, hown, hts⟩ (h_fails_X9 l D g σ Z hZ0 M N R y g_y t1_14 (iv_w (lo' := 1) (hi' := 5) i_t1_14 (by decide) (by decide)) v2 m0_PI) (cwV 2 hts gX9_misplaced_X9_fails rfl rfl rfl (by decide +kernel) ⟨Nat.le_of_ble_eq_true rfl, Nat.le_of_ble_eq_true rfl⟩) (h_preV hZ0 hK hE hI g_y (by decide) rfl) rfl rfl hl.1 rfl (lv_room (Nat.le_of_ble_eq_true rfl)) dX9_misplaced_18 ⟨Nat.le_of_ble_eq_true rfl, Nat.le_of_ble_eq_true rfl⟩) (fun M4 N5 R6 H locs q7 z_M4 hI => ?_)
    obtain ⟨rfl, rfl, m8, m9, z10⟩ := q7
    obtain ⟨v11, e_v11⟩ : ∃ z : Int32, z = M4 y 4 := ⟨_, rfl⟩
    have i_v11 : iv v11 1 5 := by rw [e_v11]; exact z10
    have m12 : PN M M4 y := (PN_tr PN_rf m9)
    exact h_vret hQ hx hb hr hlocks hK hI ⟨rfl, rfl, m8, m12, (by rw [← (e_v11)]; exact i_v11)⟩ dX9_misplaced_21
  refine lv_icmp_ne (tgt := 13) hx hb dX9_misplaced_6 (by decide) (fun c13 => ?_) (fun c13 => ?_)
  · refine lv_iconst (v := 2) hx hb dX9_misplaced_13 (by decide) ?_
    exact J14 (2 : Int32) H locs ls hI hl (iv_w (lo' := 1) (hi' := 2) kc_2 (by decide) (by decide))
  · have i14 : iv v1 1 1 := iv_eq1 c13 i_v1 kc_1
    refine lv_iconst (v := 1) hx hb dX9_misplaced_9 (by decide) ?_
    refine lv_goto (tgt := 14) hx hb dX9_misplaced_10 (by decide) ?_
    exact J14 (1 : Int32) H locs ls hI hl (iv_w (lo' := 1) (hi' := 2) kc_1 (by decide) (by decide))
abbrev e_h_must_X9 : List (Nat × Nat) := [(9, 4), (9, 5), (9, 6), (9, 7), (9, 8), (9, 9)]
set_option maxHeartbeats 4000000 in
set_option maxRecDepth 100000 in
theorem h_must_X9 (l : Launch) (D : va_G) (g : Nat → ClassId) (σ : Nat → Option Nat) (Z : State → Heap → Prop) (hZ0 : hZ σ Z) (M : hM) (N : hN) (R : hR) (y : Nat) (g_y : σ y = some 9) (p1 : Int32) (h_p1 : iv p1 0 1) (m0_PI : PI M y) : Met l yX9_must wsX9_must ({ frames := 2, cells := 0, slots := 0, locals := 44 }) (va_Pc [.ref y, .int p1] (hPre D g σ Z M N R)) (hQv D g σ e_h_must_X9 M (fun (M1 : hM) (N1 : hN) (R1 : hR) => R = R1 ∧ (PI M1 y) ∧ (PN M M1 y))) 0 0 (hA σ) := by
  refine h_head (cc := cX9_must) (maxL := 2) (ret := none) (by decide) rfl (Nat.le_of_ble_eq_true rfl) e_h_must_X9 ?_
  intro p e s m below meth c ls Q ar hQ hx hb hr hlocks hml hown hts hK hE H locs hI hl
  have hown : s.vm.findClass RX9 = some m.cls := hown
  have hl : lv_has ls 2 [(0, .ref y), (1, .int p1)] := hl
  refine lv_aload_n hx hb dX9_must_0 rfl (lv_at hl 0 rfl) ?_
  refine h_goi hI (by decide) (va_runV (As := []) (rest := []) ⟨hx, hb, hml, hown, hts⟩ (h_isGood_X9 l D g σ Z hZ0 M N R y g_y) (cwV 0 hts gX9_must_X9_isGood rfl rfl rfl (by decide +kernel) ⟨Nat.le_of_ble_eq_true rfl, Nat.le_of_ble_eq_true rfl⟩) (h_preV hZ0 hK hE hI g_y (by decide) rfl) rfl rfl hl.1 rfl (lv_room (Nat.le_of_ble_eq_true rfl)) dX9_must_1 ⟨Nat.le_of_ble_eq_true rfl, Nat.le_of_ble_eq_true rfl⟩) (fun r1 M2 N3 R4 H locs q5 z_M2 hI => ?_)
  obtain ⟨rfl, rfl, rfl, i_r1, z6, z7⟩ := q5
  refine lv_if_ne (tgt := 8) hx hb dX9_must_4 (by decide) (fun c8 => ?_) (fun c8 => ?_)
  · obtain ⟨v9, e_v9⟩ : ∃ z : Int32, z = M y 4 := ⟨_, rfl⟩
    have i_v9 : iv v9 0 5 := by rw [e_v9]; exact hI.iv1 (n := 67) g_y rfl (by decide) rfl
    have i10 : iv v9 0 0 := by rw [e_v9, z6 c8]; exact kc_0
    have i11 : iv r1 1 1 := iv_neL c8 i_r1 (by decide) (by decide)
    refine lv_iload_n hx hb dX9_must_8 rfl (lv_at hl 1 rfl) ?_
    refine lv_if_eq (tgt := 19) hx hb dX9_must_9 (by decide) (fun c12 => ?_) (fun c12 => ?_)
    · have i13 : iv p1 0 0 := iv_eq1 c12 h_p1 kc_0
      refine lv_aload_n hx hb dX9_must_19 rfl (lv_at hl 0 rfl) ?_
      refine h_gov hI (by decide) (va_runV (As := []) (rest := []) ⟨hx, hb, hml, hown, hts⟩ (h_misplaced_X9 l D g σ Z hZ0 M N R y g_y m0_PI) (cwV 0 hts gX9_must_X9_misplaced rfl rfl rfl (by decide +kernel) ⟨Nat.le_of_ble_eq_true rfl, Nat.le_of_ble_eq_true rfl⟩) (h_preV hZ0 hK hE hI g_y (by decide) rfl) rfl rfl hl.1 rfl (lv_room (Nat.le_of_ble_eq_true rfl)) dX9_must_20 ⟨Nat.le_of_ble_eq_true rfl, Nat.le_of_ble_eq_true rfl⟩) (fun M15 N16 R17 H locs q18 z_M15 hI => ?_)
      obtain ⟨rfl, rfl, m19, m20, z21⟩ := q18
      obtain ⟨v22, e_v22⟩ : ∃ z : Int32, z = M15 y 4 := ⟨_, rfl⟩
      have i_v22 : iv v22 1 5 := by rw [e_v22]; exact z21
      have m23 : PN M M15 y := (PN_tr PN_rf m20)
      exact h_vret hQ hx hb hr hlocks hK hI ⟨rfl, m19, m23⟩ dX9_must_23
    · have i24 : iv p1 1 1 := iv_neL c12 h_p1 (by decide) (by decide)
      refine lv_aload_n hx hb dX9_must_12 rfl (lv_at hl 0 rfl) ?_
      refine h_gov hI (by decide) (va_runV (As := []) (rest := []) ⟨hx, hb, hml, hown, hts⟩ (h_goOn_X9 l D g σ Z hZ0 M N R y g_y m0_PI) (cwV 0 hts gX9_must_X9_goOn rfl rfl rfl (by decide +kernel) ⟨Nat.le_of_ble_eq_true rfl, Nat.le_of_ble_eq_true rfl⟩) (h_preV hZ0 hK hE hI g_y (by decide) rfl) rfl rfl hl.1 rfl (lv_room (Nat.le_of_ble_eq_true rfl)) dX9_must_13 ⟨Nat.le_of_ble_eq_true rfl, Nat.le_of_ble_eq_true rfl⟩) (fun M26 N27 R28 H locs q29 z_M26 hI => ?_)
      obtain ⟨rfl, z30, z31, z32⟩ := q29
      refine lv_goto (tgt := 23) hx hb dX9_must_16 (by decide) ?_
      have m33 : PN M M26 y := (PN_tr PN_rf z31)
      exact h_vret hQ hx hb hr hlocks hK hI ⟨rfl, z30, m33⟩ dX9_must_23
  · obtain ⟨v34, e_v34⟩ : ∃ z : Int32, z = M y 4 := ⟨_, rfl⟩
    have i_v34 : iv v34 0 5 := by rw [e_v34]; exact hI.iv1 (n := 67) g_y rfl (by decide) rfl
    have i35 : iv v34 1 5 := iv_neL (fun h9 => z7 c8 (e_v34.symm.trans h9)) i_v34 (by decide) (by decide)
    have i36 : iv r1 0 0 := iv_eq1 c8 i_r1 kc_0
    exact h_vret hQ hx hb hr hlocks hK hI ⟨rfl, m0_PI, PN_rf⟩ dX9_must_7
abbrev e_h_numeral_X9 : List (Nat × Nat) := [(9, 4), (9, 5), (9, 6), (9, 7), (9, 8), (9, 9)]
set_option maxHeartbeats 4000000 in
set_option maxRecDepth 100000 in
theorem h_numeral_X9 (l : Launch) (D : va_G) (g : Nat → ClassId) (σ : Nat → Option Nat) (Z : State → Heap → Prop) (hZ0 : hZ σ Z) (M : hM) (N : hN) (R : hR) (y : Nat) (g_y : σ y = some 9) (p1 : Int32) (p2 : Int32) (m0_PI : PI M y) : Met l yX9_numeral wsX9_numeral ({ frames := 2, cells := 0, slots := 0, locals := 44 }) (va_Pc [.ref y, .int p1, .int p2] (hPre D g σ Z M N R)) (hQi D g σ e_h_numeral_X9 M (fun (r : Int32) (M1 : hM) (N1 : hN) (R1 : hR) => R = R1 ∧ (PI M1 y) ∧ (PN M M1 y))) 0 0 (hA σ) := by
  refine h_head (cc := cX9_numeral) (maxL := 4) (ret := (some .int)) (by decide) rfl (Nat.le_of_ble_eq_true rfl) e_h_numeral_X9 ?_
  intro p e s m below meth c ls Q ar hQ hx hb hr hlocks hml hown hts hK hE H locs hI hl
  have hown : s.vm.findClass RX9 = some m.cls := hown
  have hl : lv_has ls 4 [(0, .ref y), (1, .int p1), (2, .int p2)] := hl
  refine lv_aload_n hx hb dX9_numeral_0 rfl (lv_at hl 0 rfl) ?_
  refine h_goi hI (by decide) (va_runV (As := []) (rest := []) ⟨hx, hb, hml, hown, hts⟩ (h_isGood_X9 l D g σ Z hZ0 M N R y g_y) (cwV 0 hts gX9_numeral_X9_isGood rfl rfl rfl (by decide +kernel) ⟨Nat.le_of_ble_eq_true rfl, Nat.le_of_ble_eq_true rfl⟩) (h_preV hZ0 hK hE hI g_y (by decide) rfl) rfl rfl hl.1 rfl (lv_room (Nat.le_of_ble_eq_true rfl)) dX9_numeral_1 ⟨Nat.le_of_ble_eq_true rfl, Nat.le_of_ble_eq_true rfl⟩) (fun r1 M2 N3 R4 H locs q5 z_M2 hI => ?_)
  obtain ⟨rfl, rfl, rfl, i_r1, z6, z7⟩ := q5
  refine lv_if_ne (tgt := 9) hx hb dX9_numeral_4 (by decide) (fun c8 => ?_) (fun c8 => ?_)
  · obtain ⟨v9, e_v9⟩ : ∃ z : Int32, z = M y 4 := ⟨_, rfl⟩
    have i_v9 : iv v9 0 5 := by rw [e_v9]; exact hI.iv1 (n := 67) g_y rfl (by decide) rfl
    have i10 : iv v9 0 0 := by rw [e_v9, z6 c8]; exact kc_0
    have i11 : iv r1 1 1 := iv_neL c8 i_r1 (by decide) (by decide)
    refine lv_aload_n hx hb dX9_numeral_9 rfl (lv_at hl 0 rfl) ?_
    refine h_geti (lo := (-2147483648)) (hi := 2147483647) hx hb hts iX9_numeral_X9 hown hK hI g_y (by decide) rfl rfl 8 (by decide) rfl rfl (hts (.fieldLink RX9 206 "CatLeasesModel" "token" "I") (List.mem_of_getElem? (i := 1) rfl)) (fun _ h9 => h9) dX9_numeral_10 (fun v12 e_v12 i_v12 => ?_)
    refine lv_iconst (v := 4) hx hb dX9_numeral_13 (by decide) ?_
    have J21 : ∀ (M_21 : hM) (H : Heap) (locs : List Loc) (ls : Array Slot), kI D g σ e_h_numeral_X9 M s.heap M_21 N R H locs → lv_has ls 4 [(0, .ref y), (1, .int p1), (2, .int p2)] → v12 = M_21 y 8 → PI M_21 y → PN M M_21 y → W p l e (headSpec wsX9_numeral ({ frames := 2, cells := 0, slots := 0, locals := 44 })).room s m ar below meth c H locs 0 0 Q (F0 m 21 ls []) := by
      intro M_21 H locs ls hI hl k0_21 m_PI_21 m_PN_21
      refine lv_aload_n hx hb dX9_numeral_21 rfl (lv_at hl 0 rfl) ?_
      refine h_goi hI (by decide) (va_runV (As := []) (rest := []) ⟨hx, hb, hml, hown, hts⟩ (h_isGood_X9 l D g σ Z hZ0 M_21 N R y g_y) (cwV 0 hts gX9_numeral_X9_isGood rfl rfl rfl (by decide +kernel) ⟨Nat.le_of_ble_eq_true rfl, Nat.le_of_ble_eq_true rfl⟩) (h_preV hZ0 hK hE hI g_y (by decide) rfl) rfl rfl hl.1 rfl (lv_room (Nat.le_of_ble_eq_true rfl)) dX9_numeral_22 ⟨Nat.le_of_ble_eq_true rfl, Nat.le_of_ble_eq_true rfl⟩) (fun r13 M14 N15 R16 H locs q17 z_M14 hI => ?_)
      obtain ⟨rfl, rfl, rfl, i_r13, z18, z19⟩ := q17
      have J53 : ∀ (M_53 : hM) (H : Heap) (locs : List Loc) (ls : Array Slot), kI D g σ e_h_numeral_X9 M s.heap M_53 N R H locs → lv_has ls 4 [(0, .ref y), (1, .int p1)] → v12 = M_53 y 8 → PI M_53 y → PN M M_53 y → W p l e (headSpec wsX9_numeral ({ frames := 2, cells := 0, slots := 0, locals := 44 })).room s m ar below meth c H locs 0 0 Q (F0 m 53 ls []) := by
        intro M_53 H locs ls hI hl k0_53 m_PI_53 m_PN_53
        refine lv_aload_n hx hb dX9_numeral_53 rfl (lv_at hl 0 rfl) ?_
        refine h_geti (lo := (-2147483648)) (hi := 2147483647) hx hb hts iX9_numeral_X9 hown hK hI g_y (by decide) rfl rfl 9 (by decide) rfl rfl (hts (.fieldLink RX9 224 "CatLeasesModel" "number" "I") (List.mem_of_getElem? (i := 2) rfl)) (fun _ h9 => h9) dX9_numeral_54 (fun v20 e_v20 i_v20 => ?_)
        refine lv_istore_n (lv' := [(3, .int v20), (0, .ref y), (1, .int p1)]) hx hb dX9_numeral_57 rfl hl (by decide) rfl (fun ls hl => ?_)
        refine lv_aload_n hx hb dX9_numeral_58 rfl (lv_at hl 1 rfl) ?_
        refine h_goi hI (by decide) (va_runV (As := []) (rest := []) ⟨hx, hb, hml, hown, hts⟩ (h_isGood_X9 l D g σ Z hZ0 M_53 N R y g_y) (cwV 0 hts gX9_numeral_X9_isGood rfl rfl rfl (by decide +kernel) ⟨Nat.le_of_ble_eq_true rfl, Nat.le_of_ble_eq_true rfl⟩) (h_preV hZ0 hK hE hI g_y (by decide) rfl) rfl rfl hl.1 rfl (lv_room (Nat.le_of_ble_eq_true rfl)) dX9_numeral_59 ⟨Nat.le_of_ble_eq_true rfl, Nat.le_of_ble_eq_true rfl⟩) (fun r21 M22 N23 R24 H locs q25 z_M22 hI => ?_)
        obtain ⟨rfl, rfl, rfl, i_r21, z26, z27⟩ := q25
        have J69 : ∀ (M_69 : hM) (N_69 : hN) (H : Heap) (locs : List Loc) (ls : Array Slot), kI D g σ e_h_numeral_X9 M s.heap M_69 N_69 R H locs → lv_has ls 4 [(0, .ref y), (1, .int p1), (3, .int v20)] → PI M_69 y → PN M M_69 y → W p l e (headSpec wsX9_numeral ({ frames := 2, cells := 0, slots := 0, locals := 44 })).room s m ar below meth c H locs 0 0 Q (F0 m 69 ls []) := by
          intro M_69 N_69 H locs ls hI hl m_PI_69 m_PN_69
          refine lv_aload_n hx hb dX9_numeral_69 rfl (lv_at hl 0 rfl) ?_
          refine h_goi hI (by decide) (va_runV (As := []) (rest := []) ⟨hx, hb, hml, hown, hts⟩ (h_isGood_X9 l D g σ Z hZ0 M_69 N_69 R y g_y) (cwV 0 hts gX9_numeral_X9_isGood rfl rfl rfl (by decide +kernel) ⟨Nat.le_of_ble_eq_true rfl, Nat.le_of_ble_eq_true rfl⟩) (h_preV hZ0 hK hE hI g_y (by decide) rfl) rfl rfl hl.1 rfl (lv_room (Nat.le_of_ble_eq_true rfl)) dX9_numeral_70 ⟨Nat.le_of_ble_eq_true rfl, Nat.le_of_ble_eq_true rfl⟩) (fun r28 M29 N30 R31 H locs q32 z_M29 hI => ?_)
          obtain ⟨rfl, rfl, rfl, i_r28, z33, z34⟩ := q32
          refine lv_if_eq (tgt := 80) hx hb dX9_numeral_73 (by decide) (fun c35 => ?_) (fun c35 => ?_)
          · obtain ⟨v36, e_v36⟩ : ∃ z : Int32, z = M_69 y 4 := ⟨_, rfl⟩
            have i_v36 : iv v36 0 5 := by rw [e_v36]; exact hI.iv1 (n := 67) g_y rfl (by decide) rfl
            have i37 : iv v36 1 5 := iv_neL (fun h9 => z34 c35 (e_v36.symm.trans h9)) i_v36 (by decide) (by decide)
            have i38 : iv r28 0 0 := iv_eq1 c35 i_r28 kc_0
            refine lv_iload_n hx hb dX9_numeral_80 rfl (lv_at hl 1 rfl) ?_
            exact h_iret hQ hx hb hr hlocks rfl hK hI ⟨rfl, m_PI_69, m_PN_69⟩ dX9_numeral_81
          · obtain ⟨v39, e_v39⟩ : ∃ z : Int32, z = M_69 y 4 := ⟨_, rfl⟩
            have i_v39 : iv v39 0 5 := by rw [e_v39]; exact hI.iv1 (n := 67) g_y rfl (by decide) rfl
            have i40 : iv v39 0 0 := by rw [e_v39, z33 c35]; exact kc_0
            have i41 : iv r28 1 1 := iv_neL c35 i_r28 (by decide) (by decide)
            refine lv_iload_n hx hb dX9_numeral_76 rfl (lv_at hl 2 rfl) ?_
            refine lv_goto (tgt := 81) hx hb dX9_numeral_77 (by decide) ?_
            exact h_iret hQ hx hb hr hlocks rfl hK hI ⟨rfl, m_PI_69, m_PN_69⟩ dX9_numeral_81
        refine lv_if_eq (tgt := 69) hx hb dX9_numeral_62 (by decide) (fun c42 => ?_) (fun c42 => ?_)
        · obtain ⟨v43, e_v43⟩ : ∃ z : Int32, z = M_53 y 4 := ⟨_, rfl⟩
          have i_v43 : iv v43 0 5 := by rw [e_v43]; exact hI.iv1 (n := 67) g_y rfl (by decide) rfl
          have i44 : iv v43 1 5 := iv_neL (fun h9 => z27 c42 (e_v43.symm.trans h9)) i_v43 (by decide) (by decide)
          have i45 : iv r21 0 0 := iv_eq1 c42 i_r21 kc_0
          exact J69 M_53 N H locs ls hI (lv_sub hl [1, 2, 0] rfl) m_PI_53 m_PN_53
        · obtain ⟨v46, e_v46⟩ : ∃ z : Int32, z = M_53 y 4 := ⟨_, rfl⟩
          have i_v46 : iv v46 0 5 := by rw [e_v46]; exact hI.iv1 (n := 67) g_y rfl (by decide) rfl
          have i47 : iv v46 0 0 := by rw [e_v46, z26 c42]; exact kc_0
          have i48 : iv r21 1 1 := iv_neL c42 i_r21 (by decide) (by decide)
          refine lv_aload_n hx hb dX9_numeral_65 rfl (lv_at hl 1 rfl) ?_
          refine h_gov hI (by decide) (va_runV (As := []) (rest := []) ⟨hx, hb, hml, hown, hts⟩ (h_goOn_X9 l D g σ Z hZ0 M_53 N R y g_y m_PI_53) (cwV 0 hts gX9_numeral_X9_goOn rfl rfl rfl (by decide +kernel) ⟨Nat.le_of_ble_eq_true rfl, Nat.le_of_ble_eq_true rfl⟩) (h_preV hZ0 hK hE hI g_y (by decide) rfl) rfl rfl hl.1 rfl (lv_room (Nat.le_of_ble_eq_true rfl)) dX9_numeral_66 ⟨Nat.le_of_ble_eq_true rfl, Nat.le_of_ble_eq_true rfl⟩) (fun M50 N51 R52 H locs q53 z_M50 hI => ?_)
          obtain ⟨rfl, z54, z55, z56⟩ := q53
          have m57 : PN M M50 y := (PN_tr m_PN_53 z55)
          exact J69 M50 N51 H locs ls hI (lv_sub hl [1, 2, 0] rfl) z54 m57
      refine lv_if_eq (tgt := 53) hx hb dX9_numeral_25 (by decide) (fun c58 => ?_) (fun c58 => ?_)
      · obtain ⟨v59, e_v59⟩ : ∃ z : Int32, z = M_21 y 4 := ⟨_, rfl⟩
        have i_v59 : iv v59 0 5 := by rw [e_v59]; exact hI.iv1 (n := 67) g_y rfl (by decide) rfl
        have i60 : iv v59 1 5 := iv_neL (fun h9 => z19 c58 (e_v59.symm.trans h9)) i_v59 (by decide) (by decide)
        have i61 : iv r13 0 0 := iv_eq1 c58 i_r13 kc_0
        exact J53 M_21 H locs ls hI (lv_sub hl [0, 1] rfl) (k0_21) m_PI_21 m_PN_21
      · obtain ⟨v62, e_v62⟩ : ∃ z : Int32, z = M_21 y 4 := ⟨_, rfl⟩
        have i_v62 : iv v62 0 5 := by rw [e_v62]; exact hI.iv1 (n := 67) g_y rfl (by decide) rfl
        have i63 : iv v62 0 0 := by rw [e_v62, z18 c58]; exact kc_0
        have i64 : iv r13 1 1 := iv_neL c58 i_r13 (by decide) (by decide)
        refine lv_aload_n hx hb dX9_numeral_28 rfl (lv_at hl 0 rfl) ?_
        refine h_geti (lo := (-2147483648)) (hi := 2147483647) hx hb hts iX9_numeral_X9 hown hK hI g_y (by decide) rfl rfl 9 (by decide) rfl rfl (hts (.fieldLink RX9 224 "CatLeasesModel" "number" "I") (List.mem_of_getElem? (i := 2) rfl)) (fun _ h9 => h9) dX9_numeral_29 (fun v65 e_v65 i_v65 => ?_)
        refine lv_iload_n hx hb dX9_numeral_32 rfl (lv_at hl 1 rfl) ?_
        have J44 : ∀ (H : Heap) (locs : List Loc) (ls : Array Slot), kI D g σ e_h_numeral_X9 M s.heap M_21 N R H locs → lv_has ls 4 [(0, .ref y), (1, .int p1)] → W p l e (headSpec wsX9_numeral ({ frames := 2, cells := 0, slots := 0, locals := 44 })).room s m ar below meth c H locs 0 0 Q (F0 m 44 ls []) := by
          intro H locs ls hI hl
          refine lv_aload_n hx hb dX9_numeral_44 rfl (lv_at hl 0 rfl) ?_
          refine lv_iconst (v := 4) hx hb dX9_numeral_45 (by decide) ?_
          refine lv_aload_n hx hb dX9_numeral_46 rfl (lv_at hl 0 rfl) ?_
          refine h_geti (lo := 0) (hi := 1600) hx hb hts iX9_numeral_X9 hown hK hI g_y (by decide) rfl rfl 6 (by decide) rfl rfl (hts (.fieldLink RX9 199 "CatLeasesModel" "at" "I") (List.mem_of_getElem? (i := 3) rfl)) (fun _ h9 => h9) dX9_numeral_47 (fun v66 e_v66 i_v66 => ?_)
          refine h_gov hI (by decide) (va_runV (As := [.int (4 : Int32), .int v66]) (rest := []) ⟨hx, hb, hml, hown, hts⟩ (h_fails_X9 l D g σ Z hZ0 M_21 N R y g_y (4 : Int32) (iv_w (lo' := 1) (hi' := 5) kc_4 (by decide) (by decide)) v66 m_PI_21) (cwV 2 hts gX9_numeral_X9_fails rfl rfl rfl (by decide +kernel) ⟨Nat.le_of_ble_eq_true rfl, Nat.le_of_ble_eq_true rfl⟩) (h_preV hZ0 hK hE hI g_y (by decide) rfl) rfl rfl hl.1 rfl (lv_room (Nat.le_of_ble_eq_true rfl)) dX9_numeral_50 ⟨Nat.le_of_ble_eq_true rfl, Nat.le_of_ble_eq_true rfl⟩) (fun M68 N69 R70 H locs q71 z_M68 hI => ?_)
          obtain ⟨rfl, rfl, m72, m73, z74⟩ := q71
          obtain ⟨v75, e_v75⟩ : ∃ z : Int32, z = M68 y 4 := ⟨_, rfl⟩
          have i_v75 : iv v75 1 5 := by rw [e_v75]; exact z74
          have m76 : PN M M68 y := (PN_tr m_PN_21 m73)
          exact J53 M68 H locs ls hI hl ((k0_21).trans (z_M68 y 9 8 g_y rfl).symm) m72 m76
        refine lv_icmp_lt (tgt := 44) hx hb dX9_numeral_33 (by decide) (fun c77 => ?_) (fun c77 => ?_)
        · have i78 : iv v65 (-2147483648) 2147483646 := iv_lt1 c77 i_v65 (iv_any p1) (by decide)
          have i79 : iv p1 (-2147483647) 2147483647 := iv_lt2 c77 i_v65 (iv_any p1) (by decide)
          exact J44 H locs ls hI (lv_sub hl [0, 1] rfl)
        · refine lv_aload_n hx hb dX9_numeral_36 rfl (lv_at hl 0 rfl) ?_
          refine h_geti (lo := (-2147483648)) (hi := 2147483647) hx hb hts iX9_numeral_X9 hown hK hI g_y (by decide) rfl rfl 9 (by decide) rfl rfl (hts (.fieldLink RX9 224 "CatLeasesModel" "number" "I") (List.mem_of_getElem? (i := 2) rfl)) (fun _ h9 => h9) dX9_numeral_37 (fun v80 e_v80 i_v80 => ?_)
          have q81 : v65 = v80 := (e_v65).trans e_v80.symm
          subst q81
          refine lv_iload_n hx hb dX9_numeral_40 rfl (lv_at hl 2 rfl) ?_
          refine lv_icmp_le (tgt := 53) hx hb dX9_numeral_41 (by decide) (fun c82 => ?_) (fun c82 => ?_)
          · exact J53 M_21 H locs ls hI (lv_sub hl [0, 1] rfl) (k0_21) m_PI_21 m_PN_21
          · have i83 : iv v65 (-2147483647) 2147483647 := iv_nle1 c82 i_v65 (iv_any p2) (by decide)
            have i84 : iv p2 (-2147483648) 2147483646 := iv_nle2 c82 i_v65 (iv_any p2) (by decide)
            exact J44 H locs ls hI (lv_sub hl [0, 1] rfl)
    refine lv_icmp_eq (tgt := 21) hx hb dX9_numeral_14 (by decide) (fun c85 => ?_) (fun c85 => ?_)
    · have i86 : iv v12 4 4 := iv_eq1 c85 i_v12 kc_4
      exact J21 M H locs ls hI hl (e_v12) m0_PI PN_rf
    · refine lv_aload_n hx hb dX9_numeral_17 rfl (lv_at hl 0 rfl) ?_
      refine h_gov hI (by decide) (va_runV (As := []) (rest := []) ⟨hx, hb, hml, hown, hts⟩ (h_misplaced_X9 l D g σ Z hZ0 M N R y g_y m0_PI) (cwV 0 hts gX9_numeral_X9_misplaced rfl rfl rfl (by decide +kernel) ⟨Nat.le_of_ble_eq_true rfl, Nat.le_of_ble_eq_true rfl⟩) (h_preV hZ0 hK hE hI g_y (by decide) rfl) rfl rfl hl.1 rfl (lv_room (Nat.le_of_ble_eq_true rfl)) dX9_numeral_18 ⟨Nat.le_of_ble_eq_true rfl, Nat.le_of_ble_eq_true rfl⟩) (fun M88 N89 R90 H locs q91 z_M88 hI => ?_)
      obtain ⟨rfl, rfl, m92, m93, z94⟩ := q91
      obtain ⟨v95, e_v95⟩ : ∃ z : Int32, z = M88 y 4 := ⟨_, rfl⟩
      have i_v95 : iv v95 1 5 := by rw [e_v95]; exact z94
      have m96 : PN M M88 y := (PN_tr PN_rf m93)
      exact J21 M88 H locs ls hI hl ((e_v12).trans (z_M88 y 9 8 g_y rfl).symm) m92 m96
  · obtain ⟨v97, e_v97⟩ : ∃ z : Int32, z = M y 4 := ⟨_, rfl⟩
    have i_v97 : iv v97 0 5 := by rw [e_v97]; exact hI.iv1 (n := 67) g_y rfl (by decide) rfl
    have i98 : iv v97 1 5 := iv_neL (fun h9 => z7 c8 (e_v97.symm.trans h9)) i_v97 (by decide) (by decide)
    have i99 : iv r1 0 0 := iv_eq1 c8 i_r1 kc_0
    refine lv_iload_n hx hb dX9_numeral_7 rfl (lv_at hl 1 rfl) ?_
    exact h_iret hQ hx hb hr hlocks rfl hK hI ⟨rfl, m0_PI, PN_rf⟩ dX9_numeral_8
abbrev e_h_after_X9 : List (Nat × Nat) := [(9, 4), (9, 5), (9, 6), (9, 7), (9, 8), (9, 9)]
set_option maxHeartbeats 4000000 in
set_option maxRecDepth 100000 in
theorem h_after_X9 (l : Launch) (D : va_G) (g : Nat → ClassId) (σ : Nat → Option Nat) (Z : State → Heap → Prop) (hZ0 : hZ σ Z) (M : hM) (N : hN) (R : hR) (y : Nat) (g_y : σ y = some 9) (p1 : Int64) (p3 : Int32) (p4 : Int32) (m0_PI : PI M y) : Met l yX9_after wsX9_after ({ frames := 3, cells := 0, slots := 0, locals := 67 }) (va_Pc [.ref y, .long p1, .int p3, .int p4] (hPre D g σ Z M N R)) (hQi D g σ e_h_after_X9 M (fun (r : Int32) (M1 : hM) (N1 : hN) (R1 : hR) => R = R1 ∧ (PI M1 y) ∧ (PN M M1 y))) 0 0 (hA σ) := by
  refine h_head (cc := cX9_after) (maxL := 5) (ret := (some .int)) (by decide) rfl (Nat.le_of_ble_eq_true rfl) e_h_after_X9 ?_
  intro p e s m below meth c ls Q ar hQ hx hb hr hlocks hml hown hts hK hE H locs hI hl
  have hown : s.vm.findClass RX9 = some m.cls := hown
  have hl : lv_has ls 5 [(0, .ref y), (1, .long p1), (3, .int p3), (4, .int p4)] := hl
  refine lv_aload_n hx hb dX9_after_0 rfl (lv_at hl 0 rfl) ?_
  refine lv_aload_n hx hb dX9_after_1 rfl (lv_at hl 0 rfl) ?_
  refine lv_lload_n hx hb dX9_after_2 rfl (lv_at hl 1 rfl) ?_
  refine h_goi hI (by decide) (va_runV (As := [.long p1]) (rest := [.ref y]) ⟨hx, hb, hml, hown, hts⟩ (h_isWord_X9 l D g σ Z hZ0 M N R y g_y p1) (cwV 1 hts gX9_after_X9_isWord rfl rfl rfl (by decide +kernel) ⟨Nat.le_of_ble_eq_true rfl, Nat.le_of_ble_eq_true rfl⟩) (h_preV hZ0 hK hE hI g_y (by decide) rfl) rfl rfl hl.1 rfl (lv_room (Nat.le_of_ble_eq_true rfl)) dX9_after_3 ⟨Nat.le_of_ble_eq_true rfl, Nat.le_of_ble_eq_true rfl⟩) (fun r1 M2 N3 R4 H locs q5 z_M2 hI => ?_)
  obtain ⟨rfl, rfl, rfl, i_r1, z6, z7⟩ := q5
  refine h_gov hI (by decide) (va_runV (As := [.int r1]) (rest := []) ⟨hx, hb, hml, hown, hts⟩ (h_must_X9 l D g σ Z hZ0 M N R y g_y r1 i_r1 m0_PI) (cwV 1 hts gX9_after_X9_must rfl rfl rfl (by decide +kernel) ⟨Nat.le_of_ble_eq_true rfl, Nat.le_of_ble_eq_true rfl⟩) (h_preV hZ0 hK hE hI g_y (by decide) rfl) rfl rfl hl.1 rfl (lv_room (Nat.le_of_ble_eq_true rfl)) dX9_after_6 ⟨Nat.le_of_ble_eq_true rfl, Nat.le_of_ble_eq_true rfl⟩) (fun M9 N10 R11 H locs q12 z_M9 hI => ?_)
  obtain ⟨rfl, m13, m14⟩ := q12
  refine lv_aload_n hx hb dX9_after_9 rfl (lv_at hl 0 rfl) ?_
  refine lv_iload_n hx hb dX9_after_10 rfl (lv_at hl 2 rfl) ?_
  refine lv_iload hx hb dX9_after_11 (lv_at hl 3 rfl) ?_
  refine h_goi hI (by decide) (va_runV (As := [.int p3, .int p4]) (rest := []) ⟨hx, hb, hml, hown, hts⟩ (h_numeral_X9 l D g σ Z hZ0 M9 N10 R y g_y p3 p4 m13) (cwV 2 hts gX9_after_X9_numeral rfl rfl rfl (by decide +kernel) ⟨Nat.le_of_ble_eq_true rfl, Nat.le_of_ble_eq_true rfl⟩) (h_preV hZ0 hK hE hI g_y (by decide) rfl) rfl rfl hl.1 rfl (lv_room (Nat.le_of_ble_eq_true rfl)) dX9_after_13 ⟨Nat.le_of_ble_eq_true rfl, Nat.le_of_ble_eq_true rfl⟩) (fun r15 M16 N17 R18 H locs q19 z_M16 hI => ?_)
  obtain ⟨rfl, m20, m21⟩ := q19
  have m22 : PN M M16 y := (PN_tr (PN_tr PN_rf m14) m21)
  exact h_iret hQ hx hb hr hlocks rfl hK hI ⟨rfl, m20, m22⟩ dX9_after_16
abbrev e_h_perhaps_X9 : List (Nat × Nat) := [(9, 4), (9, 5), (9, 6), (9, 7), (9, 8), (9, 9)]
set_option maxHeartbeats 4000000 in
set_option maxRecDepth 100000 in
theorem h_perhaps_X9 (l : Launch) (D : va_G) (g : Nat → ClassId) (σ : Nat → Option Nat) (Z : State → Heap → Prop) (hZ0 : hZ σ Z) (M : hM) (N : hN) (R : hR) (y : Nat) (g_y : σ y = some 9) (p1 : Int64) (p3 : Int32) (m0_PI : PI M y) : Met l yX9_perhaps wsX9_perhaps ({ frames := 4, cells := 0, slots := 0, locals := 91 }) (va_Pc [.ref y, .long p1, .int p3] (hPre D g σ Z M N R)) (hQi D g σ e_h_perhaps_X9 M (fun (r : Int32) (M1 : hM) (N1 : hN) (R1 : hR) => R = R1 ∧ (PI M1 y) ∧ (PN M M1 y))) 0 0 (hA σ) := by
  refine h_head (cc := cX9_perhaps) (maxL := 4) (ret := (some .int)) (by decide) rfl (Nat.le_of_ble_eq_true rfl) e_h_perhaps_X9 ?_
  intro p e s m below meth c ls Q ar hQ hx hb hr hlocks hml hown hts hK hE H locs hI hl
  have hown : s.vm.findClass RX9 = some m.cls := hown
  have hl : lv_has ls 4 [(0, .ref y), (1, .long p1), (3, .int p3)] := hl
  refine lv_aload_n hx hb dX9_perhaps_0 rfl (lv_at hl 0 rfl) ?_
  refine h_goi hI (by decide) (va_runV (As := []) (rest := []) ⟨hx, hb, hml, hown, hts⟩ (h_isGood_X9 l D g σ Z hZ0 M N R y g_y) (cwV 0 hts gX9_perhaps_X9_isGood rfl rfl rfl (by decide +kernel) ⟨Nat.le_of_ble_eq_true rfl, Nat.le_of_ble_eq_true rfl⟩) (h_preV hZ0 hK hE hI g_y (by decide) rfl) rfl rfl hl.1 rfl (lv_room (Nat.le_of_ble_eq_true rfl)) dX9_perhaps_1 ⟨Nat.le_of_ble_eq_true rfl, Nat.le_of_ble_eq_true rfl⟩) (fun r1 M2 N3 R4 H locs q5 z_M2 hI => ?_)
  obtain ⟨rfl, rfl, rfl, i_r1, z6, z7⟩ := q5
  refine lv_if_eq (tgt := 25) hx hb dX9_perhaps_4 (by decide) (fun c8 => ?_) (fun c8 => ?_)
  · obtain ⟨v9, e_v9⟩ : ∃ z : Int32, z = M y 4 := ⟨_, rfl⟩
    have i_v9 : iv v9 0 5 := by rw [e_v9]; exact hI.iv1 (n := 67) g_y rfl (by decide) rfl
    have i10 : iv v9 1 5 := iv_neL (fun h9 => z7 c8 (e_v9.symm.trans h9)) i_v9 (by decide) (by decide)
    have i11 : iv r1 0 0 := iv_eq1 c8 i_r1 kc_0
    refine lv_iconst (v := 0) hx hb dX9_perhaps_25 (by decide) ?_
    exact h_iret hQ hx hb hr hlocks rfl hK hI ⟨rfl, m0_PI, PN_rf⟩ dX9_perhaps_26
  · obtain ⟨v12, e_v12⟩ : ∃ z : Int32, z = M y 4 := ⟨_, rfl⟩
    have i_v12 : iv v12 0 5 := by rw [e_v12]; exact hI.iv1 (n := 67) g_y rfl (by decide) rfl
    have i13 : iv v12 0 0 := by rw [e_v12, z6 c8]; exact kc_0
    have i14 : iv r1 1 1 := iv_neL c8 i_r1 (by decide) (by decide)
    refine lv_aload_n hx hb dX9_perhaps_7 rfl (lv_at hl 0 rfl) ?_
    refine lv_lload_n hx hb dX9_perhaps_8 rfl (lv_at hl 1 rfl) ?_
    refine h_goi hI (by decide) (va_runV (As := [.long p1]) (rest := []) ⟨hx, hb, hml, hown, hts⟩ (h_isWord_X9 l D g σ Z hZ0 M N R y g_y p1) (cwV 1 hts gX9_perhaps_X9_isWord rfl rfl rfl (by decide +kernel) ⟨Nat.le_of_ble_eq_true rfl, Nat.le_of_ble_eq_true rfl⟩) (h_preV hZ0 hK hE hI g_y (by decide) rfl) rfl rfl hl.1 rfl (lv_room (Nat.le_of_ble_eq_true rfl)) dX9_perhaps_9 ⟨Nat.le_of_ble_eq_true rfl, Nat.le_of_ble_eq_true rfl⟩) (fun r15 M16 N17 R18 H locs q19 z_M16 hI => ?_)
    obtain ⟨rfl, rfl, rfl, i_r15, z20, z21⟩ := q19
    refine lv_if_eq (tgt := 25) hx hb dX9_perhaps_12 (by decide) (fun c22 => ?_) (fun c22 => ?_)
    · have i23 : iv r15 0 0 := iv_eq1 c22 i_r15 kc_0
      refine lv_iconst (v := 0) hx hb dX9_perhaps_25 (by decide) ?_
      exact h_iret hQ hx hb hr hlocks rfl hK hI ⟨rfl, m0_PI, PN_rf⟩ dX9_perhaps_26
    · obtain ⟨v24, e_v24⟩ : ∃ z : Int32, z = M y 8 := ⟨_, rfl⟩
      have i25 : iv v24 3 3 := by rw [e_v24, (z20 c22).1]; exact kc_3
      have i26 : iv r15 1 1 := iv_neL c22 i_r15 (by decide) (by decide)
      refine lv_aload_n hx hb dX9_perhaps_15 rfl (lv_at hl 0 rfl) ?_
      refine lv_lload_n hx hb dX9_perhaps_16 rfl (lv_at hl 1 rfl) ?_
      refine lv_iconst (v := 0) hx hb dX9_perhaps_17 (by decide) ?_
      refine lv_iload_n hx hb dX9_perhaps_18 rfl (lv_at hl 2 rfl) ?_
      refine h_goi hI (by decide) (va_runV (As := [.long p1, .int (0 : Int32), .int p3]) (rest := []) ⟨hx, hb, hml, hown, hts⟩ (h_after_X9 l D g σ Z hZ0 M N R y g_y p1 (0 : Int32) p3 m0_PI) (cwV 3 hts gX9_perhaps_X9_after rfl rfl rfl (by decide +kernel) ⟨Nat.le_of_ble_eq_true rfl, Nat.le_of_ble_eq_true rfl⟩) (h_preV hZ0 hK hE hI g_y (by decide) rfl) rfl rfl hl.1 rfl (lv_room (Nat.le_of_ble_eq_true rfl)) dX9_perhaps_19 ⟨Nat.le_of_ble_eq_true rfl, Nat.le_of_ble_eq_true rfl⟩) (fun r27 M28 N29 R30 H locs q31 z_M28 hI => ?_)
      obtain ⟨rfl, m32, m33⟩ := q31
      refine lv_goto (tgt := 26) hx hb dX9_perhaps_22 (by decide) ?_
      have m34 : PN M M28 y := (PN_tr PN_rf m33)
      exact h_iret hQ hx hb hr hlocks rfl hK hI ⟨rfl, m32, m34⟩ dX9_perhaps_26
abbrev e_h_passes_X9 : List (Nat × Nat) := [(9, 6), (9, 7), (9, 8), (9, 9)]
set_option maxHeartbeats 4000000 in
set_option maxRecDepth 100000 in
theorem h_passes_X9 (l : Launch) (D : va_G) (g : Nat → ClassId) (σ : Nat → Option Nat) (Z : State → Heap → Prop) (hZ0 : hZ σ Z) (M : hM) (N : hN) (R : hR) (y : Nat) (g_y : σ y = some 9) (p1 : Int64) (m0_PI : PI M y) : Met l yX9_passes wsX9_passes ({ frames := 2, cells := 0, slots := 0, locals := 44 }) (va_Pc [.ref y, .long p1] (hPre D g σ Z M N R)) (hQi D g σ e_h_passes_X9 M (fun (r : Int32) (M1 : hM) (N1 : hN) (R1 : hR) => R = R1 ∧ iv r 0 1 ∧ (PI M1 y) ∧ (PN M M1 y))) 0 0 (hA σ) := by
  refine h_head (cc := cX9_passes) (maxL := 4) (ret := (some .boolean)) (by decide) rfl (Nat.le_of_ble_eq_true rfl) e_h_passes_X9 ?_
  intro p e s m below meth c ls Q ar hQ hx hb hr hlocks hml hown hts hK hE H locs hI hl
  have hown : s.vm.findClass RX9 = some m.cls := hown
  have hl : lv_has ls 4 [(0, .ref y), (1, .long p1)] := hl
  refine lv_aload_n hx hb dX9_passes_0 rfl (lv_at hl 0 rfl) ?_
  refine h_goi hI (by decide) (va_runV (As := []) (rest := []) ⟨hx, hb, hml, hown, hts⟩ (h_isGood_X9 l D g σ Z hZ0 M N R y g_y) (cwV 0 hts gX9_passes_X9_isGood rfl rfl rfl (by decide +kernel) ⟨Nat.le_of_ble_eq_true rfl, Nat.le_of_ble_eq_true rfl⟩) (h_preV hZ0 hK hE hI g_y (by decide) rfl) rfl rfl hl.1 rfl (lv_room (Nat.le_of_ble_eq_true rfl)) dX9_passes_1 ⟨Nat.le_of_ble_eq_true rfl, Nat.le_of_ble_eq_true rfl⟩) (fun r1 M2 N3 R4 H locs q5 z_M2 hI => ?_)
  obtain ⟨rfl, rfl, rfl, i_r1, z6, z7⟩ := q5
  have J20 : ∀ (t0_20 : Int32) (H : Heap) (locs : List Loc) (ls : Array Slot), kI D g σ e_h_passes_X9 M s.heap M N R H locs → lv_has ls 4 [(0, .ref y)] → iv t0_20 0 1 → W p l e (headSpec wsX9_passes ({ frames := 2, cells := 0, slots := 0, locals := 44 })).room s m ar below meth c H locs 0 0 Q (F0 m 20 ls [.int t0_20]) := by
    intro t0_20 H locs ls hI hl i_t0_20
    refine lv_istore_n (lv' := [(3, .int t0_20), (0, .ref y)]) hx hb dX9_passes_20 rfl hl (by decide) rfl (fun ls hl => ?_)
    refine lv_iload_n hx hb dX9_passes_21 rfl (lv_at hl 0 rfl) ?_
    refine lv_if_eq (tgt := 29) hx hb dX9_passes_22 (by decide) (fun c8 => ?_) (fun c8 => ?_)
    · have i9 : iv t0_20 0 0 := iv_eq1 c8 i_t0_20 kc_0
      refine lv_iload_n hx hb dX9_passes_29 rfl (lv_at hl 0 rfl) ?_
      exact h_iret hQ hx hb hr hlocks (nar_z (iv_w (lo' := 0) (hi' := 1) i9 (by decide) (by decide))) hK hI ⟨rfl, (iv_w (lo' := 0) (hi' := 1) i9 (by decide) (by decide)), m0_PI, PN_rf⟩ dX9_passes_30
    · have i10 : iv t0_20 1 1 := iv_neL c8 i_t0_20 (by decide) (by decide)
      refine lv_aload_n hx hb dX9_passes_25 rfl (lv_at hl 1 rfl) ?_
      refine h_gov hI (by decide) (va_runV (As := []) (rest := []) ⟨hx, hb, hml, hown, hts⟩ (h_goOn_X9 l D g σ Z hZ0 M N R y g_y m0_PI) (cwV 0 hts gX9_passes_X9_goOn rfl rfl rfl (by decide +kernel) ⟨Nat.le_of_ble_eq_true rfl, Nat.le_of_ble_eq_true rfl⟩) (h_preV hZ0 hK hE hI g_y (by decide) rfl) rfl rfl hl.1 rfl (lv_room (Nat.le_of_ble_eq_true rfl)) dX9_passes_26 ⟨Nat.le_of_ble_eq_true rfl, Nat.le_of_ble_eq_true rfl⟩) (fun M12 N13 R14 H locs q15 z_M12 hI => ?_)
      obtain ⟨rfl, z16, z17, z18⟩ := q15
      refine lv_iload_n hx hb dX9_passes_29 rfl (lv_at hl 0 rfl) ?_
      have m19 : PN M M12 y := (PN_tr PN_rf z17)
      exact h_iret hQ hx hb hr hlocks (nar_z (iv_w (lo' := 0) (hi' := 1) i10 (by decide) (by decide))) hK hI ⟨rfl, (iv_w (lo' := 0) (hi' := 1) i10 (by decide) (by decide)), z16, m19⟩ dX9_passes_30
  have J19 : ∀ (H : Heap) (locs : List Loc) (ls : Array Slot), kI D g σ e_h_passes_X9 M s.heap M N R H locs → lv_has ls 4 [(0, .ref y)] → W p l e (headSpec wsX9_passes ({ frames := 2, cells := 0, slots := 0, locals := 44 })).room s m ar below meth c H locs 0 0 Q (F0 m 19 ls []) := by
    intro H locs ls hI hl
    refine lv_iconst (v := 0) hx hb dX9_passes_19 (by decide) ?_
    exact J20 (0 : Int32) H locs ls hI hl (iv_w (lo' := 0) (hi' := 1) kc_0 (by decide) (by decide))
  refine lv_if_eq (tgt := 19) hx hb dX9_passes_4 (by decide) (fun c20 => ?_) (fun c20 => ?_)
  · obtain ⟨v21, e_v21⟩ : ∃ z : Int32, z = M y 4 := ⟨_, rfl⟩
    have i_v21 : iv v21 0 5 := by rw [e_v21]; exact hI.iv1 (n := 67) g_y rfl (by decide) rfl
    have i22 : iv v21 1 5 := iv_neL (fun h9 => z7 c20 (e_v21.symm.trans h9)) i_v21 (by decide) (by decide)
    have i23 : iv r1 0 0 := iv_eq1 c20 i_r1 kc_0
    exact J19 H locs ls hI (lv_sub hl [0] rfl)
  · obtain ⟨v24, e_v24⟩ : ∃ z : Int32, z = M y 4 := ⟨_, rfl⟩
    have i_v24 : iv v24 0 5 := by rw [e_v24]; exact hI.iv1 (n := 67) g_y rfl (by decide) rfl
    have i25 : iv v24 0 0 := by rw [e_v24, z6 c20]; exact kc_0
    have i26 : iv r1 1 1 := iv_neL c20 i_r1 (by decide) (by decide)
    refine lv_aload_n hx hb dX9_passes_7 rfl (lv_at hl 0 rfl) ?_
    refine lv_lload_n hx hb dX9_passes_8 rfl (lv_at hl 1 rfl) ?_
    refine h_goi hI (by decide) (va_runV (As := [.long p1]) (rest := []) ⟨hx, hb, hml, hown, hts⟩ (h_isWord_X9 l D g σ Z hZ0 M N R y g_y p1) (cwV 1 hts gX9_passes_X9_isWord rfl rfl rfl (by decide +kernel) ⟨Nat.le_of_ble_eq_true rfl, Nat.le_of_ble_eq_true rfl⟩) (h_preV hZ0 hK hE hI g_y (by decide) rfl) rfl rfl hl.1 rfl (lv_room (Nat.le_of_ble_eq_true rfl)) dX9_passes_9 ⟨Nat.le_of_ble_eq_true rfl, Nat.le_of_ble_eq_true rfl⟩) (fun r27 M28 N29 R30 H locs q31 z_M28 hI => ?_)
    obtain ⟨rfl, rfl, rfl, i_r27, z32, z33⟩ := q31
    refine lv_if_eq (tgt := 19) hx hb dX9_passes_12 (by decide) (fun c34 => ?_) (fun c34 => ?_)
    · have i35 : iv r27 0 0 := iv_eq1 c34 i_r27 kc_0
      exact J19 H locs ls hI (lv_sub hl [0] rfl)
    · obtain ⟨v36, e_v36⟩ : ∃ z : Int32, z = M y 8 := ⟨_, rfl⟩
      have i37 : iv v36 3 3 := by rw [e_v36, (z32 c34).1]; exact kc_3
      have i38 : iv r27 1 1 := iv_neL c34 i_r27 (by decide) (by decide)
      refine lv_iconst (v := 1) hx hb dX9_passes_15 (by decide) ?_
      refine lv_goto (tgt := 20) hx hb dX9_passes_16 (by decide) ?_
      exact J20 (1 : Int32) H locs ls hI (lv_sub hl [0] rfl) (iv_w (lo' := 0) (hi' := 1) kc_1 (by decide) (by decide))
abbrev e_h_here_127 : List (Nat × Nat) := []
set_option maxHeartbeats 4000000 in
set_option maxRecDepth 100000 in
theorem h_here_127 (l : Launch) (D : va_G) (g : Nat → ClassId) (σ : Nat → Option Nat) (Z : State → Heap → Prop) (hZ0 : hZ σ Z) (M : hM) (N : hN) (R : hR) (y : Nat) (g_y : σ y = some 9) (b : Nat) (g_b : σ b = some 127) (p3 : Int32) (h_p3 : iv p3 0 6) (p4 : Int32) (h_p4 : iv p4 0 6) : Met l yX9_here wsX9_here ({ frames := 0, cells := 0, slots := 0, locals := 0 }) (va_Pc [.ref y, .ref b, .int p3, .int p4] (hPre D g σ Z M N R)) (hQi D g σ e_h_here_127 M (fun (r : Int32) (M1 : hM) (N1 : hN) (R1 : hR) => M = M1 ∧ N = N1 ∧ R = R1 ∧ iv r (-1) 5 ∧ (r.toInt < p4.toInt))) 0 0 (hA σ) := by
  refine h_head (cc := cX9_here) (maxL := 5) (ret := (some .int)) (by decide) rfl (Nat.le_of_ble_eq_true rfl) e_h_here_127 ?_
  intro p e s m below meth c ls Q ar hQ hx hb hr hlocks hml hown hts hK hE H locs hI hl
  have hown : s.vm.findClass RX9 = some m.cls := hown
  have hl : lv_has ls 5 [(0, .ref y), (1, .ref b), (2, .int p3), (3, .int p4)] := hl
  refine lv_iconst (v := 0) hx hb dX9_here_0 (by decide) ?_
  have J3 : ∀ (n : Nat) (v4_3 : Int32) (H : Heap) (locs : List Loc) (ls : Array Slot), kI D g σ e_h_here_127 M s.heap M N R H locs → lv_has ls 5 [(0, .ref y), (1, .ref b), (2, .int p3), (3, .int p4), (4, .int v4_3)] → iv v4_3 0 6 → 7 ≤ v4_3.toInt + (n : Int) → W p l e (headSpec wsX9_here ({ frames := 0, cells := 0, slots := 0, locals := 0 })).room s m ar below meth c H locs 0 0 Q (F0 m 3 ls []) := by
    intro n
    induction n with
    | zero => intro v4_3 H locs ls hI hl i_v4_3 hn; exfalso; have hz := i_v4_3; simp only [iv] at hz; omega
    | succ n ih3 =>
      intro v4_3 H locs ls hI hl i_v4_3 hn3
      refine lv_iload hx hb dX9_here_3 (lv_at hl 4 rfl) ?_
      refine lv_iload_n hx hb dX9_here_5 rfl (lv_at hl 3 rfl) ?_
      refine lv_icmp_ge (tgt := 40) hx hb dX9_here_6 (by decide) (fun c1 => ?_) (fun c1 => ?_)
      · refine lv_iconst (v := (-1)) hx hb dX9_here_40 (by decide) ?_
        exact h_iret hQ hx hb hr hlocks rfl hK hI ⟨rfl, rfl, rfl, (iv_w (lo' := (-1)) (hi' := 5) kc_m1 (by decide) (by decide)), (by have h9 := h_p4; simp only [iv] at h9; rw [show (-1 : Int32).toInt = -1 by decide]; omega)⟩ dX9_here_41
      · have i2 : iv p4 1 6 := iv_nle1 c1 h_p4 i_v4_3 (by decide)
        have i3 : iv v4_3 0 5 := iv_nle2 c1 h_p4 i_v4_3 (by decide)
        refine lv_aload_n hx hb dX9_here_9 rfl (lv_at hl 0 rfl) ?_
        refine h_geti (lo := (-2147483648)) (hi := 2147483647) hx hb hts iX9_here_X9 hown hK hI g_y (by decide) rfl rfl 8 (by decide) rfl rfl (hts (.fieldLink RX9 206 "CatLeasesModel" "token" "I") (List.mem_of_getElem? (i := 1) rfl)) (fun _ h9 => h9) dX9_here_10 (fun v4 e_v4 i_v4 => ?_)
        refine lv_iconst (v := 2) hx hb dX9_here_13 (by decide) ?_
        have J34 : ∀ (H : Heap) (locs : List Loc) (ls : Array Slot), kI D g σ e_h_here_127 M s.heap M N R H locs → lv_has ls 5 [(0, .ref y), (1, .ref b), (2, .int p3), (3, .int p4), (4, .int v4_3)] → W p l e (headSpec wsX9_here ({ frames := 0, cells := 0, slots := 0, locals := 0 })).room s m ar below meth c H locs 0 0 Q (F0 m 34 ls []) := by
          intro H locs ls hI hl
          obtain ⟨v5, e_v5⟩ : ∃ z : Int32, z = v4_3 + Int32.ofInt 1 := ⟨_, rfl⟩
          have i_v5 : iv v5 1 6 := by rw [e_v5]; exact iv_add i3 (ki_1) (by decide) (by decide) (by decide) (by decide)
          refine lv_iinc (v := v5) (lv' := [(4, .int v5), (0, .ref y), (1, .ref b), (2, .int p3), (3, .int p4)]) hx hb dX9_here_34 hl (k := 4) rfl e_v5.symm (by decide) rfl (fun ls hl => ?_)
          refine lv_goto (tgt := 3) hx hb dX9_here_37 (by decide) ?_
          exact ih3 v5 H locs ls hI (lv_sub hl [1, 2, 3, 4, 0] rfl) (iv_w (lo' := 0) (hi' := 6) i_v5 (by decide) (by decide)) (by have h9 := (h_inc e_v5 i3 ki_1 (by decide) (by decide)); omega)
        refine lv_icmp_ne (tgt := 34) hx hb dX9_here_14 (by decide) (fun c6 => ?_) (fun c6 => ?_)
        · exact J34 H locs ls hI hl
        · have i7 : iv v4 2 2 := iv_eq1 c6 i_v4 kc_2
          refine lv_aload_n hx hb dX9_here_17 rfl (lv_at hl 1 rfl) ?_
          refine lv_iload_n hx hb dX9_here_18 rfl (lv_at hl 2 rfl) ?_
          refine lv_iload hx hb dX9_here_19 (lv_at hl 4 rfl) ?_
          refine lv_iadd hx hb dX9_here_21 ?_
          refine h_nm (lo := 0) (hi := 11) (iv_add h_p3 i3 (by decide) (by decide) (by decide) (by decide)) (fun v8 e_v8 i_v8 => ?_)
          refine h_lald (j := v8.toNatClampNeg) hx hb hK hI g_b (by decide) rfl (iv_in (n := 12) i_v8 (by decide) (by decide)) rfl dX9_here_22 (fun w9 e_w9 => ?_)
          refine lv_aload_n hx hb dX9_here_23 rfl (lv_at hl 0 rfl) ?_
          refine h_getl hx hb hts iX9_here_X9 hown hK hI g_y (by decide) rfl rfl 10 (by decide) rfl  (hts (.fieldLink RX9 213 "CatLeasesModel" "name" "J") (List.mem_of_getElem? (i := 2) rfl)) (fun _ h9 => h9) dX9_here_24 (fun w10 e_w10 => ?_)
          refine W.lcmp hx hb dX9_here_27 ?_
          refine h_nm (iv_any _) (fun v11 e_v11 i_v11 => ?_)
          refine lv_if_ne (tgt := 34) hx hb dX9_here_28 (by decide) (fun c12 => ?_) (fun c12 => ?_)
          · exact J34 H locs ls hI hl
          · have i13 : iv v11 0 0 := iv_eq1 c12 (iv_any v11) kc_0
            refine lv_iload hx hb dX9_here_31 (lv_at hl 4 rfl) ?_
            exact h_iret hQ hx hb hr hlocks rfl hK hI ⟨rfl, rfl, rfl, (iv_w (lo' := (-1)) (hi' := 5) i3 (by decide) (by decide)), Int32.lt_iff_toInt_lt.mp (Int32.not_le.mp c1)⟩ dX9_here_33
  refine lv_istore (lv' := [(4, .int (0 : Int32)), (0, .ref y), (1, .ref b), (2, .int p3), (3, .int p4)]) hx hb dX9_here_1 hl (by decide) rfl (fun ls hl => ?_)
  exact J3 7 (0 : Int32) H locs ls hI (lv_sub hl [1, 2, 3, 4, 0] rfl) (iv_w (lo' := 0) (hi' := 6) kc_0 (by decide) (by decide)) (by have h9 := kc_0; simp only [iv] at h9; omega)
abbrev e_h_here_128 : List (Nat × Nat) := []
set_option maxHeartbeats 4000000 in
set_option maxRecDepth 100000 in
theorem h_here_128 (l : Launch) (D : va_G) (g : Nat → ClassId) (σ : Nat → Option Nat) (Z : State → Heap → Prop) (hZ0 : hZ σ Z) (M : hM) (N : hN) (R : hR) (y : Nat) (g_y : σ y = some 9) (b : Nat) (g_b : σ b = some 128) (p3 : Int32) (h_p3 : iv p3 0 8) (p4 : Int32) (h_p4 : iv p4 0 8) : Met l yX9_here wsX9_here ({ frames := 0, cells := 0, slots := 0, locals := 0 }) (va_Pc [.ref y, .ref b, .int p3, .int p4] (hPre D g σ Z M N R)) (hQi D g σ e_h_here_128 M (fun (r : Int32) (M1 : hM) (N1 : hN) (R1 : hR) => M = M1 ∧ N = N1 ∧ R = R1 ∧ iv r (-1) 7 ∧ (r.toInt < p4.toInt))) 0 0 (hA σ) := by
  refine h_head (cc := cX9_here) (maxL := 5) (ret := (some .int)) (by decide) rfl (Nat.le_of_ble_eq_true rfl) e_h_here_128 ?_
  intro p e s m below meth c ls Q ar hQ hx hb hr hlocks hml hown hts hK hE H locs hI hl
  have hown : s.vm.findClass RX9 = some m.cls := hown
  have hl : lv_has ls 5 [(0, .ref y), (1, .ref b), (2, .int p3), (3, .int p4)] := hl
  refine lv_iconst (v := 0) hx hb dX9_here_0 (by decide) ?_
  have J3 : ∀ (n : Nat) (v4_3 : Int32) (H : Heap) (locs : List Loc) (ls : Array Slot), kI D g σ e_h_here_128 M s.heap M N R H locs → lv_has ls 5 [(0, .ref y), (1, .ref b), (2, .int p3), (3, .int p4), (4, .int v4_3)] → iv v4_3 0 8 → 9 ≤ v4_3.toInt + (n : Int) → W p l e (headSpec wsX9_here ({ frames := 0, cells := 0, slots := 0, locals := 0 })).room s m ar below meth c H locs 0 0 Q (F0 m 3 ls []) := by
    intro n
    induction n with
    | zero => intro v4_3 H locs ls hI hl i_v4_3 hn; exfalso; have hz := i_v4_3; simp only [iv] at hz; omega
    | succ n ih3 =>
      intro v4_3 H locs ls hI hl i_v4_3 hn3
      refine lv_iload hx hb dX9_here_3 (lv_at hl 4 rfl) ?_
      refine lv_iload_n hx hb dX9_here_5 rfl (lv_at hl 3 rfl) ?_
      refine lv_icmp_ge (tgt := 40) hx hb dX9_here_6 (by decide) (fun c1 => ?_) (fun c1 => ?_)
      · refine lv_iconst (v := (-1)) hx hb dX9_here_40 (by decide) ?_
        exact h_iret hQ hx hb hr hlocks rfl hK hI ⟨rfl, rfl, rfl, (iv_w (lo' := (-1)) (hi' := 7) kc_m1 (by decide) (by decide)), (by have h9 := h_p4; simp only [iv] at h9; rw [show (-1 : Int32).toInt = -1 by decide]; omega)⟩ dX9_here_41
      · have i2 : iv p4 1 8 := iv_nle1 c1 h_p4 i_v4_3 (by decide)
        have i3 : iv v4_3 0 7 := iv_nle2 c1 h_p4 i_v4_3 (by decide)
        refine lv_aload_n hx hb dX9_here_9 rfl (lv_at hl 0 rfl) ?_
        refine h_geti (lo := (-2147483648)) (hi := 2147483647) hx hb hts iX9_here_X9 hown hK hI g_y (by decide) rfl rfl 8 (by decide) rfl rfl (hts (.fieldLink RX9 206 "CatLeasesModel" "token" "I") (List.mem_of_getElem? (i := 1) rfl)) (fun _ h9 => h9) dX9_here_10 (fun v4 e_v4 i_v4 => ?_)
        refine lv_iconst (v := 2) hx hb dX9_here_13 (by decide) ?_
        have J34 : ∀ (H : Heap) (locs : List Loc) (ls : Array Slot), kI D g σ e_h_here_128 M s.heap M N R H locs → lv_has ls 5 [(0, .ref y), (1, .ref b), (2, .int p3), (3, .int p4), (4, .int v4_3)] → W p l e (headSpec wsX9_here ({ frames := 0, cells := 0, slots := 0, locals := 0 })).room s m ar below meth c H locs 0 0 Q (F0 m 34 ls []) := by
          intro H locs ls hI hl
          obtain ⟨v5, e_v5⟩ : ∃ z : Int32, z = v4_3 + Int32.ofInt 1 := ⟨_, rfl⟩
          have i_v5 : iv v5 1 8 := by rw [e_v5]; exact iv_add i3 (ki_1) (by decide) (by decide) (by decide) (by decide)
          refine lv_iinc (v := v5) (lv' := [(4, .int v5), (0, .ref y), (1, .ref b), (2, .int p3), (3, .int p4)]) hx hb dX9_here_34 hl (k := 4) rfl e_v5.symm (by decide) rfl (fun ls hl => ?_)
          refine lv_goto (tgt := 3) hx hb dX9_here_37 (by decide) ?_
          exact ih3 v5 H locs ls hI (lv_sub hl [1, 2, 3, 4, 0] rfl) (iv_w (lo' := 0) (hi' := 8) i_v5 (by decide) (by decide)) (by have h9 := (h_inc e_v5 i3 ki_1 (by decide) (by decide)); omega)
        refine lv_icmp_ne (tgt := 34) hx hb dX9_here_14 (by decide) (fun c6 => ?_) (fun c6 => ?_)
        · exact J34 H locs ls hI hl
        · have i7 : iv v4 2 2 := iv_eq1 c6 i_v4 kc_2
          refine lv_aload_n hx hb dX9_here_17 rfl (lv_at hl 1 rfl) ?_
          refine lv_iload_n hx hb dX9_here_18 rfl (lv_at hl 2 rfl) ?_
          refine lv_iload hx hb dX9_here_19 (lv_at hl 4 rfl) ?_
          refine lv_iadd hx hb dX9_here_21 ?_
          refine h_nm (lo := 0) (hi := 15) (iv_add h_p3 i3 (by decide) (by decide) (by decide) (by decide)) (fun v8 e_v8 i_v8 => ?_)
          refine h_lald (j := v8.toNatClampNeg) hx hb hK hI g_b (by decide) rfl (iv_in (n := 16) i_v8 (by decide) (by decide)) rfl dX9_here_22 (fun w9 e_w9 => ?_)
          refine lv_aload_n hx hb dX9_here_23 rfl (lv_at hl 0 rfl) ?_
          refine h_getl hx hb hts iX9_here_X9 hown hK hI g_y (by decide) rfl rfl 10 (by decide) rfl  (hts (.fieldLink RX9 213 "CatLeasesModel" "name" "J") (List.mem_of_getElem? (i := 2) rfl)) (fun _ h9 => h9) dX9_here_24 (fun w10 e_w10 => ?_)
          refine W.lcmp hx hb dX9_here_27 ?_
          refine h_nm (iv_any _) (fun v11 e_v11 i_v11 => ?_)
          refine lv_if_ne (tgt := 34) hx hb dX9_here_28 (by decide) (fun c12 => ?_) (fun c12 => ?_)
          · exact J34 H locs ls hI hl
          · have i13 : iv v11 0 0 := iv_eq1 c12 (iv_any v11) kc_0
            refine lv_iload hx hb dX9_here_31 (lv_at hl 4 rfl) ?_
            exact h_iret hQ hx hb hr hlocks rfl hK hI ⟨rfl, rfl, rfl, (iv_w (lo' := (-1)) (hi' := 7) i3 (by decide) (by decide)), Int32.lt_iff_toInt_lt.mp (Int32.not_le.mp c1)⟩ dX9_here_33
  refine lv_istore (lv' := [(4, .int (0 : Int32)), (0, .ref y), (1, .ref b), (2, .int p3), (3, .int p4)]) hx hb dX9_here_1 hl (by decide) rfl (fun ls hl => ?_)
  exact J3 9 (0 : Int32) H locs ls hI (lv_sub hl [1, 2, 3, 4, 0] rfl) (iv_w (lo' := 0) (hi' := 8) kc_0 (by decide) (by decide)) (by have h9 := kc_0; simp only [iv] at h9; omega)
abbrev e_h_here_129 : List (Nat × Nat) := []
set_option maxHeartbeats 4000000 in
set_option maxRecDepth 100000 in
theorem h_here_129 (l : Launch) (D : va_G) (g : Nat → ClassId) (σ : Nat → Option Nat) (Z : State → Heap → Prop) (hZ0 : hZ σ Z) (M : hM) (N : hN) (R : hR) (y : Nat) (g_y : σ y = some 9) (b : Nat) (g_b : σ b = some 129) (p3 : Int32) (h_p3 : iv p3 0 7) (p4 : Int32) (h_p4 : iv p4 0 7) : Met l yX9_here wsX9_here ({ frames := 0, cells := 0, slots := 0, locals := 0 }) (va_Pc [.ref y, .ref b, .int p3, .int p4] (hPre D g σ Z M N R)) (hQi D g σ e_h_here_129 M (fun (r : Int32) (M1 : hM) (N1 : hN) (R1 : hR) => M = M1 ∧ N = N1 ∧ R = R1 ∧ iv r (-1) 6 ∧ (r.toInt < p4.toInt))) 0 0 (hA σ) := by
  refine h_head (cc := cX9_here) (maxL := 5) (ret := (some .int)) (by decide) rfl (Nat.le_of_ble_eq_true rfl) e_h_here_129 ?_
  intro p e s m below meth c ls Q ar hQ hx hb hr hlocks hml hown hts hK hE H locs hI hl
  have hown : s.vm.findClass RX9 = some m.cls := hown
  have hl : lv_has ls 5 [(0, .ref y), (1, .ref b), (2, .int p3), (3, .int p4)] := hl
  refine lv_iconst (v := 0) hx hb dX9_here_0 (by decide) ?_
  have J3 : ∀ (n : Nat) (v4_3 : Int32) (H : Heap) (locs : List Loc) (ls : Array Slot), kI D g σ e_h_here_129 M s.heap M N R H locs → lv_has ls 5 [(0, .ref y), (1, .ref b), (2, .int p3), (3, .int p4), (4, .int v4_3)] → iv v4_3 0 7 → 8 ≤ v4_3.toInt + (n : Int) → W p l e (headSpec wsX9_here ({ frames := 0, cells := 0, slots := 0, locals := 0 })).room s m ar below meth c H locs 0 0 Q (F0 m 3 ls []) := by
    intro n
    induction n with
    | zero => intro v4_3 H locs ls hI hl i_v4_3 hn; exfalso; have hz := i_v4_3; simp only [iv] at hz; omega
    | succ n ih3 =>
      intro v4_3 H locs ls hI hl i_v4_3 hn3
      refine lv_iload hx hb dX9_here_3 (lv_at hl 4 rfl) ?_
      refine lv_iload_n hx hb dX9_here_5 rfl (lv_at hl 3 rfl) ?_
      refine lv_icmp_ge (tgt := 40) hx hb dX9_here_6 (by decide) (fun c1 => ?_) (fun c1 => ?_)
      · refine lv_iconst (v := (-1)) hx hb dX9_here_40 (by decide) ?_
        exact h_iret hQ hx hb hr hlocks rfl hK hI ⟨rfl, rfl, rfl, (iv_w (lo' := (-1)) (hi' := 6) kc_m1 (by decide) (by decide)), (by have h9 := h_p4; simp only [iv] at h9; rw [show (-1 : Int32).toInt = -1 by decide]; omega)⟩ dX9_here_41
      · have i2 : iv p4 1 7 := iv_nle1 c1 h_p4 i_v4_3 (by decide)
        have i3 : iv v4_3 0 6 := iv_nle2 c1 h_p4 i_v4_3 (by decide)
        refine lv_aload_n hx hb dX9_here_9 rfl (lv_at hl 0 rfl) ?_
        refine h_geti (lo := (-2147483648)) (hi := 2147483647) hx hb hts iX9_here_X9 hown hK hI g_y (by decide) rfl rfl 8 (by decide) rfl rfl (hts (.fieldLink RX9 206 "CatLeasesModel" "token" "I") (List.mem_of_getElem? (i := 1) rfl)) (fun _ h9 => h9) dX9_here_10 (fun v4 e_v4 i_v4 => ?_)
        refine lv_iconst (v := 2) hx hb dX9_here_13 (by decide) ?_
        have J34 : ∀ (H : Heap) (locs : List Loc) (ls : Array Slot), kI D g σ e_h_here_129 M s.heap M N R H locs → lv_has ls 5 [(0, .ref y), (1, .ref b), (2, .int p3), (3, .int p4), (4, .int v4_3)] → W p l e (headSpec wsX9_here ({ frames := 0, cells := 0, slots := 0, locals := 0 })).room s m ar below meth c H locs 0 0 Q (F0 m 34 ls []) := by
          intro H locs ls hI hl
          obtain ⟨v5, e_v5⟩ : ∃ z : Int32, z = v4_3 + Int32.ofInt 1 := ⟨_, rfl⟩
          have i_v5 : iv v5 1 7 := by rw [e_v5]; exact iv_add i3 (ki_1) (by decide) (by decide) (by decide) (by decide)
          refine lv_iinc (v := v5) (lv' := [(4, .int v5), (0, .ref y), (1, .ref b), (2, .int p3), (3, .int p4)]) hx hb dX9_here_34 hl (k := 4) rfl e_v5.symm (by decide) rfl (fun ls hl => ?_)
          refine lv_goto (tgt := 3) hx hb dX9_here_37 (by decide) ?_
          exact ih3 v5 H locs ls hI (lv_sub hl [1, 2, 3, 4, 0] rfl) (iv_w (lo' := 0) (hi' := 7) i_v5 (by decide) (by decide)) (by have h9 := (h_inc e_v5 i3 ki_1 (by decide) (by decide)); omega)
        refine lv_icmp_ne (tgt := 34) hx hb dX9_here_14 (by decide) (fun c6 => ?_) (fun c6 => ?_)
        · exact J34 H locs ls hI hl
        · have i7 : iv v4 2 2 := iv_eq1 c6 i_v4 kc_2
          refine lv_aload_n hx hb dX9_here_17 rfl (lv_at hl 1 rfl) ?_
          refine lv_iload_n hx hb dX9_here_18 rfl (lv_at hl 2 rfl) ?_
          refine lv_iload hx hb dX9_here_19 (lv_at hl 4 rfl) ?_
          refine lv_iadd hx hb dX9_here_21 ?_
          refine h_nm (lo := 0) (hi := 13) (iv_add h_p3 i3 (by decide) (by decide) (by decide) (by decide)) (fun v8 e_v8 i_v8 => ?_)
          refine h_lald (j := v8.toNatClampNeg) hx hb hK hI g_b (by decide) rfl (iv_in (n := 14) i_v8 (by decide) (by decide)) rfl dX9_here_22 (fun w9 e_w9 => ?_)
          refine lv_aload_n hx hb dX9_here_23 rfl (lv_at hl 0 rfl) ?_
          refine h_getl hx hb hts iX9_here_X9 hown hK hI g_y (by decide) rfl rfl 10 (by decide) rfl  (hts (.fieldLink RX9 213 "CatLeasesModel" "name" "J") (List.mem_of_getElem? (i := 2) rfl)) (fun _ h9 => h9) dX9_here_24 (fun w10 e_w10 => ?_)
          refine W.lcmp hx hb dX9_here_27 ?_
          refine h_nm (iv_any _) (fun v11 e_v11 i_v11 => ?_)
          refine lv_if_ne (tgt := 34) hx hb dX9_here_28 (by decide) (fun c12 => ?_) (fun c12 => ?_)
          · exact J34 H locs ls hI hl
          · have i13 : iv v11 0 0 := iv_eq1 c12 (iv_any v11) kc_0
            refine lv_iload hx hb dX9_here_31 (lv_at hl 4 rfl) ?_
            exact h_iret hQ hx hb hr hlocks rfl hK hI ⟨rfl, rfl, rfl, (iv_w (lo' := (-1)) (hi' := 6) i3 (by decide) (by decide)), Int32.lt_iff_toInt_lt.mp (Int32.not_le.mp c1)⟩ dX9_here_33
  refine lv_istore (lv' := [(4, .int (0 : Int32)), (0, .ref y), (1, .ref b), (2, .int p3), (3, .int p4)]) hx hb dX9_here_1 hl (by decide) rfl (fun ls hl => ?_)
  exact J3 8 (0 : Int32) H locs ls hI (lv_sub hl [1, 2, 3, 4, 0] rfl) (iv_w (lo' := 0) (hi' := 7) kc_0 (by decide) (by decide)) (by have h9 := kc_0; simp only [iv] at h9; omega)
abbrev e_h_catHere_X9 : List (Nat × Nat) := []
set_option maxHeartbeats 4000000 in
set_option maxRecDepth 100000 in
theorem h_catHere_X9 (l : Launch) (D : va_G) (g : Nat → ClassId) (σ : Nat → Option Nat) (Z : State → Heap → Prop) (hZ0 : hZ σ Z) (M : hM) (N : hN) (R : hR) (y : Nat) (g_y : σ y = some 9) : Met l yX9_catHere wsX9_catHere ({ frames := 1, cells := 0, slots := 0, locals := 24 }) (va_Pc [.ref y] (hPre D g σ Z M N R)) (hQi D g σ e_h_catHere_X9 M (fun (r : Int32) (M1 : hM) (N1 : hN) (R1 : hR) => M = M1 ∧ N = N1 ∧ R = R1 ∧ iv r (-1) 5 ∧ (r.toInt < (M (R y 11) (rbN M y)).toInt))) 0 0 (hA σ) := by
  refine h_head (cc := cX9_catHere) (maxL := 1) (ret := (some .int)) (by decide) rfl (Nat.le_of_ble_eq_true rfl) e_h_catHere_X9 ?_
  intro p e s m below meth c ls Q ar hQ hx hb hr hlocks hml hown hts hK hE H locs hI hl
  have hown : s.vm.findClass RX9 = some m.cls := hown
  have hl : lv_has ls 1 [(0, .ref y)] := hl
  refine lv_aload_n hx hb dX9_catHere_0 rfl (lv_at hl 0 rfl) ?_
  refine lv_aload_n hx hb dX9_catHere_1 rfl (lv_at hl 0 rfl) ?_
  refine h_getr hx hb hts iX9_catHere_X9 hown hK hI g_y (by decide) rfl rfl 27 (by decide) rfl 127 rfl (hts (.fieldLink RX9 69 "CatLeasesModel" "cName" "[J") (List.mem_of_getElem? (i := 1) rfl)) (fun _ h9 => h9) dX9_catHere_2 (fun a1 e_a1 g_a1 => ?_)
  refine lv_bipush (v := 6) hx hb dX9_catHere_5 (by decide) ?_
  refine lv_aload_n hx hb dX9_catHere_7 rfl (lv_at hl 0 rfl) ?_
  refine h_geti (lo := 0) (hi := 1) hx hb hts iX9_catHere_X9 hown hK hI g_y (by decide) rfl rfl 36 (by decide) rfl rfl (hts (.fieldLink RX9 259 "CatLeasesModel" "rb" "I") (List.mem_of_getElem? (i := 2) rfl)) (fun _ h9 => h9) dX9_catHere_8 (fun v2 e_v2 i_v2 => ?_)
  refine lv_imul hx hb dX9_catHere_11 ?_
  refine h_nm (lo := 0) (hi := 6) (iv_mul kc_6 i_v2 (by decide) (by decide) (by decide) (by decide) (by decide)) (fun v3 e_v3 i_v3 => ?_)
  refine lv_aload_n hx hb dX9_catHere_12 rfl (lv_at hl 0 rfl) ?_
  refine h_getr hx hb hts iX9_catHere_X9 hown hK hI g_y (by decide) rfl rfl 11 (by decide) rfl 111 rfl (hts (.fieldLink RX9 20 "CatLeasesModel" "cats" "[I") (List.mem_of_getElem? (i := 3) rfl)) (fun _ h9 => h9) dX9_catHere_13 (fun a4 e_a4 g_a4 => ?_)
  refine lv_aload_n hx hb dX9_catHere_16 rfl (lv_at hl 0 rfl) ?_
  refine h_geti (lo := 0) (hi := 1) hx hb hts iX9_catHere_X9 hown hK hI g_y (by decide) rfl rfl 36 (by decide) rfl rfl (hts (.fieldLink RX9 259 "CatLeasesModel" "rb" "I") (List.mem_of_getElem? (i := 2) rfl)) (fun _ h9 => h9) dX9_catHere_17 (fun v5 e_v5 i_v5 => ?_)
  have q6 : v2 = v5 := (e_v2).trans e_v5.symm
  subst q6
  refine h_iald (j := v2.toNatClampNeg) (lo := 0) (hi := 6) hx hb hK hI g_a4 (by decide) rfl (iv_in (n := 2) i_v2 (by decide) (by decide)) rfl (hI.iv1 (n := 2) g_a4 rfl (in_lt (iv_in (n := 2) i_v2 (by decide) (by decide))) rfl) dX9_catHere_20 (fun v7 e_v7 i_v7 => ?_)
  refine h_goi hI (by decide) (va_runV (As := [.ref a1, .int v3, .int v7]) (rest := []) ⟨hx, hb, hml, hown, hts⟩ (h_here_127 l D g σ Z hZ0 M N R y g_y a1 g_a1 v3 i_v3 v7 i_v7) (cwV 3 hts gX9_catHere_X9_here rfl rfl rfl (by decide +kernel) ⟨Nat.le_of_ble_eq_true rfl, Nat.le_of_ble_eq_true rfl⟩) (h_preV hZ0 hK hE hI g_y (by decide) rfl) rfl rfl hl.1 rfl (lv_room (Nat.le_of_ble_eq_true rfl)) dX9_catHere_21 ⟨Nat.le_of_ble_eq_true rfl, Nat.le_of_ble_eq_true rfl⟩) (fun r8 M9 N10 R11 H locs q12 z_M9 hI => ?_)
  obtain ⟨rfl, rfl, rfl, i_r8, z13⟩ := q12
  exact h_iret hQ hx hb hr hlocks rfl hK hI ⟨rfl, rfl, rfl, i_r8, (by rw [← (show v7 = M (R y 11) (rbN M y) by rw [e_v7, e_a4, rbN, ← (show v2 = M y 36 from e_v2)])]; exact z13)⟩ dX9_catHere_24
abbrev e_h_roomHere_X9 : List (Nat × Nat) := []
set_option maxHeartbeats 4000000 in
set_option maxRecDepth 100000 in
theorem h_roomHere_X9 (l : Launch) (D : va_G) (g : Nat → ClassId) (σ : Nat → Option Nat) (Z : State → Heap → Prop) (hZ0 : hZ σ Z) (M : hM) (N : hN) (R : hR) (y : Nat) (g_y : σ y = some 9) : Met l yX9_roomHere wsX9_roomHere ({ frames := 1, cells := 0, slots := 0, locals := 24 }) (va_Pc [.ref y] (hPre D g σ Z M N R)) (hQi D g σ e_h_roomHere_X9 M (fun (r : Int32) (M1 : hM) (N1 : hN) (R1 : hR) => M = M1 ∧ N = N1 ∧ R = R1 ∧ iv r (-1) 7 ∧ (r.toInt < (M (R y 12) (rbN M y)).toInt))) 0 0 (hA σ) := by
  refine h_head (cc := cX9_roomHere) (maxL := 1) (ret := (some .int)) (by decide) rfl (Nat.le_of_ble_eq_true rfl) e_h_roomHere_X9 ?_
  intro p e s m below meth c ls Q ar hQ hx hb hr hlocks hml hown hts hK hE H locs hI hl
  have hown : s.vm.findClass RX9 = some m.cls := hown
  have hl : lv_has ls 1 [(0, .ref y)] := hl
  refine lv_aload_n hx hb dX9_roomHere_0 rfl (lv_at hl 0 rfl) ?_
  refine lv_aload_n hx hb dX9_roomHere_1 rfl (lv_at hl 0 rfl) ?_
  refine h_getr hx hb hts iX9_roomHere_X9 hown hK hI g_y (by decide) rfl rfl 28 (by decide) rfl 128 rfl (hts (.fieldLink RX9 73 "CatLeasesModel" "rName" "[J") (List.mem_of_getElem? (i := 1) rfl)) (fun _ h9 => h9) dX9_roomHere_2 (fun a1 e_a1 g_a1 => ?_)
  refine lv_bipush (v := 8) hx hb dX9_roomHere_5 (by decide) ?_
  refine lv_aload_n hx hb dX9_roomHere_7 rfl (lv_at hl 0 rfl) ?_
  refine h_geti (lo := 0) (hi := 1) hx hb hts iX9_roomHere_X9 hown hK hI g_y (by decide) rfl rfl 36 (by decide) rfl rfl (hts (.fieldLink RX9 259 "CatLeasesModel" "rb" "I") (List.mem_of_getElem? (i := 2) rfl)) (fun _ h9 => h9) dX9_roomHere_8 (fun v2 e_v2 i_v2 => ?_)
  refine lv_imul hx hb dX9_roomHere_11 ?_
  refine h_nm (lo := 0) (hi := 8) (iv_mul kc_8 i_v2 (by decide) (by decide) (by decide) (by decide) (by decide)) (fun v3 e_v3 i_v3 => ?_)
  refine lv_aload_n hx hb dX9_roomHere_12 rfl (lv_at hl 0 rfl) ?_
  refine h_getr hx hb hts iX9_roomHere_X9 hown hK hI g_y (by decide) rfl rfl 12 (by decide) rfl 112 rfl (hts (.fieldLink RX9 24 "CatLeasesModel" "rooms" "[I") (List.mem_of_getElem? (i := 3) rfl)) (fun _ h9 => h9) dX9_roomHere_13 (fun a4 e_a4 g_a4 => ?_)
  refine lv_aload_n hx hb dX9_roomHere_16 rfl (lv_at hl 0 rfl) ?_
  refine h_geti (lo := 0) (hi := 1) hx hb hts iX9_roomHere_X9 hown hK hI g_y (by decide) rfl rfl 36 (by decide) rfl rfl (hts (.fieldLink RX9 259 "CatLeasesModel" "rb" "I") (List.mem_of_getElem? (i := 2) rfl)) (fun _ h9 => h9) dX9_roomHere_17 (fun v5 e_v5 i_v5 => ?_)
  have q6 : v2 = v5 := (e_v2).trans e_v5.symm
  subst q6
  refine h_iald (j := v2.toNatClampNeg) (lo := 0) (hi := 8) hx hb hK hI g_a4 (by decide) rfl (iv_in (n := 2) i_v2 (by decide) (by decide)) rfl (hI.iv1 (n := 2) g_a4 rfl (in_lt (iv_in (n := 2) i_v2 (by decide) (by decide))) rfl) dX9_roomHere_20 (fun v7 e_v7 i_v7 => ?_)
  refine h_goi hI (by decide) (va_runV (As := [.ref a1, .int v3, .int v7]) (rest := []) ⟨hx, hb, hml, hown, hts⟩ (h_here_128 l D g σ Z hZ0 M N R y g_y a1 g_a1 v3 i_v3 v7 i_v7) (cwV 3 hts gX9_roomHere_X9_here rfl rfl rfl (by decide +kernel) ⟨Nat.le_of_ble_eq_true rfl, Nat.le_of_ble_eq_true rfl⟩) (h_preV hZ0 hK hE hI g_y (by decide) rfl) rfl rfl hl.1 rfl (lv_room (Nat.le_of_ble_eq_true rfl)) dX9_roomHere_21 ⟨Nat.le_of_ble_eq_true rfl, Nat.le_of_ble_eq_true rfl⟩) (fun r8 M9 N10 R11 H locs q12 z_M9 hI => ?_)
  obtain ⟨rfl, rfl, rfl, i_r8, z13⟩ := q12
  exact h_iret hQ hx hb hr hlocks rfl hK hI ⟨rfl, rfl, rfl, i_r8, (by rw [← (show v7 = M (R y 12) (rbN M y) by rw [e_v7, e_a4, rbN, ← (show v2 = M y 36 from e_v2)])]; exact z13)⟩ dX9_roomHere_24
abbrev e_h_fresh_X9 : List (Nat × Nat) := [(9, 4), (9, 5), (9, 6), (9, 7), (9, 8), (9, 9)]
set_option maxHeartbeats 4000000 in
set_option maxRecDepth 100000 in
theorem h_fresh_X9 (l : Launch) (D : va_G) (g : Nat → ClassId) (σ : Nat → Option Nat) (Z : State → Heap → Prop) (hZ0 : hZ σ Z) (M : hM) (N : hN) (R : hR) (y : Nat) (g_y : σ y = some 9) (p1 : Int32) (h_p1 : iv p1 (-1) 7) (m0_PI : PI M y) : Met l yX9_fresh wsX9_fresh ({ frames := 2, cells := 0, slots := 0, locals := 44 }) (va_Pc [.ref y, .int p1] (hPre D g σ Z M N R)) (hQl D g σ e_h_fresh_X9 M (fun (r : Int64) (M1 : hM) (N1 : hN) (R1 : hR) => R = R1 ∧ (PI M1 y) ∧ (PN M M1 y))) 0 0 (hA σ) := by
  refine h_head (cc := cX9_fresh) (maxL := 4) (ret := (some .long)) (by decide) rfl (Nat.le_of_ble_eq_true rfl) e_h_fresh_X9 ?_
  intro p e s m below meth c ls Q ar hQ hx hb hr hlocks hml hown hts hK hE H locs hI hl
  have hown : s.vm.findClass RX9 = some m.cls := hown
  have hl : lv_has ls 4 [(0, .ref y), (1, .int p1)] := hl
  refine lv_aload_n hx hb dX9_fresh_0 rfl (lv_at hl 0 rfl) ?_
  refine h_goi hI (by decide) (va_runV (As := []) (rest := []) ⟨hx, hb, hml, hown, hts⟩ (h_isGood_X9 l D g σ Z hZ0 M N R y g_y) (cwV 0 hts gX9_fresh_X9_isGood rfl rfl rfl (by decide +kernel) ⟨Nat.le_of_ble_eq_true rfl, Nat.le_of_ble_eq_true rfl⟩) (h_preV hZ0 hK hE hI g_y (by decide) rfl) rfl rfl hl.1 rfl (lv_room (Nat.le_of_ble_eq_true rfl)) dX9_fresh_1 ⟨Nat.le_of_ble_eq_true rfl, Nat.le_of_ble_eq_true rfl⟩) (fun r1 M2 N3 R4 H locs q5 z_M2 hI => ?_)
  obtain ⟨rfl, rfl, rfl, i_r1, z6, z7⟩ := q5
  refine lv_if_ne (tgt := 9) hx hb dX9_fresh_4 (by decide) (fun c8 => ?_) (fun c8 => ?_)
  · obtain ⟨v9, e_v9⟩ : ∃ z : Int32, z = M y 4 := ⟨_, rfl⟩
    have i_v9 : iv v9 0 5 := by rw [e_v9]; exact hI.iv1 (n := 67) g_y rfl (by decide) rfl
    have i10 : iv v9 0 0 := by rw [e_v9, z6 c8]; exact kc_0
    have i11 : iv r1 1 1 := iv_neL c8 i_r1 (by decide) (by decide)
    refine lv_aload_n hx hb dX9_fresh_9 rfl (lv_at hl 0 rfl) ?_
    refine h_geti (lo := (-2147483648)) (hi := 2147483647) hx hb hts iX9_fresh_X9 hown hK hI g_y (by decide) rfl rfl 8 (by decide) rfl rfl (hts (.fieldLink RX9 206 "CatLeasesModel" "token" "I") (List.mem_of_getElem? (i := 1) rfl)) (fun _ h9 => h9) dX9_fresh_10 (fun v12 e_v12 i_v12 => ?_)
    refine lv_iconst (v := 2) hx hb dX9_fresh_13 (by decide) ?_
    have J37 : ∀ (M_37 : hM) (H : Heap) (locs : List Loc) (ls : Array Slot), kI D g σ e_h_fresh_X9 M s.heap M_37 N R H locs → lv_has ls 4 [(0, .ref y)] → v12 = M_37 y 8 → PI M_37 y → PN M M_37 y → W p l e (headSpec wsX9_fresh ({ frames := 2, cells := 0, slots := 0, locals := 44 })).room s m ar below meth c H locs 0 0 Q (F0 m 37 ls []) := by
      intro M_37 H locs ls hI hl k0_37 m_PI_37 m_PN_37
      refine lv_aload_n hx hb dX9_fresh_37 rfl (lv_at hl 0 rfl) ?_
      refine h_getl hx hb hts iX9_fresh_X9 hown hK hI g_y (by decide) rfl rfl 10 (by decide) rfl  (hts (.fieldLink RX9 213 "CatLeasesModel" "name" "J") (List.mem_of_getElem? (i := 3) rfl)) (fun _ h9 => h9) dX9_fresh_38 (fun w13 e_w13 => ?_)
      refine lv_lstore_n (lv' := [(2, .long w13), (0, .ref y)]) hx hb dX9_fresh_41 rfl hl (by decide) rfl (fun ls hl => ?_)
      refine lv_aload_n hx hb dX9_fresh_42 rfl (lv_at hl 1 rfl) ?_
      refine h_goi hI (by decide) (va_runV (As := []) (rest := []) ⟨hx, hb, hml, hown, hts⟩ (h_isGood_X9 l D g σ Z hZ0 M_37 N R y g_y) (cwV 0 hts gX9_fresh_X9_isGood rfl rfl rfl (by decide +kernel) ⟨Nat.le_of_ble_eq_true rfl, Nat.le_of_ble_eq_true rfl⟩) (h_preV hZ0 hK hE hI g_y (by decide) rfl) rfl rfl hl.1 rfl (lv_room (Nat.le_of_ble_eq_true rfl)) dX9_fresh_43 ⟨Nat.le_of_ble_eq_true rfl, Nat.le_of_ble_eq_true rfl⟩) (fun r14 M15 N16 R17 H locs q18 z_M15 hI => ?_)
      obtain ⟨rfl, rfl, rfl, i_r14, z19, z20⟩ := q18
      refine lv_if_eq (tgt := 53) hx hb dX9_fresh_46 (by decide) (fun c21 => ?_) (fun c21 => ?_)
      · obtain ⟨v22, e_v22⟩ : ∃ z : Int32, z = M_37 y 4 := ⟨_, rfl⟩
        have i_v22 : iv v22 0 5 := by rw [e_v22]; exact hI.iv1 (n := 67) g_y rfl (by decide) rfl
        have i23 : iv v22 1 5 := iv_neL (fun h9 => z20 c21 (e_v22.symm.trans h9)) i_v22 (by decide) (by decide)
        have i24 : iv r14 0 0 := iv_eq1 c21 i_r14 kc_0
        refine lv_lload_n hx hb dX9_fresh_53 rfl (lv_at hl 0 rfl) ?_
        exact h_lret hQ hx hb hr hlocks hK hI ⟨rfl, m_PI_37, m_PN_37⟩ dX9_fresh_54
      · obtain ⟨v25, e_v25⟩ : ∃ z : Int32, z = M_37 y 4 := ⟨_, rfl⟩
        have i_v25 : iv v25 0 5 := by rw [e_v25]; exact hI.iv1 (n := 67) g_y rfl (by decide) rfl
        have i26 : iv v25 0 0 := by rw [e_v25, z19 c21]; exact kc_0
        have i27 : iv r14 1 1 := iv_neL c21 i_r14 (by decide) (by decide)
        refine lv_aload_n hx hb dX9_fresh_49 rfl (lv_at hl 1 rfl) ?_
        refine h_gov hI (by decide) (va_runV (As := []) (rest := []) ⟨hx, hb, hml, hown, hts⟩ (h_goOn_X9 l D g σ Z hZ0 M_37 N R y g_y m_PI_37) (cwV 0 hts gX9_fresh_X9_goOn rfl rfl rfl (by decide +kernel) ⟨Nat.le_of_ble_eq_true rfl, Nat.le_of_ble_eq_true rfl⟩) (h_preV hZ0 hK hE hI g_y (by decide) rfl) rfl rfl hl.1 rfl (lv_room (Nat.le_of_ble_eq_true rfl)) dX9_fresh_50 ⟨Nat.le_of_ble_eq_true rfl, Nat.le_of_ble_eq_true rfl⟩) (fun M29 N30 R31 H locs q32 z_M29 hI => ?_)
        obtain ⟨rfl, z33, z34, z35⟩ := q32
        refine lv_lload_n hx hb dX9_fresh_53 rfl (lv_at hl 0 rfl) ?_
        have m36 : PN M M29 y := (PN_tr m_PN_37 z34)
        exact h_lret hQ hx hb hr hlocks hK hI ⟨rfl, z33, m36⟩ dX9_fresh_54
    refine lv_icmp_eq (tgt := 24) hx hb dX9_fresh_14 (by decide) (fun c37 => ?_) (fun c37 => ?_)
    · have i38 : iv v12 2 2 := iv_eq1 c37 i_v12 kc_2
      refine lv_iload_n hx hb dX9_fresh_24 rfl (lv_at hl 1 rfl) ?_
      refine lv_if_lt (tgt := 37) hx hb dX9_fresh_25 (by decide) (fun c39 => ?_) (fun c39 => ?_)
      · have i40 : iv p1 (-1) (-1) := iv_lt1 c39 h_p1 kc_0 (by decide)
        exact J37 M H locs ls hI (lv_sub hl [0] rfl) (e_v12) m0_PI PN_rf
      · have i41 : iv p1 0 7 := iv_nlt1 c39 h_p1 kc_0 (by decide)
        refine lv_aload_n hx hb dX9_fresh_28 rfl (lv_at hl 0 rfl) ?_
        refine lv_iconst (v := 3) hx hb dX9_fresh_29 (by decide) ?_
        refine lv_aload_n hx hb dX9_fresh_30 rfl (lv_at hl 0 rfl) ?_
        refine h_geti (lo := 0) (hi := 1600) hx hb hts iX9_fresh_X9 hown hK hI g_y (by decide) rfl rfl 6 (by decide) rfl rfl (hts (.fieldLink RX9 199 "CatLeasesModel" "at" "I") (List.mem_of_getElem? (i := 2) rfl)) (fun _ h9 => h9) dX9_fresh_31 (fun v42 e_v42 i_v42 => ?_)
        refine h_gov hI (by decide) (va_runV (As := [.int (3 : Int32), .int v42]) (rest := []) ⟨hx, hb, hml, hown, hts⟩ (h_fails_X9 l D g σ Z hZ0 M N R y g_y (3 : Int32) (iv_w (lo' := 1) (hi' := 5) kc_3 (by decide) (by decide)) v42 m0_PI) (cwV 2 hts gX9_fresh_X9_fails rfl rfl rfl (by decide +kernel) ⟨Nat.le_of_ble_eq_true rfl, Nat.le_of_ble_eq_true rfl⟩) (h_preV hZ0 hK hE hI g_y (by decide) rfl) rfl rfl hl.1 rfl (lv_room (Nat.le_of_ble_eq_true rfl)) dX9_fresh_34 ⟨Nat.le_of_ble_eq_true rfl, Nat.le_of_ble_eq_true rfl⟩) (fun M44 N45 R46 H locs q47 z_M44 hI => ?_)
        obtain ⟨rfl, rfl, m48, m49, z50⟩ := q47
        obtain ⟨v51, e_v51⟩ : ∃ z : Int32, z = M44 y 4 := ⟨_, rfl⟩
        have i_v51 : iv v51 1 5 := by rw [e_v51]; exact z50
        have m52 : PN M M44 y := (PN_tr PN_rf m49)
        exact J37 M44 H locs ls hI (lv_sub hl [0] rfl) ((e_v12).trans (z_M44 y 9 8 g_y rfl).symm) m48 m52
    · refine lv_aload_n hx hb dX9_fresh_17 rfl (lv_at hl 0 rfl) ?_
      refine h_gov hI (by decide) (va_runV (As := []) (rest := []) ⟨hx, hb, hml, hown, hts⟩ (h_misplaced_X9 l D g σ Z hZ0 M N R y g_y m0_PI) (cwV 0 hts gX9_fresh_X9_misplaced rfl rfl rfl (by decide +kernel) ⟨Nat.le_of_ble_eq_true rfl, Nat.le_of_ble_eq_true rfl⟩) (h_preV hZ0 hK hE hI g_y (by decide) rfl) rfl rfl hl.1 rfl (lv_room (Nat.le_of_ble_eq_true rfl)) dX9_fresh_18 ⟨Nat.le_of_ble_eq_true rfl, Nat.le_of_ble_eq_true rfl⟩) (fun M54 N55 R56 H locs q57 z_M54 hI => ?_)
      obtain ⟨rfl, rfl, m58, m59, z60⟩ := q57
      obtain ⟨v61, e_v61⟩ : ∃ z : Int32, z = M54 y 4 := ⟨_, rfl⟩
      have i_v61 : iv v61 1 5 := by rw [e_v61]; exact z60
      refine lv_goto (tgt := 37) hx hb dX9_fresh_21 (by decide) ?_
      have m62 : PN M M54 y := (PN_tr PN_rf m59)
      exact J37 M54 H locs ls hI (lv_sub hl [0] rfl) ((e_v12).trans (z_M54 y 9 8 g_y rfl).symm) m58 m62
  · obtain ⟨v63, e_v63⟩ : ∃ z : Int32, z = M y 4 := ⟨_, rfl⟩
    have i_v63 : iv v63 0 5 := by rw [e_v63]; exact hI.iv1 (n := 67) g_y rfl (by decide) rfl
    have i64 : iv v63 1 5 := iv_neL (fun h9 => z7 c8 (e_v63.symm.trans h9)) i_v63 (by decide) (by decide)
    have i65 : iv r1 0 0 := iv_eq1 c8 i_r1 kc_0
    refine lv_lconst (v := 0) hx hb dX9_fresh_7 (by decide) ?_
    exact h_lret hQ hx hb hr hlocks hK hI ⟨rfl, m0_PI, PN_rf⟩ dX9_fresh_8
abbrev e_h_known_5 : List (Nat × Nat) := [(9, 4), (9, 5), (9, 6), (9, 7), (9, 8), (9, 9)]
set_option maxHeartbeats 4000000 in
set_option maxRecDepth 100000 in
theorem h_known_5 (l : Launch) (D : va_G) (g : Nat → ClassId) (σ : Nat → Option Nat) (Z : State → Heap → Prop) (hZ0 : hZ σ Z) (M : hM) (N : hN) (R : hR) (y : Nat) (g_y : σ y = some 9) (p1 : Int32) (h_p1 : iv p1 (-1) 5) (m0_PI : PI M y) : Met l yX9_known wsX9_known ({ frames := 2, cells := 0, slots := 0, locals := 44 }) (va_Pc [.ref y, .int p1] (hPre D g σ Z M N R)) (hQi D g σ e_h_known_5 M (fun (r : Int32) (M1 : hM) (N1 : hN) (R1 : hR) => R = R1 ∧ iv r 0 5 ∧ (PI M1 y) ∧ (PN M M1 y) ∧ (M1 y 4 = 0 → 0 ≤ p1.toInt ∧ r = p1))) 0 0 (hA σ) := by
  refine h_head (cc := cX9_known) (maxL := 2) (ret := (some .int)) (by decide) rfl (Nat.le_of_ble_eq_true rfl) e_h_known_5 ?_
  intro p e s m below meth c ls Q ar hQ hx hb hr hlocks hml hown hts hK hE H locs hI hl
  have hown : s.vm.findClass RX9 = some m.cls := hown
  have hl : lv_has ls 2 [(0, .ref y), (1, .int p1)] := hl
  refine lv_aload_n hx hb dX9_known_0 rfl (lv_at hl 0 rfl) ?_
  refine h_goi hI (by decide) (va_runV (As := []) (rest := []) ⟨hx, hb, hml, hown, hts⟩ (h_isGood_X9 l D g σ Z hZ0 M N R y g_y) (cwV 0 hts gX9_known_X9_isGood rfl rfl rfl (by decide +kernel) ⟨Nat.le_of_ble_eq_true rfl, Nat.le_of_ble_eq_true rfl⟩) (h_preV hZ0 hK hE hI g_y (by decide) rfl) rfl rfl hl.1 rfl (lv_room (Nat.le_of_ble_eq_true rfl)) dX9_known_1 ⟨Nat.le_of_ble_eq_true rfl, Nat.le_of_ble_eq_true rfl⟩) (fun r1 M2 N3 R4 H locs q5 z_M2 hI => ?_)
  obtain ⟨rfl, rfl, rfl, i_r1, z6, z7⟩ := q5
  refine lv_if_ne (tgt := 9) hx hb dX9_known_4 (by decide) (fun c8 => ?_) (fun c8 => ?_)
  · obtain ⟨v9, e_v9⟩ : ∃ z : Int32, z = M y 4 := ⟨_, rfl⟩
    have i_v9 : iv v9 0 5 := by rw [e_v9]; exact hI.iv1 (n := 67) g_y rfl (by decide) rfl
    have i10 : iv v9 0 0 := by rw [e_v9, z6 c8]; exact kc_0
    have i11 : iv r1 1 1 := iv_neL c8 i_r1 (by decide) (by decide)
    refine lv_aload_n hx hb dX9_known_9 rfl (lv_at hl 0 rfl) ?_
    refine h_geti (lo := (-2147483648)) (hi := 2147483647) hx hb hts iX9_known_X9 hown hK hI g_y (by decide) rfl rfl 8 (by decide) rfl rfl (hts (.fieldLink RX9 206 "CatLeasesModel" "token" "I") (List.mem_of_getElem? (i := 1) rfl)) (fun _ h9 => h9) dX9_known_10 (fun v12 e_v12 i_v12 => ?_)
    refine lv_iconst (v := 2) hx hb dX9_known_13 (by decide) ?_
    have J44 : ∀ (M_44 : hM) (N_44 : hN) (H : Heap) (locs : List Loc) (ls : Array Slot), kI D g σ e_h_known_5 M s.heap M_44 N_44 R H locs → lv_has ls 2 [(1, .int p1)] → PI M_44 y → PN M M_44 y → (M_44 y 4 = 0 → 0 ≤ p1.toInt) → W p l e (headSpec wsX9_known ({ frames := 2, cells := 0, slots := 0, locals := 44 })).room s m ar below meth c H locs 0 0 Q (F0 m 44 ls []) := by
      intro M_44 N_44 H locs ls hI hl m_PI_44 m_PN_44 hk_44
      refine lv_iload_n hx hb dX9_known_44 rfl (lv_at hl 0 rfl) ?_
      refine lv_if_ge (tgt := 52) hx hb dX9_known_45 (by decide) (fun c13 => ?_) (fun c13 => ?_)
      · have i14 : iv p1 0 5 := iv_le2 c13 kc_0 h_p1 (by decide)
        refine lv_iload_n hx hb dX9_known_52 rfl (lv_at hl 0 rfl) ?_
        exact h_iret hQ hx hb hr hlocks rfl hK hI ⟨rfl, i14, m_PI_44, m_PN_44, (fun h9 => ⟨hk_44 h9, rfl⟩)⟩ dX9_known_53
      · have i15 : iv p1 (-1) (-1) := iv_nle2 c13 kc_0 h_p1 (by decide)
        refine lv_iconst (v := 0) hx hb dX9_known_48 (by decide) ?_
        refine lv_goto (tgt := 53) hx hb dX9_known_49 (by decide) ?_
        exact h_iret hQ hx hb hr hlocks rfl hK hI ⟨rfl, (iv_w (lo' := 0) (hi' := 5) kc_0 (by decide) (by decide)), m_PI_44, m_PN_44, (fun h9 => absurd (hk_44 h9) (by have h8 := i15; simp only [iv] at h8; omega))⟩ dX9_known_53
    refine lv_icmp_eq (tgt := 24) hx hb dX9_known_14 (by decide) (fun c16 => ?_) (fun c16 => ?_)
    · have i17 : iv v12 2 2 := iv_eq1 c16 i_v12 kc_2
      refine lv_iload_n hx hb dX9_known_24 rfl (lv_at hl 1 rfl) ?_
      refine lv_if_ge (tgt := 40) hx hb dX9_known_25 (by decide) (fun c18 => ?_) (fun c18 => ?_)
      · have i19 : iv p1 0 5 := iv_le2 c18 kc_0 h_p1 (by decide)
        refine lv_aload_n hx hb dX9_known_40 rfl (lv_at hl 0 rfl) ?_
        refine h_gov hI (by decide) (va_runV (As := []) (rest := []) ⟨hx, hb, hml, hown, hts⟩ (h_goOn_X9 l D g σ Z hZ0 M N R y g_y m0_PI) (cwV 0 hts gX9_known_X9_goOn rfl rfl rfl (by decide +kernel) ⟨Nat.le_of_ble_eq_true rfl, Nat.le_of_ble_eq_true rfl⟩) (h_preV hZ0 hK hE hI g_y (by decide) rfl) rfl rfl hl.1 rfl (lv_room (Nat.le_of_ble_eq_true rfl)) dX9_known_41 ⟨Nat.le_of_ble_eq_true rfl, Nat.le_of_ble_eq_true rfl⟩) (fun M21 N22 R23 H locs q24 z_M21 hI => ?_)
        obtain ⟨rfl, z25, z26, z27⟩ := q24
        have m28 : PN M M21 y := (PN_tr PN_rf z26)
        exact J44 M21 N22 H locs ls hI (lv_sub hl [1] rfl) z25 m28 (fun _ => ((iv_w (lo' := 0) (hi' := 7) i19 (by decide) (by decide))).1)
      · have i29 : iv p1 (-1) (-1) := iv_nle2 c18 kc_0 h_p1 (by decide)
        refine lv_aload_n hx hb dX9_known_28 rfl (lv_at hl 0 rfl) ?_
        refine lv_iconst (v := 5) hx hb dX9_known_29 (by decide) ?_
        refine lv_aload_n hx hb dX9_known_30 rfl (lv_at hl 0 rfl) ?_
        refine h_geti (lo := 0) (hi := 1600) hx hb hts iX9_known_X9 hown hK hI g_y (by decide) rfl rfl 6 (by decide) rfl rfl (hts (.fieldLink RX9 199 "CatLeasesModel" "at" "I") (List.mem_of_getElem? (i := 2) rfl)) (fun _ h9 => h9) dX9_known_31 (fun v30 e_v30 i_v30 => ?_)
        refine h_gov hI (by decide) (va_runV (As := [.int (5 : Int32), .int v30]) (rest := []) ⟨hx, hb, hml, hown, hts⟩ (h_fails_X9 l D g σ Z hZ0 M N R y g_y (5 : Int32) (iv_w (lo' := 1) (hi' := 5) kc_5 (by decide) (by decide)) v30 m0_PI) (cwV 2 hts gX9_known_X9_fails rfl rfl rfl (by decide +kernel) ⟨Nat.le_of_ble_eq_true rfl, Nat.le_of_ble_eq_true rfl⟩) (h_preV hZ0 hK hE hI g_y (by decide) rfl) rfl rfl hl.1 rfl (lv_room (Nat.le_of_ble_eq_true rfl)) dX9_known_34 ⟨Nat.le_of_ble_eq_true rfl, Nat.le_of_ble_eq_true rfl⟩) (fun M32 N33 R34 H locs q35 z_M32 hI => ?_)
        obtain ⟨rfl, rfl, m36, m37, z38⟩ := q35
        obtain ⟨v39, e_v39⟩ : ∃ z : Int32, z = M32 y 4 := ⟨_, rfl⟩
        have i_v39 : iv v39 1 5 := by rw [e_v39]; exact z38
        refine lv_goto (tgt := 44) hx hb dX9_known_37 (by decide) ?_
        have m40 : PN M M32 y := (PN_tr PN_rf m37)
        exact J44 M32 N H locs ls hI (lv_sub hl [1] rfl) m36 m40 (fun h9 => absurd ((e_v39).trans h9) (iv_ne i_v39 kc_0 (by decide)))
    · refine lv_aload_n hx hb dX9_known_17 rfl (lv_at hl 0 rfl) ?_
      refine h_gov hI (by decide) (va_runV (As := []) (rest := []) ⟨hx, hb, hml, hown, hts⟩ (h_misplaced_X9 l D g σ Z hZ0 M N R y g_y m0_PI) (cwV 0 hts gX9_known_X9_misplaced rfl rfl rfl (by decide +kernel) ⟨Nat.le_of_ble_eq_true rfl, Nat.le_of_ble_eq_true rfl⟩) (h_preV hZ0 hK hE hI g_y (by decide) rfl) rfl rfl hl.1 rfl (lv_room (Nat.le_of_ble_eq_true rfl)) dX9_known_18 ⟨Nat.le_of_ble_eq_true rfl, Nat.le_of_ble_eq_true rfl⟩) (fun M42 N43 R44 H locs q45 z_M42 hI => ?_)
      obtain ⟨rfl, rfl, m46, m47, z48⟩ := q45
      obtain ⟨v49, e_v49⟩ : ∃ z : Int32, z = M42 y 4 := ⟨_, rfl⟩
      have i_v49 : iv v49 1 5 := by rw [e_v49]; exact z48
      refine lv_goto (tgt := 44) hx hb dX9_known_21 (by decide) ?_
      have m50 : PN M M42 y := (PN_tr PN_rf m47)
      exact J44 M42 N H locs ls hI (lv_sub hl [1] rfl) m46 m50 (fun h9 => absurd ((e_v49).trans h9) (iv_ne i_v49 kc_0 (by decide)))
  · obtain ⟨v51, e_v51⟩ : ∃ z : Int32, z = M y 4 := ⟨_, rfl⟩
    have i_v51 : iv v51 0 5 := by rw [e_v51]; exact hI.iv1 (n := 67) g_y rfl (by decide) rfl
    have i52 : iv v51 1 5 := iv_neL (fun h9 => z7 c8 (e_v51.symm.trans h9)) i_v51 (by decide) (by decide)
    have i53 : iv r1 0 0 := iv_eq1 c8 i_r1 kc_0
    refine lv_iconst (v := 0) hx hb dX9_known_7 (by decide) ?_
    exact h_iret hQ hx hb hr hlocks rfl hK hI ⟨rfl, (iv_w (lo' := 0) (hi' := 5) kc_0 (by decide) (by decide)), m0_PI, PN_rf, (fun h9 => absurd ((e_v51).trans h9) (iv_ne i52 kc_0 (by decide)))⟩ dX9_known_8
abbrev e_h_known_7 : List (Nat × Nat) := [(9, 4), (9, 5), (9, 6), (9, 7), (9, 8), (9, 9)]
set_option maxHeartbeats 4000000 in
set_option maxRecDepth 100000 in
theorem h_known_7 (l : Launch) (D : va_G) (g : Nat → ClassId) (σ : Nat → Option Nat) (Z : State → Heap → Prop) (hZ0 : hZ σ Z) (M : hM) (N : hN) (R : hR) (y : Nat) (g_y : σ y = some 9) (p1 : Int32) (h_p1 : iv p1 (-1) 7) (m0_PI : PI M y) : Met l yX9_known wsX9_known ({ frames := 2, cells := 0, slots := 0, locals := 44 }) (va_Pc [.ref y, .int p1] (hPre D g σ Z M N R)) (hQi D g σ e_h_known_7 M (fun (r : Int32) (M1 : hM) (N1 : hN) (R1 : hR) => R = R1 ∧ iv r 0 7 ∧ (PI M1 y) ∧ (PN M M1 y) ∧ (M1 y 4 = 0 → 0 ≤ p1.toInt ∧ r = p1))) 0 0 (hA σ) := by
  refine h_head (cc := cX9_known) (maxL := 2) (ret := (some .int)) (by decide) rfl (Nat.le_of_ble_eq_true rfl) e_h_known_7 ?_
  intro p e s m below meth c ls Q ar hQ hx hb hr hlocks hml hown hts hK hE H locs hI hl
  have hown : s.vm.findClass RX9 = some m.cls := hown
  have hl : lv_has ls 2 [(0, .ref y), (1, .int p1)] := hl
  refine lv_aload_n hx hb dX9_known_0 rfl (lv_at hl 0 rfl) ?_
  refine h_goi hI (by decide) (va_runV (As := []) (rest := []) ⟨hx, hb, hml, hown, hts⟩ (h_isGood_X9 l D g σ Z hZ0 M N R y g_y) (cwV 0 hts gX9_known_X9_isGood rfl rfl rfl (by decide +kernel) ⟨Nat.le_of_ble_eq_true rfl, Nat.le_of_ble_eq_true rfl⟩) (h_preV hZ0 hK hE hI g_y (by decide) rfl) rfl rfl hl.1 rfl (lv_room (Nat.le_of_ble_eq_true rfl)) dX9_known_1 ⟨Nat.le_of_ble_eq_true rfl, Nat.le_of_ble_eq_true rfl⟩) (fun r1 M2 N3 R4 H locs q5 z_M2 hI => ?_)
  obtain ⟨rfl, rfl, rfl, i_r1, z6, z7⟩ := q5
  refine lv_if_ne (tgt := 9) hx hb dX9_known_4 (by decide) (fun c8 => ?_) (fun c8 => ?_)
  · obtain ⟨v9, e_v9⟩ : ∃ z : Int32, z = M y 4 := ⟨_, rfl⟩
    have i_v9 : iv v9 0 5 := by rw [e_v9]; exact hI.iv1 (n := 67) g_y rfl (by decide) rfl
    have i10 : iv v9 0 0 := by rw [e_v9, z6 c8]; exact kc_0
    have i11 : iv r1 1 1 := iv_neL c8 i_r1 (by decide) (by decide)
    refine lv_aload_n hx hb dX9_known_9 rfl (lv_at hl 0 rfl) ?_
    refine h_geti (lo := (-2147483648)) (hi := 2147483647) hx hb hts iX9_known_X9 hown hK hI g_y (by decide) rfl rfl 8 (by decide) rfl rfl (hts (.fieldLink RX9 206 "CatLeasesModel" "token" "I") (List.mem_of_getElem? (i := 1) rfl)) (fun _ h9 => h9) dX9_known_10 (fun v12 e_v12 i_v12 => ?_)
    refine lv_iconst (v := 2) hx hb dX9_known_13 (by decide) ?_
    have J44 : ∀ (M_44 : hM) (N_44 : hN) (H : Heap) (locs : List Loc) (ls : Array Slot), kI D g σ e_h_known_7 M s.heap M_44 N_44 R H locs → lv_has ls 2 [(1, .int p1)] → PI M_44 y → PN M M_44 y → (M_44 y 4 = 0 → 0 ≤ p1.toInt) → W p l e (headSpec wsX9_known ({ frames := 2, cells := 0, slots := 0, locals := 44 })).room s m ar below meth c H locs 0 0 Q (F0 m 44 ls []) := by
      intro M_44 N_44 H locs ls hI hl m_PI_44 m_PN_44 hk_44
      refine lv_iload_n hx hb dX9_known_44 rfl (lv_at hl 0 rfl) ?_
      refine lv_if_ge (tgt := 52) hx hb dX9_known_45 (by decide) (fun c13 => ?_) (fun c13 => ?_)
      · have i14 : iv p1 0 7 := iv_le2 c13 kc_0 h_p1 (by decide)
        refine lv_iload_n hx hb dX9_known_52 rfl (lv_at hl 0 rfl) ?_
        exact h_iret hQ hx hb hr hlocks rfl hK hI ⟨rfl, i14, m_PI_44, m_PN_44, (fun h9 => ⟨hk_44 h9, rfl⟩)⟩ dX9_known_53
      · have i15 : iv p1 (-1) (-1) := iv_nle2 c13 kc_0 h_p1 (by decide)
        refine lv_iconst (v := 0) hx hb dX9_known_48 (by decide) ?_
        refine lv_goto (tgt := 53) hx hb dX9_known_49 (by decide) ?_
        exact h_iret hQ hx hb hr hlocks rfl hK hI ⟨rfl, (iv_w (lo' := 0) (hi' := 7) kc_0 (by decide) (by decide)), m_PI_44, m_PN_44, (fun h9 => absurd (hk_44 h9) (by have h8 := i15; simp only [iv] at h8; omega))⟩ dX9_known_53
    refine lv_icmp_eq (tgt := 24) hx hb dX9_known_14 (by decide) (fun c16 => ?_) (fun c16 => ?_)
    · have i17 : iv v12 2 2 := iv_eq1 c16 i_v12 kc_2
      refine lv_iload_n hx hb dX9_known_24 rfl (lv_at hl 1 rfl) ?_
      refine lv_if_ge (tgt := 40) hx hb dX9_known_25 (by decide) (fun c18 => ?_) (fun c18 => ?_)
      · have i19 : iv p1 0 7 := iv_le2 c18 kc_0 h_p1 (by decide)
        refine lv_aload_n hx hb dX9_known_40 rfl (lv_at hl 0 rfl) ?_
        refine h_gov hI (by decide) (va_runV (As := []) (rest := []) ⟨hx, hb, hml, hown, hts⟩ (h_goOn_X9 l D g σ Z hZ0 M N R y g_y m0_PI) (cwV 0 hts gX9_known_X9_goOn rfl rfl rfl (by decide +kernel) ⟨Nat.le_of_ble_eq_true rfl, Nat.le_of_ble_eq_true rfl⟩) (h_preV hZ0 hK hE hI g_y (by decide) rfl) rfl rfl hl.1 rfl (lv_room (Nat.le_of_ble_eq_true rfl)) dX9_known_41 ⟨Nat.le_of_ble_eq_true rfl, Nat.le_of_ble_eq_true rfl⟩) (fun M21 N22 R23 H locs q24 z_M21 hI => ?_)
        obtain ⟨rfl, z25, z26, z27⟩ := q24
        have m28 : PN M M21 y := (PN_tr PN_rf z26)
        exact J44 M21 N22 H locs ls hI (lv_sub hl [1] rfl) z25 m28 (fun _ => (i19).1)
      · have i29 : iv p1 (-1) (-1) := iv_nle2 c18 kc_0 h_p1 (by decide)
        refine lv_aload_n hx hb dX9_known_28 rfl (lv_at hl 0 rfl) ?_
        refine lv_iconst (v := 5) hx hb dX9_known_29 (by decide) ?_
        refine lv_aload_n hx hb dX9_known_30 rfl (lv_at hl 0 rfl) ?_
        refine h_geti (lo := 0) (hi := 1600) hx hb hts iX9_known_X9 hown hK hI g_y (by decide) rfl rfl 6 (by decide) rfl rfl (hts (.fieldLink RX9 199 "CatLeasesModel" "at" "I") (List.mem_of_getElem? (i := 2) rfl)) (fun _ h9 => h9) dX9_known_31 (fun v30 e_v30 i_v30 => ?_)
        refine h_gov hI (by decide) (va_runV (As := [.int (5 : Int32), .int v30]) (rest := []) ⟨hx, hb, hml, hown, hts⟩ (h_fails_X9 l D g σ Z hZ0 M N R y g_y (5 : Int32) (iv_w (lo' := 1) (hi' := 5) kc_5 (by decide) (by decide)) v30 m0_PI) (cwV 2 hts gX9_known_X9_fails rfl rfl rfl (by decide +kernel) ⟨Nat.le_of_ble_eq_true rfl, Nat.le_of_ble_eq_true rfl⟩) (h_preV hZ0 hK hE hI g_y (by decide) rfl) rfl rfl hl.1 rfl (lv_room (Nat.le_of_ble_eq_true rfl)) dX9_known_34 ⟨Nat.le_of_ble_eq_true rfl, Nat.le_of_ble_eq_true rfl⟩) (fun M32 N33 R34 H locs q35 z_M32 hI => ?_)
        obtain ⟨rfl, rfl, m36, m37, z38⟩ := q35
        obtain ⟨v39, e_v39⟩ : ∃ z : Int32, z = M32 y 4 := ⟨_, rfl⟩
        have i_v39 : iv v39 1 5 := by rw [e_v39]; exact z38
        refine lv_goto (tgt := 44) hx hb dX9_known_37 (by decide) ?_
        have m40 : PN M M32 y := (PN_tr PN_rf m37)
        exact J44 M32 N H locs ls hI (lv_sub hl [1] rfl) m36 m40 (fun h9 => absurd ((e_v39).trans h9) (iv_ne i_v39 kc_0 (by decide)))
    · refine lv_aload_n hx hb dX9_known_17 rfl (lv_at hl 0 rfl) ?_
      refine h_gov hI (by decide) (va_runV (As := []) (rest := []) ⟨hx, hb, hml, hown, hts⟩ (h_misplaced_X9 l D g σ Z hZ0 M N R y g_y m0_PI) (cwV 0 hts gX9_known_X9_misplaced rfl rfl rfl (by decide +kernel) ⟨Nat.le_of_ble_eq_true rfl, Nat.le_of_ble_eq_true rfl⟩) (h_preV hZ0 hK hE hI g_y (by decide) rfl) rfl rfl hl.1 rfl (lv_room (Nat.le_of_ble_eq_true rfl)) dX9_known_18 ⟨Nat.le_of_ble_eq_true rfl, Nat.le_of_ble_eq_true rfl⟩) (fun M42 N43 R44 H locs q45 z_M42 hI => ?_)
      obtain ⟨rfl, rfl, m46, m47, z48⟩ := q45
      obtain ⟨v49, e_v49⟩ : ∃ z : Int32, z = M42 y 4 := ⟨_, rfl⟩
      have i_v49 : iv v49 1 5 := by rw [e_v49]; exact z48
      refine lv_goto (tgt := 44) hx hb dX9_known_21 (by decide) ?_
      have m50 : PN M M42 y := (PN_tr PN_rf m47)
      exact J44 M42 N H locs ls hI (lv_sub hl [1] rfl) m46 m50 (fun h9 => absurd ((e_v49).trans h9) (iv_ne i_v49 kc_0 (by decide)))
  · obtain ⟨v51, e_v51⟩ : ∃ z : Int32, z = M y 4 := ⟨_, rfl⟩
    have i_v51 : iv v51 0 5 := by rw [e_v51]; exact hI.iv1 (n := 67) g_y rfl (by decide) rfl
    have i52 : iv v51 1 5 := iv_neL (fun h9 => z7 c8 (e_v51.symm.trans h9)) i_v51 (by decide) (by decide)
    have i53 : iv r1 0 0 := iv_eq1 c8 i_r1 kc_0
    refine lv_iconst (v := 0) hx hb dX9_known_7 (by decide) ?_
    exact h_iret hQ hx hb hr hlocks rfl hK hI ⟨rfl, (iv_w (lo' := 0) (hi' := 7) kc_0 (by decide) (by decide)), m0_PI, PN_rf, (fun h9 => absurd ((e_v51).trans h9) (iv_ne i52 kc_0 (by decide)))⟩ dX9_known_8
