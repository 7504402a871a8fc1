abbrev e_h_readTerm_0 : List (Nat × Nat) := [(2, 2), (4, 4), (5, 1), (5, 2), (5, 10), (5, 11), (5, 12), (5, 13), (17, 999)]
set_option maxHeartbeats 4000000 in
set_option maxRecDepth 100000 in
theorem h_readTerm_0 (l : Launch) (D : va_G) (g : Nat → ClassId) (σ : Nat → Option Nat) (Z : State → Heap → Prop) (hZ0 : hZ σ Z) (M : hM) (N : hN) (R : hR) (a : Nat) (g_a : σ a = some 5) (p1 : Int32) (h_p1 : iv p1 0 0) : Met l yX5_readTerm wsX5_readTerm ({ frames := 55, cells := 0, slots := 0, locals := 1254 }) (va_Pc [.ref a, .int p1] (hPre D g σ Z M N R)) (hQi D g σ e_h_readTerm_0 M (fun (r : Int32) (M1 : hM) (N1 : hN) (R1 : hR) => R = R1 ∧ iv r 0 1)) 0 0 (hA σ) := by
  refine h_head (cc := cX5_readTerm) (maxL := 5) (ret := (some .boolean)) (by decide) rfl (Nat.le_of_ble_eq_true rfl) e_h_readTerm_0 ?_
  intro p e s m below meth c ls Q ar hQ hx hb hr hlocks hml hown hts hK hE H locs hI hl
  have hown : s.vm.findClass RX5 = some m.cls := hown
  have hl : lv_has ls 5 [(0, .ref a), (1, .int p1)] := hl
  refine lv_aload_n hx hb dX5_readTerm_0 rfl (lv_at hl 0 rfl) ?_
  refine lv_iload_n hx hb dX5_readTerm_1 rfl (lv_at hl 1 rfl) ?_
  refine h_goi hI (by decide) (va_runV (As := [.int p1]) (rest := []) ⟨hx, hb, hml, hown, hts⟩ (h_readUnit_0 l D g σ Z hZ0 M N R a g_a p1 h_p1) (cwV 1 hts gX5_readTerm_X5_readUnit rfl rfl rfl (by decide +kernel) ⟨Nat.le_of_ble_eq_true rfl, Nat.le_of_ble_eq_true rfl⟩) (h_preV hZ0 hK hE hI g_a (by decide) rfl) rfl rfl hl.1 rfl (lv_room (Nat.le_of_ble_eq_true rfl)) dX5_readTerm_2 ⟨Nat.le_of_ble_eq_true rfl, Nat.le_of_ble_eq_true rfl⟩) (fun r1 M2 N3 R4 H locs q5 z_M2 hI => ?_)
  obtain ⟨rfl, i_r1⟩ := q5
  refine lv_istore_n (lv' := [(2, .int r1), (0, .ref a), (1, .int p1)]) hx hb dX5_readTerm_5 rfl hl (by decide) rfl (fun ls hl => ?_)
  refine lv_iconst (v := 0) hx hb dX5_readTerm_6 (by decide) ?_
  have J8 : ∀ (n : Nat) (M_8 : hM) (N_8 : hN) (v2_8 : Int32) (v3_8 : Int32) (H : Heap) (locs : List Loc) (ls : Array Slot), kI D g σ e_h_readTerm_0 M s.heap M_8 N_8 R H locs → lv_has ls 5 [(0, .ref a), (1, .int p1), (2, .int v2_8), (3, .int v3_8)] → iv v2_8 0 1 → iv v3_8 0 30 → 31 ≤ v3_8.toInt + (n : Int) → W p l e (headSpec wsX5_readTerm ({ frames := 55, cells := 0, slots := 0, locals := 1254 })).room s m ar below meth c H locs 0 0 Q (F0 m 8 ls []) := by
    intro n
    induction n with
    | zero => intro M_8 N_8 v2_8 v3_8 H locs ls hI hl i_v2_8 i_v3_8 hn; exfalso; have hz := i_v3_8; simp only [iv] at hz; omega
    | succ n ih8 =>
      intro M_8 N_8 v2_8 v3_8 H locs ls hI hl i_v2_8 i_v3_8 hn8
      refine lv_iload_n hx hb dX5_readTerm_8 rfl (lv_at hl 3 rfl) ?_
      refine lv_bipush (v := 30) hx hb dX5_readTerm_9 (by decide) ?_
      refine lv_icmp_ge (tgt := 65) hx hb dX5_readTerm_11 (by decide) (fun c6 => ?_) (fun c6 => ?_)
      · have i7 : iv v3_8 30 30 := iv_le2 c6 kc_30 i_v3_8 (by decide)
        refine lv_iload_n hx hb dX5_readTerm_65 rfl (lv_at hl 2 rfl) ?_
        exact h_iret hQ hx hb hr hlocks (nar_z i_v2_8) hK hI ⟨rfl, i_v2_8⟩ dX5_readTerm_66
      · have i8 : iv v3_8 0 29 := iv_nle2 c6 kc_30 i_v3_8 (by decide)
        refine lv_iload_n hx hb dX5_readTerm_14 rfl (lv_at hl 2 rfl) ?_
        refine lv_if_eq (tgt := 65) hx hb dX5_readTerm_15 (by decide) (fun c9 => ?_) (fun c9 => ?_)
        · have i10 : iv v2_8 0 0 := iv_eq1 c9 i_v2_8 kc_0
          refine lv_iload_n hx hb dX5_readTerm_65 rfl (lv_at hl 2 rfl) ?_
          exact h_iret hQ hx hb hr hlocks (nar_z (iv_w (lo' := 0) (hi' := 1) i10 (by decide) (by decide))) hK hI ⟨rfl, (iv_w (lo' := 0) (hi' := 1) i10 (by decide) (by decide))⟩ dX5_readTerm_66
        · have i11 : iv v2_8 1 1 := iv_neL c9 i_v2_8 (by decide) (by decide)
          refine lv_aload_n hx hb dX5_readTerm_18 rfl (lv_at hl 0 rfl) ?_
          refine h_geti (lo := (-2147483648)) (hi := 2147483647) hx hb hts iX5_readTerm_X5 hown hK hI g_a (by decide) rfl rfl 12 (by decide) rfl rfl (hts (.fieldLink RX5 54 "CatLeases$Reader" "kind" "I") (List.mem_of_getElem? (i := 1) rfl)) (fun _ h9 => h9) dX5_readTerm_19 (fun v12 e_v12 i_v12 => ?_)
          refine h_goi hI (by decide) (va_runS (As := [.int v12]) (rest := []) ⟨hx, hb, hml, hown, hts⟩ (h_multiplying_X5 l D g σ Z hZ0 M_8 N_8 R v12) (va_cwS 1 hts gX5_readTerm_X5_multiplying rfl rfl rfl (by decide +kernel) ⟨Nat.le_of_ble_eq_true rfl, Nat.le_of_ble_eq_true rfl⟩) (h_preS hZ0 hK hE hI) rfl rfl hl.1 rfl (lv_room (Nat.le_of_ble_eq_true rfl)) dX5_readTerm_22 ⟨Nat.le_of_ble_eq_true rfl, Nat.le_of_ble_eq_true rfl⟩) (fun r13 M14 N15 R16 H locs q17 z_M14 hI => ?_)
          obtain ⟨rfl, rfl, rfl, i_r13⟩ := q17
          refine lv_if_eq (tgt := 65) hx hb dX5_readTerm_25 (by decide) (fun c18 => ?_) (fun c18 => ?_)
          · have i19 : iv r13 0 0 := iv_eq1 c18 i_r13 kc_0
            refine lv_iload_n hx hb dX5_readTerm_65 rfl (lv_at hl 2 rfl) ?_
            exact h_iret hQ hx hb hr hlocks (nar_z (iv_w (lo' := 0) (hi' := 1) i11 (by decide) (by decide))) hK hI ⟨rfl, (iv_w (lo' := 0) (hi' := 1) i11 (by decide) (by decide))⟩ dX5_readTerm_66
          · have i20 : iv r13 (-30) (-1) := iv_neH c18 i_r13 (by decide) (by decide)
            refine lv_aload_n hx hb dX5_readTerm_28 rfl (lv_at hl 0 rfl) ?_
            refine h_geti (lo := (-2147483648)) (hi := 2147483647) hx hb hts iX5_readTerm_X5 hown hK hI g_a (by decide) rfl rfl 12 (by decide) rfl rfl (hts (.fieldLink RX5 54 "CatLeases$Reader" "kind" "I") (List.mem_of_getElem? (i := 1) rfl)) (fun _ h9 => h9) dX5_readTerm_29 (fun v21 e_v21 i_v21 => ?_)
            have q22 : v12 = v21 := (e_v12).trans e_v21.symm
            subst q22
            refine h_goi hI (by decide) (va_runS (As := [.int v12]) (rest := []) ⟨hx, hb, hml, hown, hts⟩ (h_multiplying_X5 l D g σ Z hZ0 M_8 N_8 R v12) (va_cwS 1 hts gX5_readTerm_X5_multiplying rfl rfl rfl (by decide +kernel) ⟨Nat.le_of_ble_eq_true rfl, Nat.le_of_ble_eq_true rfl⟩) (h_preS hZ0 hK hE hI) rfl rfl hl.1 rfl (lv_room (Nat.le_of_ble_eq_true rfl)) dX5_readTerm_32 ⟨Nat.le_of_ble_eq_true rfl, Nat.le_of_ble_eq_true rfl⟩) (fun r23 M24 N25 R26 H locs q27 z_M24 hI => ?_)
            obtain ⟨rfl, rfl, rfl, i_r23⟩ := q27
            refine lv_istore (lv' := [(4, .int r23), (0, .ref a), (1, .int p1), (2, .int v2_8), (3, .int v3_8)]) hx hb dX5_readTerm_35 hl (by decide) rfl (fun ls hl => ?_)
            refine lv_aload_n hx hb dX5_readTerm_37 rfl (lv_at hl 1 rfl) ?_
            refine h_gov hI (by decide) (va_runV (As := []) (rest := []) ⟨hx, hb, hml, hown, hts⟩ (h_advance_X5 l D g σ Z hZ0 M_8 N_8 R a g_a) (cwV 0 hts gX5_readTerm_X5_advance rfl rfl rfl (by decide +kernel) ⟨Nat.le_of_ble_eq_true rfl, Nat.le_of_ble_eq_true rfl⟩) (h_preV hZ0 hK hE hI g_a (by decide) rfl) rfl rfl hl.1 rfl (lv_room (Nat.le_of_ble_eq_true rfl)) dX5_readTerm_38 ⟨Nat.le_of_ble_eq_true rfl, Nat.le_of_ble_eq_true rfl⟩) (fun M29 N30 R31 H locs q32 z_M29 hI => ?_)
            subst q32
            refine lv_aload_n hx hb dX5_readTerm_41 rfl (lv_at hl 1 rfl) ?_
            refine lv_iload_n hx hb dX5_readTerm_42 rfl (lv_at hl 2 rfl) ?_
            refine h_goi hI (by decide) (va_runV (As := [.int p1]) (rest := []) ⟨hx, hb, hml, hown, hts⟩ (h_readUnit_0 l D g σ Z hZ0 M29 N30 R a g_a p1 h_p1) (cwV 1 hts gX5_readTerm_X5_readUnit rfl rfl rfl (by decide +kernel) ⟨Nat.le_of_ble_eq_true rfl, Nat.le_of_ble_eq_true rfl⟩) (h_preV hZ0 hK hE hI g_a (by decide) rfl) rfl rfl hl.1 rfl (lv_room (Nat.le_of_ble_eq_true rfl)) dX5_readTerm_43 ⟨Nat.le_of_ble_eq_true rfl, Nat.le_of_ble_eq_true rfl⟩) (fun r33 M34 N35 R36 H locs q37 z_M34 hI => ?_)
            obtain ⟨rfl, i_r33⟩ := q37
            refine lv_istore_n (lv' := [(2, .int r33), (4, .int r23), (0, .ref a), (1, .int p1), (3, .int v3_8)]) hx hb dX5_readTerm_46 rfl hl (by decide) rfl (fun ls hl => ?_)
            refine lv_aload_n hx hb dX5_readTerm_47 rfl (lv_at hl 2 rfl) ?_
            refine h_getr hx hb hts iX5_readTerm_X5 hown hK hI g_a (by decide) rfl rfl 0 (by decide) rfl 4 rfl (hts (.fieldLink RX5 12 "CatLeases$Reader" "mews" "LCatLeases$Mews;") (List.mem_of_getElem? (i := 2) rfl)) (fun _ h9 => h9) dX5_readTerm_48 (fun a38 e_a38 g_a38 => ?_)
            refine h_getr hx hb hts iX5_readTerm_X4 hown hK hI g_a38 (by decide) rfl rfl 9 (by decide) rfl 2 rfl (hts (.fieldLink RX5 112 "CatLeases$Mews" "formula" "LCatLeases$Formula;") (List.mem_of_getElem? (i := 3) rfl)) (fun _ h9 => h9) dX5_readTerm_51 (fun a39 e_a39 g_a39 => ?_)
            refine lv_iload hx hb dX5_readTerm_54 (lv_at hl 1 rfl) ?_
            refine h_gov hI (by decide) (va_runV (As := [.int r23]) (rest := []) ⟨hx, hb, hml, hown, hts⟩ (h_addStep_X2 l D g σ Z hZ0 M34 N35 R a39 g_a39 r23) (cwV 1 hts gX5_readTerm_X2_addStep rfl rfl rfl (by decide +kernel) ⟨Nat.le_of_ble_eq_true rfl, Nat.le_of_ble_eq_true rfl⟩) (h_preV hZ0 hK hE hI g_a39 (by decide) rfl) rfl rfl hl.1 rfl (lv_room (Nat.le_of_ble_eq_true rfl)) dX5_readTerm_56 ⟨Nat.le_of_ble_eq_true rfl, Nat.le_of_ble_eq_true rfl⟩) (fun M41 N42 R43 H locs q44 z_M41 hI => ?_)
            obtain ⟨rfl, rfl⟩ := q44
            obtain ⟨v45, e_v45⟩ : ∃ z : Int32, z = v3_8 + Int32.ofInt 1 := ⟨_, rfl⟩
            have i_v45 : iv v45 1 30 := by rw [e_v45]; exact iv_add i8 (ki_1) (by decide) (by decide) (by decide) (by decide)
            refine lv_iinc (v := v45) (lv' := [(3, .int v45), (2, .int r33), (4, .int r23), (0, .ref a), (1, .int p1)]) hx hb dX5_readTerm_59 hl (k := 4) rfl e_v45.symm (by decide) rfl (fun ls hl => ?_)
            refine lv_goto (tgt := 8) hx hb dX5_readTerm_62 (by decide) ?_
            exact ih8 M41 N35 r33 v45 H locs ls hI (lv_sub hl [3, 4, 1, 0] rfl) i_r33 (iv_w (lo' := 0) (hi' := 30) i_v45 (by decide) (by decide)) (by have h9 := (h_inc e_v45 i8 ki_1 (by decide) (by decide)); omega)
  refine lv_istore_n (lv' := [(3, .int (0 : Int32)), (2, .int r1), (0, .ref a), (1, .int p1)]) hx hb dX5_readTerm_7 rfl hl (by decide) rfl (fun ls hl => ?_)
  exact J8 31 M2 N3 r1 (0 : Int32) H locs ls hI (lv_sub hl [2, 3, 1, 0] rfl) i_r1 (iv_w (lo' := 0) (hi' := 30) kc_0 (by decide) (by decide)) (by have h9 := kc_0; simp only [iv] at h9; omega)
abbrev e_h_readSum_0 : List (Nat × Nat) := [(2, 2), (4, 4), (5, 1), (5, 2), (5, 10), (5, 11), (5, 12), (5, 13), (17, 999)]
set_option maxHeartbeats 4000000 in
set_option maxRecDepth 100000 in
theorem h_readSum_0 (l : Launch) (D : va_G) (g : Nat → ClassId) (σ : Nat → Option Nat) (Z : State → Heap → Prop) (hZ0 : hZ σ Z) (M : hM) (N : hN) (R : hR) (a : Nat) (g_a : σ a = some 5) (p1 : Int32) (h_p1 : iv p1 0 0) : Met l yX5_readSum wsX5_readSum ({ frames := 56, cells := 0, slots := 0, locals := 1278 }) (va_Pc [.ref a, .int p1] (hPre D g σ Z M N R)) (hQi D g σ e_h_readSum_0 M (fun (r : Int32) (M1 : hM) (N1 : hN) (R1 : hR) => R = R1 ∧ iv r 0 1)) 0 0 (hA σ) := by
  refine h_head (cc := cX5_readSum) (maxL := 5) (ret := (some .boolean)) (by decide) rfl (Nat.le_of_ble_eq_true rfl) e_h_readSum_0 ?_
  intro p e s m below meth c ls Q ar hQ hx hb hr hlocks hml hown hts hK hE H locs hI hl
  have hown : s.vm.findClass RX5 = some m.cls := hown
  have hl : lv_has ls 5 [(0, .ref a), (1, .int p1)] := hl
  refine lv_aload_n hx hb dX5_readSum_0 rfl (lv_at hl 0 rfl) ?_
  refine lv_iload_n hx hb dX5_readSum_1 rfl (lv_at hl 1 rfl) ?_
  refine h_goi hI (by decide) (va_runV (As := [.int p1]) (rest := []) ⟨hx, hb, hml, hown, hts⟩ (h_readTerm_0 l D g σ Z hZ0 M N R a g_a p1 h_p1) (cwV 1 hts gX5_readSum_X5_readTerm rfl rfl rfl (by decide +kernel) ⟨Nat.le_of_ble_eq_true rfl, Nat.le_of_ble_eq_true rfl⟩) (h_preV hZ0 hK hE hI g_a (by decide) rfl) rfl rfl hl.1 rfl (lv_room (Nat.le_of_ble_eq_true rfl)) dX5_readSum_2 ⟨Nat.le_of_ble_eq_true rfl, Nat.le_of_ble_eq_true rfl⟩) (fun r1 M2 N3 R4 H locs q5 z_M2 hI => ?_)
  obtain ⟨rfl, i_r1⟩ := q5
  refine lv_istore_n (lv' := [(2, .int r1), (0, .ref a), (1, .int p1)]) hx hb dX5_readSum_5 rfl hl (by decide) rfl (fun ls hl => ?_)
  refine lv_iconst (v := 0) hx hb dX5_readSum_6 (by decide) ?_
  have J8 : ∀ (n : Nat) (M_8 : hM) (N_8 : hN) (v2_8 : Int32) (v3_8 : Int32) (H : Heap) (locs : List Loc) (ls : Array Slot), kI D g σ e_h_readSum_0 M s.heap M_8 N_8 R H locs → lv_has ls 5 [(0, .ref a), (1, .int p1), (2, .int v2_8), (3, .int v3_8)] → iv v2_8 0 1 → iv v3_8 0 30 → 31 ≤ v3_8.toInt + (n : Int) → W p l e (headSpec wsX5_readSum ({ frames := 56, cells := 0, slots := 0, locals := 1278 })).room s m ar below meth c H locs 0 0 Q (F0 m 8 ls []) := by
    intro n
    induction n with
    | zero => intro M_8 N_8 v2_8 v3_8 H locs ls hI hl i_v2_8 i_v3_8 hn; exfalso; have hz := i_v3_8; simp only [iv] at hz; omega
    | succ n ih8 =>
      intro M_8 N_8 v2_8 v3_8 H locs ls hI hl i_v2_8 i_v3_8 hn8
      refine lv_iload_n hx hb dX5_readSum_8 rfl (lv_at hl 3 rfl) ?_
      refine lv_bipush (v := 30) hx hb dX5_readSum_9 (by decide) ?_
      refine lv_icmp_ge (tgt := 82) hx hb dX5_readSum_11 (by decide) (fun c6 => ?_) (fun c6 => ?_)
      · have i7 : iv v3_8 30 30 := iv_le2 c6 kc_30 i_v3_8 (by decide)
        refine lv_iload_n hx hb dX5_readSum_82 rfl (lv_at hl 2 rfl) ?_
        exact h_iret hQ hx hb hr hlocks (nar_z i_v2_8) hK hI ⟨rfl, i_v2_8⟩ dX5_readSum_83
      · have i8 : iv v3_8 0 29 := iv_nle2 c6 kc_30 i_v3_8 (by decide)
        refine lv_iload_n hx hb dX5_readSum_14 rfl (lv_at hl 2 rfl) ?_
        refine lv_if_eq (tgt := 82) hx hb dX5_readSum_15 (by decide) (fun c9 => ?_) (fun c9 => ?_)
        · have i10 : iv v2_8 0 0 := iv_eq1 c9 i_v2_8 kc_0
          refine lv_iload_n hx hb dX5_readSum_82 rfl (lv_at hl 2 rfl) ?_
          exact h_iret hQ hx hb hr hlocks (nar_z (iv_w (lo' := 0) (hi' := 1) i10 (by decide) (by decide))) hK hI ⟨rfl, (iv_w (lo' := 0) (hi' := 1) i10 (by decide) (by decide))⟩ dX5_readSum_83
        · have i11 : iv v2_8 1 1 := iv_neL c9 i_v2_8 (by decide) (by decide)
          refine lv_aload_n hx hb dX5_readSum_18 rfl (lv_at hl 0 rfl) ?_
          refine h_geti (lo := (-2147483648)) (hi := 2147483647) hx hb hts iX5_readSum_X5 hown hK hI g_a (by decide) rfl rfl 12 (by decide) rfl rfl (hts (.fieldLink RX5 54 "CatLeases$Reader" "kind" "I") (List.mem_of_getElem? (i := 1) rfl)) (fun _ h9 => h9) dX5_readSum_19 (fun v12 e_v12 i_v12 => ?_)
          refine lv_bipush (v := 43) hx hb dX5_readSum_22 (by decide) ?_
          have J36 : ∀ (H : Heap) (locs : List Loc) (ls : Array Slot), kI D g σ e_h_readSum_0 M s.heap M_8 N_8 R H locs → lv_has ls 5 [(0, .ref a), (1, .int p1), (3, .int v3_8)] → W p l e (headSpec wsX5_readSum ({ frames := 56, cells := 0, slots := 0, locals := 1278 })).room s m ar below meth c H locs 0 0 Q (F0 m 36 ls []) := by
            intro H locs ls hI hl
            refine lv_aload_n hx hb dX5_readSum_36 rfl (lv_at hl 0 rfl) ?_
            refine h_geti (lo := (-2147483648)) (hi := 2147483647) hx hb hts iX5_readSum_X5 hown hK hI g_a (by decide) rfl rfl 12 (by decide) rfl rfl (hts (.fieldLink RX5 54 "CatLeases$Reader" "kind" "I") (List.mem_of_getElem? (i := 1) rfl)) (fun _ h9 => h9) dX5_readSum_37 (fun v13 e_v13 i_v13 => ?_)
            have q14 : v12 = v13 := (e_v12).trans e_v13.symm
            subst q14
            refine lv_bipush (v := 43) hx hb dX5_readSum_40 (by decide) ?_
            have J52 : ∀ (t0_52 : Int32) (H : Heap) (locs : List Loc) (ls : Array Slot), kI D g σ e_h_readSum_0 M s.heap M_8 N_8 R H locs → lv_has ls 5 [(0, .ref a), (1, .int p1), (3, .int v3_8)] → iv t0_52 (-27) (-26) → W p l e (headSpec wsX5_readSum ({ frames := 56, cells := 0, slots := 0, locals := 1278 })).room s m ar below meth c H locs 0 0 Q (F0 m 52 ls [.int t0_52]) := by
              intro t0_52 H locs ls hI hl i_t0_52
              refine lv_istore (lv' := [(4, .int t0_52), (0, .ref a), (1, .int p1), (3, .int v3_8)]) hx hb dX5_readSum_52 hl (by decide) rfl (fun ls hl => ?_)
              refine lv_aload_n hx hb dX5_readSum_54 rfl (lv_at hl 1 rfl) ?_
              refine h_gov hI (by decide) (va_runV (As := []) (rest := []) ⟨hx, hb, hml, hown, hts⟩ (h_advance_X5 l D g σ Z hZ0 M_8 N_8 R a g_a) (cwV 0 hts gX5_readSum_X5_advance rfl rfl rfl (by decide +kernel) ⟨Nat.le_of_ble_eq_true rfl, Nat.le_of_ble_eq_true rfl⟩) (h_preV hZ0 hK hE hI g_a (by decide) rfl) rfl rfl hl.1 rfl (lv_room (Nat.le_of_ble_eq_true rfl)) dX5_readSum_55 ⟨Nat.le_of_ble_eq_true rfl, Nat.le_of_ble_eq_true rfl⟩) (fun M16 N17 R18 H locs q19 z_M16 hI => ?_)
              subst q19
              refine lv_aload_n hx hb dX5_readSum_58 rfl (lv_at hl 1 rfl) ?_
              refine lv_iload_n hx hb dX5_readSum_59 rfl (lv_at hl 2 rfl) ?_
              refine h_goi hI (by decide) (va_runV (As := [.int p1]) (rest := []) ⟨hx, hb, hml, hown, hts⟩ (h_readTerm_0 l D g σ Z hZ0 M16 N17 R a g_a p1 h_p1) (cwV 1 hts gX5_readSum_X5_readTerm rfl rfl rfl (by decide +kernel) ⟨Nat.le_of_ble_eq_true rfl, Nat.le_of_ble_eq_true rfl⟩) (h_preV hZ0 hK hE hI g_a (by decide) rfl) rfl rfl hl.1 rfl (lv_room (Nat.le_of_ble_eq_true rfl)) dX5_readSum_60 ⟨Nat.le_of_ble_eq_true rfl, Nat.le_of_ble_eq_true rfl⟩) (fun r20 M21 N22 R23 H locs q24 z_M21 hI => ?_)
              obtain ⟨rfl, i_r20⟩ := q24
              refine lv_istore_n (lv' := [(2, .int r20), (4, .int t0_52), (0, .ref a), (1, .int p1), (3, .int v3_8)]) hx hb dX5_readSum_63 rfl hl (by decide) rfl (fun ls hl => ?_)
              refine lv_aload_n hx hb dX5_readSum_64 rfl (lv_at hl 2 rfl) ?_
              refine h_getr hx hb hts iX5_readSum_X5 hown hK hI g_a (by decide) rfl rfl 0 (by decide) rfl 4 rfl (hts (.fieldLink RX5 12 "CatLeases$Reader" "mews" "LCatLeases$Mews;") (List.mem_of_getElem? (i := 2) rfl)) (fun _ h9 => h9) dX5_readSum_65 (fun a25 e_a25 g_a25 => ?_)
              refine h_getr hx hb hts iX5_readSum_X4 hown hK hI g_a25 (by decide) rfl rfl 9 (by decide) rfl 2 rfl (hts (.fieldLink RX5 112 "CatLeases$Mews" "formula" "LCatLeases$Formula;") (List.mem_of_getElem? (i := 3) rfl)) (fun _ h9 => h9) dX5_readSum_68 (fun a26 e_a26 g_a26 => ?_)
              refine lv_iload hx hb dX5_readSum_71 (lv_at hl 1 rfl) ?_
              refine h_gov hI (by decide) (va_runV (As := [.int t0_52]) (rest := []) ⟨hx, hb, hml, hown, hts⟩ (h_addStep_X2 l D g σ Z hZ0 M21 N22 R a26 g_a26 t0_52) (cwV 1 hts gX5_readSum_X2_addStep rfl rfl rfl (by decide +kernel) ⟨Nat.le_of_ble_eq_true rfl, Nat.le_of_ble_eq_true rfl⟩) (h_preV hZ0 hK hE hI g_a26 (by decide) rfl) rfl rfl hl.1 rfl (lv_room (Nat.le_of_ble_eq_true rfl)) dX5_readSum_73 ⟨Nat.le_of_ble_eq_true rfl, Nat.le_of_ble_eq_true rfl⟩) (fun M28 N29 R30 H locs q31 z_M28 hI => ?_)
              obtain ⟨rfl, rfl⟩ := q31
              obtain ⟨v32, e_v32⟩ : ∃ z : Int32, z = v3_8 + Int32.ofInt 1 := ⟨_, rfl⟩
              have i_v32 : iv v32 1 30 := by rw [e_v32]; exact iv_add i8 (ki_1) (by decide) (by decide) (by decide) (by decide)
              refine lv_iinc (v := v32) (lv' := [(3, .int v32), (2, .int r20), (4, .int t0_52), (0, .ref a), (1, .int p1)]) hx hb dX5_readSum_76 hl (k := 4) rfl e_v32.symm (by decide) rfl (fun ls hl => ?_)
              refine lv_goto (tgt := 8) hx hb dX5_readSum_79 (by decide) ?_
              exact ih8 M28 N22 r20 v32 H locs ls hI (lv_sub hl [3, 4, 1, 0] rfl) i_r20 (iv_w (lo' := 0) (hi' := 30) i_v32 (by decide) (by decide)) (by have h9 := (h_inc e_v32 i8 ki_1 (by decide) (by decide)); omega)
            refine lv_icmp_ne (tgt := 50) hx hb dX5_readSum_42 (by decide) (fun c33 => ?_) (fun c33 => ?_)
            · refine lv_bipush (v := (-27)) hx hb dX5_readSum_50 (by decide) ?_
              exact J52 (-27 : Int32) H locs ls hI hl (iv_w (lo' := (-27)) (hi' := (-26)) kc_m27 (by decide) (by decide))
            · have i34 : iv v12 43 43 := iv_eq1 c33 i_v12 kc_43
              refine lv_bipush (v := (-26)) hx hb dX5_readSum_45 (by decide) ?_
              refine lv_goto (tgt := 52) hx hb dX5_readSum_47 (by decide) ?_
              exact J52 (-26 : Int32) H locs ls hI hl (iv_w (lo' := (-27)) (hi' := (-26)) kc_m26 (by decide) (by decide))
          refine lv_icmp_eq (tgt := 36) hx hb dX5_readSum_24 (by decide) (fun c35 => ?_) (fun c35 => ?_)
          · have i36 : iv v12 43 43 := iv_eq1 c35 i_v12 kc_43
            exact J36 H locs ls hI (lv_sub hl [0, 1, 3] rfl)
          · refine lv_aload_n hx hb dX5_readSum_27 rfl (lv_at hl 0 rfl) ?_
            refine h_geti (lo := (-2147483648)) (hi := 2147483647) hx hb hts iX5_readSum_X5 hown hK hI g_a (by decide) rfl rfl 12 (by decide) rfl rfl (hts (.fieldLink RX5 54 "CatLeases$Reader" "kind" "I") (List.mem_of_getElem? (i := 1) rfl)) (fun _ h9 => h9) dX5_readSum_28 (fun v37 e_v37 i_v37 => ?_)
            have q38 : v12 = v37 := (e_v12).trans e_v37.symm
            subst q38
            refine lv_bipush (v := 45) hx hb dX5_readSum_31 (by decide) ?_
            refine lv_icmp_ne (tgt := 82) hx hb dX5_readSum_33 (by decide) (fun c39 => ?_) (fun c39 => ?_)
            · refine lv_iload_n hx hb dX5_readSum_82 rfl (lv_at hl 2 rfl) ?_
              exact h_iret hQ hx hb hr hlocks (nar_z (iv_w (lo' := 0) (hi' := 1) i11 (by decide) (by decide))) hK hI ⟨rfl, (iv_w (lo' := 0) (hi' := 1) i11 (by decide) (by decide))⟩ dX5_readSum_83
            · have i40 : iv v12 45 45 := iv_eq1 c39 i_v12 kc_45
              exact J36 H locs ls hI (lv_sub hl [0, 1, 3] rfl)
  refine lv_istore_n (lv' := [(3, .int (0 : Int32)), (2, .int r1), (0, .ref a), (1, .int p1)]) hx hb dX5_readSum_7 rfl hl (by decide) rfl (fun ls hl => ?_)
  exact J8 31 M2 N3 r1 (0 : Int32) H locs ls hI (lv_sub hl [2, 3, 1, 0] rfl) i_r1 (iv_w (lo' := 0) (hi' := 30) kc_0 (by decide) (by decide)) (by have h9 := kc_0; simp only [iv] at h9; omega)
abbrev e_h_readOne_0 : List (Nat × Nat) := [(2, 2), (4, 4), (5, 1), (5, 2), (5, 10), (5, 11), (5, 12), (5, 13), (17, 999)]
set_option maxHeartbeats 4000000 in
set_option maxRecDepth 100000 in
theorem h_readOne_0 (l : Launch) (D : va_G) (g : Nat → ClassId) (σ : Nat → Option Nat) (Z : State → Heap → Prop) (hZ0 : hZ σ Z) (M : hM) (N : hN) (R : hR) (a : Nat) (g_a : σ a = some 5) (p1 : Int32) (h_p1 : iv p1 0 0) : Met l yX5_readOne wsX5_readOne ({ frames := 57, cells := 0, slots := 0, locals := 1302 }) (va_Pc [.ref a, .int p1] (hPre D g σ Z M N R)) (hQi D g σ e_h_readOne_0 M (fun (r : Int32) (M1 : hM) (N1 : hN) (R1 : hR) => R = R1 ∧ iv r 0 1)) 0 0 (hA σ) := by
  refine h_head (cc := cX5_readOne) (maxL := 4) (ret := (some .boolean)) (by decide) rfl (Nat.le_of_ble_eq_true rfl) e_h_readOne_0 ?_
  intro p e s m below meth c ls Q ar hQ hx hb hr hlocks hml hown hts hK hE H locs hI hl
  have hown : s.vm.findClass RX5 = some m.cls := hown
  have hl : lv_has ls 4 [(0, .ref a), (1, .int p1)] := hl
  refine lv_aload_n hx hb dX5_readOne_0 rfl (lv_at hl 0 rfl) ?_
  refine h_geti (lo := (-2147483648)) (hi := 2147483647) hx hb hts iX5_readOne_X5 hown hK hI g_a (by decide) rfl rfl 12 (by decide) rfl rfl (hts (.fieldLink RX5 54 "CatLeases$Reader" "kind" "I") (List.mem_of_getElem? (i := 1) rfl)) (fun _ h9 => h9) dX5_readOne_1 (fun v1 e_v1 i_v1 => ?_)
  refine lv_bipush (v := 18) hx hb dX5_readOne_4 (by decide) ?_
  refine lv_icmp_ne (tgt := 46) hx hb dX5_readOne_6 (by decide) (fun c2 => ?_) (fun c2 => ?_)
  · refine lv_aload_n hx hb dX5_readOne_46 rfl (lv_at hl 0 rfl) ?_
    refine lv_iload_n hx hb dX5_readOne_47 rfl (lv_at hl 1 rfl) ?_
    refine h_goi hI (by decide) (va_runV (As := [.int p1]) (rest := []) ⟨hx, hb, hml, hown, hts⟩ (h_readSum_0 l D g σ Z hZ0 M N R a g_a p1 h_p1) (cwV 1 hts gX5_readOne_X5_readSum rfl rfl rfl (by decide +kernel) ⟨Nat.le_of_ble_eq_true rfl, Nat.le_of_ble_eq_true rfl⟩) (h_preV hZ0 hK hE hI g_a (by decide) rfl) rfl rfl hl.1 rfl (lv_room (Nat.le_of_ble_eq_true rfl)) dX5_readOne_48 ⟨Nat.le_of_ble_eq_true rfl, Nat.le_of_ble_eq_true rfl⟩) (fun r3 M4 N5 R6 H locs q7 z_M4 hI => ?_)
    obtain ⟨rfl, i_r3⟩ := q7
    refine lv_if_ne (tgt := 56) hx hb dX5_readOne_51 (by decide) (fun c8 => ?_) (fun c8 => ?_)
    · have i9 : iv r3 1 1 := iv_neL c8 i_r3 (by decide) (by decide)
      refine lv_aload_n hx hb dX5_readOne_56 rfl (lv_at hl 0 rfl) ?_
      refine h_geti (lo := (-2147483648)) (hi := 2147483647) hx hb hts iX5_readOne_X5 hown hK hI g_a (by decide) rfl rfl 12 (by decide) rfl rfl (hts (.fieldLink RX5 54 "CatLeases$Reader" "kind" "I") (List.mem_of_getElem? (i := 1) rfl)) (fun _ h9 => h9) dX5_readOne_57 (fun v10 e_v10 i_v10 => ?_)
      refine h_goi hI (by decide) (va_runS (As := [.int v10]) (rest := []) ⟨hx, hb, hml, hown, hts⟩ (h_relation_X5 l D g σ Z hZ0 M4 N5 R v10) (va_cwS 1 hts gX5_readOne_X5_relation rfl rfl rfl (by decide +kernel) ⟨Nat.le_of_ble_eq_true rfl, Nat.le_of_ble_eq_true rfl⟩) (h_preS hZ0 hK hE hI) rfl rfl hl.1 rfl (lv_room (Nat.le_of_ble_eq_true rfl)) dX5_readOne_60 ⟨Nat.le_of_ble_eq_true rfl, Nat.le_of_ble_eq_true rfl⟩) (fun r11 M12 N13 R14 H locs q15 z_M12 hI => ?_)
      obtain ⟨rfl, rfl, rfl, i_r11⟩ := q15
      refine lv_istore_n (lv' := [(2, .int r11), (0, .ref a), (1, .int p1)]) hx hb dX5_readOne_63 rfl hl (by decide) rfl (fun ls hl => ?_)
      refine lv_iload_n hx hb dX5_readOne_64 rfl (lv_at hl 0 rfl) ?_
      refine lv_if_ne (tgt := 70) hx hb dX5_readOne_65 (by decide) (fun c16 => ?_) (fun c16 => ?_)
      · have i17 : iv r11 (-25) (-1) := iv_neH c16 i_r11 (by decide) (by decide)
        refine lv_aload_n hx hb dX5_readOne_70 rfl (lv_at hl 1 rfl) ?_
        refine h_gov hI (by decide) (va_runV (As := []) (rest := []) ⟨hx, hb, hml, hown, hts⟩ (h_advance_X5 l D g σ Z hZ0 M4 N5 R a g_a) (cwV 0 hts gX5_readOne_X5_advance rfl rfl rfl (by decide +kernel) ⟨Nat.le_of_ble_eq_true rfl, Nat.le_of_ble_eq_true rfl⟩) (h_preV hZ0 hK hE hI g_a (by decide) rfl) rfl rfl hl.1 rfl (lv_room (Nat.le_of_ble_eq_true rfl)) dX5_readOne_71 ⟨Nat.le_of_ble_eq_true rfl, Nat.le_of_ble_eq_true rfl⟩) (fun M19 N20 R21 H locs q22 z_M19 hI => ?_)
        subst q22
        refine lv_aload_n hx hb dX5_readOne_74 rfl (lv_at hl 1 rfl) ?_
        refine lv_iload_n hx hb dX5_readOne_75 rfl (lv_at hl 2 rfl) ?_
        refine h_goi hI (by decide) (va_runV (As := [.int p1]) (rest := []) ⟨hx, hb, hml, hown, hts⟩ (h_readSum_0 l D g σ Z hZ0 M19 N20 R a g_a p1 h_p1) (cwV 1 hts gX5_readOne_X5_readSum rfl rfl rfl (by decide +kernel) ⟨Nat.le_of_ble_eq_true rfl, Nat.le_of_ble_eq_true rfl⟩) (h_preV hZ0 hK hE hI g_a (by decide) rfl) rfl rfl hl.1 rfl (lv_room (Nat.le_of_ble_eq_true rfl)) dX5_readOne_76 ⟨Nat.le_of_ble_eq_true rfl, Nat.le_of_ble_eq_true rfl⟩) (fun r23 M24 N25 R26 H locs q27 z_M24 hI => ?_)
        obtain ⟨rfl, i_r23⟩ := q27
        refine lv_istore_n (lv' := [(3, .int r23), (2, .int r11), (0, .ref a), (1, .int p1)]) hx hb dX5_readOne_79 rfl hl (by decide) rfl (fun ls hl => ?_)
        refine lv_aload_n hx hb dX5_readOne_80 rfl (lv_at hl 2 rfl) ?_
        refine h_getr hx hb hts iX5_readOne_X5 hown hK hI g_a (by decide) rfl rfl 0 (by decide) rfl 4 rfl (hts (.fieldLink RX5 12 "CatLeases$Reader" "mews" "LCatLeases$Mews;") (List.mem_of_getElem? (i := 2) rfl)) (fun _ h9 => h9) dX5_readOne_81 (fun a28 e_a28 g_a28 => ?_)
        refine h_getr hx hb hts iX5_readOne_X4 hown hK hI g_a28 (by decide) rfl rfl 9 (by decide) rfl 2 rfl (hts (.fieldLink RX5 112 "CatLeases$Mews" "formula" "LCatLeases$Formula;") (List.mem_of_getElem? (i := 3) rfl)) (fun _ h9 => h9) dX5_readOne_84 (fun a29 e_a29 g_a29 => ?_)
        refine lv_iload_n hx hb dX5_readOne_87 rfl (lv_at hl 1 rfl) ?_
        refine h_gov hI (by decide) (va_runV (As := [.int r11]) (rest := []) ⟨hx, hb, hml, hown, hts⟩ (h_addStep_X2 l D g σ Z hZ0 M24 N25 R a29 g_a29 r11) (cwV 1 hts gX5_readOne_X2_addStep rfl rfl rfl (by decide +kernel) ⟨Nat.le_of_ble_eq_true rfl, Nat.le_of_ble_eq_true rfl⟩) (h_preV hZ0 hK hE hI g_a29 (by decide) rfl) rfl rfl hl.1 rfl (lv_room (Nat.le_of_ble_eq_true rfl)) dX5_readOne_88 ⟨Nat.le_of_ble_eq_true rfl, Nat.le_of_ble_eq_true rfl⟩) (fun M31 N32 R33 H locs q34 z_M31 hI => ?_)
        obtain ⟨rfl, rfl⟩ := q34
        refine lv_iload_n hx hb dX5_readOne_91 rfl (lv_at hl 0 rfl) ?_
        exact h_iret hQ hx hb hr hlocks (nar_z i_r23) hK hI ⟨rfl, i_r23⟩ dX5_readOne_92
      · have i35 : iv r11 0 0 := iv_eq1 c16 i_r11 kc_0
        refine lv_iconst (v := 1) hx hb dX5_readOne_68 (by decide) ?_
        exact h_iret hQ hx hb hr hlocks rfl hK hI ⟨rfl, (iv_w (lo' := 0) (hi' := 1) kc_1 (by decide) (by decide))⟩ dX5_readOne_69
    · have i36 : iv r3 0 0 := iv_eq1 c8 i_r3 kc_0
      refine lv_iconst (v := 0) hx hb dX5_readOne_54 (by decide) ?_
      exact h_iret hQ hx hb hr hlocks rfl hK hI ⟨rfl, (iv_w (lo' := 0) (hi' := 1) kc_0 (by decide) (by decide))⟩ dX5_readOne_55
  · have i37 : iv v1 18 18 := iv_eq1 c2 i_v1 kc_18
    refine lv_iload_n hx hb dX5_readOne_9 rfl (lv_at hl 1 rfl) ?_
    refine lv_bipush (v := 7) hx hb dX5_readOne_10 (by decide) ?_
    refine lv_icmp_lt (tgt := 20) hx hb dX5_readOne_12 (by decide) (fun c38 => ?_) (fun c38 => ?_)
    · refine lv_aload_n hx hb dX5_readOne_20 rfl (lv_at hl 0 rfl) ?_
      refine h_gov hI (by decide) (va_runV (As := []) (rest := []) ⟨hx, hb, hml, hown, hts⟩ (h_advance_X5 l D g σ Z hZ0 M N R a g_a) (cwV 0 hts gX5_readOne_X5_advance rfl rfl rfl (by decide +kernel) ⟨Nat.le_of_ble_eq_true rfl, Nat.le_of_ble_eq_true rfl⟩) (h_preV hZ0 hK hE hI g_a (by decide) rfl) rfl rfl hl.1 rfl (lv_room (Nat.le_of_ble_eq_true rfl)) dX5_readOne_21 ⟨Nat.le_of_ble_eq_true rfl, Nat.le_of_ble_eq_true rfl⟩) (fun M40 N41 R42 H locs q43 z_M40 hI => ?_)
      subst q43
      refine lv_aload_n hx hb dX5_readOne_24 rfl (lv_at hl 0 rfl) ?_
      refine lv_iload_n hx hb dX5_readOne_25 rfl (lv_at hl 1 rfl) ?_
      refine lv_iconst (v := 1) hx hb dX5_readOne_26 (by decide) ?_
      refine lv_iadd hx hb dX5_readOne_27 ?_
      refine h_nm (lo := 1) (hi := 1) (iv_add h_p1 kc_1 (by decide) (by decide) (by decide) (by decide)) (fun v44 e_v44 i_v44 => ?_)
      refine h_goi hI (by decide) (va_runV (As := [.int v44]) (rest := []) ⟨hx, hb, hml, hown, hts⟩ (h_readOne_1 l D g σ Z hZ0 M40 N41 R a g_a v44 i_v44) (cwV 1 hts gX5_readOne_X5_readOne rfl rfl rfl (by decide +kernel) ⟨Nat.le_of_ble_eq_true rfl, Nat.le_of_ble_eq_true rfl⟩) (h_preV hZ0 hK hE hI g_a (by decide) rfl) rfl rfl hl.1 rfl (lv_room (Nat.le_of_ble_eq_true rfl)) dX5_readOne_28 ⟨Nat.le_of_ble_eq_true rfl, Nat.le_of_ble_eq_true rfl⟩) (fun r45 M46 N47 R48 H locs q49 z_M46 hI => ?_)
      obtain ⟨rfl, i_r45⟩ := q49
      refine lv_istore_n (lv' := [(2, .int r45), (0, .ref a), (1, .int p1)]) hx hb dX5_readOne_31 rfl hl (by decide) rfl (fun ls hl => ?_)
      refine lv_aload_n hx hb dX5_readOne_32 rfl (lv_at hl 1 rfl) ?_
      refine h_getr hx hb hts iX5_readOne_X5 hown hK hI g_a (by decide) rfl rfl 0 (by decide) rfl 4 rfl (hts (.fieldLink RX5 12 "CatLeases$Reader" "mews" "LCatLeases$Mews;") (List.mem_of_getElem? (i := 2) rfl)) (fun _ h9 => h9) dX5_readOne_33 (fun a50 e_a50 g_a50 => ?_)
      refine h_getr hx hb hts iX5_readOne_X4 hown hK hI g_a50 (by decide) rfl rfl 9 (by decide) rfl 2 rfl (hts (.fieldLink RX5 112 "CatLeases$Mews" "formula" "LCatLeases$Formula;") (List.mem_of_getElem? (i := 3) rfl)) (fun _ h9 => h9) dX5_readOne_36 (fun a51 e_a51 g_a51 => ?_)
      refine lv_bipush (v := (-20)) hx hb dX5_readOne_39 (by decide) ?_
      refine h_gov hI (by decide) (va_runV (As := [.int (-20 : Int32)]) (rest := []) ⟨hx, hb, hml, hown, hts⟩ (h_addStep_X2 l D g σ Z hZ0 M46 N47 R a51 g_a51 (-20 : Int32)) (cwV 1 hts gX5_readOne_X2_addStep rfl rfl rfl (by decide +kernel) ⟨Nat.le_of_ble_eq_true rfl, Nat.le_of_ble_eq_true rfl⟩) (h_preV hZ0 hK hE hI g_a51 (by decide) rfl) rfl rfl hl.1 rfl (lv_room (Nat.le_of_ble_eq_true rfl)) dX5_readOne_41 ⟨Nat.le_of_ble_eq_true rfl, Nat.le_of_ble_eq_true rfl⟩) (fun M53 N54 R55 H locs q56 z_M53 hI => ?_)
      obtain ⟨rfl, rfl⟩ := q56
      refine lv_iload_n hx hb dX5_readOne_44 rfl (lv_at hl 0 rfl) ?_
      exact h_iret hQ hx hb hr hlocks (nar_z i_r45) hK hI ⟨rfl, i_r45⟩ dX5_readOne_45
    · exfalso; have h8 := h_p1; have h9 := kc_7; simp only [iv] at h8 h9; rw [Int32.lt_iff_toInt_lt] at c38; omega
abbrev e_h_readBoth_0 : List (Nat × Nat) := [(2, 2), (4, 4), (5, 1), (5, 2), (5, 10), (5, 11), (5, 12), (5, 13), (17, 999)]
set_option maxHeartbeats 4000000 in
set_option maxRecDepth 100000 in
theorem h_readBoth_0 (l : Launch) (D : va_G) (g : Nat → ClassId) (σ : Nat → Option Nat) (Z : State → Heap → Prop) (hZ0 : hZ σ Z) (M : hM) (N : hN) (R : hR) (a : Nat) (g_a : σ a = some 5) (p1 : Int32) (h_p1 : iv p1 0 0) : Met l yX5_readBoth wsX5_readBoth ({ frames := 58, cells := 0, slots := 0, locals := 1325 }) (va_Pc [.ref a, .int p1] (hPre D g σ Z M N R)) (hQi D g σ e_h_readBoth_0 M (fun (r : Int32) (M1 : hM) (N1 : hN) (R1 : hR) => R = R1 ∧ iv r 0 1)) 0 0 (hA σ) := by
  refine h_head (cc := cX5_readBoth) (maxL := 4) (ret := (some .boolean)) (by decide) rfl (Nat.le_of_ble_eq_true rfl) e_h_readBoth_0 ?_
  intro p e s m below meth c ls Q ar hQ hx hb hr hlocks hml hown hts hK hE H locs hI hl
  have hown : s.vm.findClass RX5 = some m.cls := hown
  have hl : lv_has ls 4 [(0, .ref a), (1, .int p1)] := hl
  refine lv_aload_n hx hb dX5_readBoth_0 rfl (lv_at hl 0 rfl) ?_
  refine lv_iload_n hx hb dX5_readBoth_1 rfl (lv_at hl 1 rfl) ?_
  refine h_goi hI (by decide) (va_runV (As := [.int p1]) (rest := []) ⟨hx, hb, hml, hown, hts⟩ (h_readOne_0 l D g σ Z hZ0 M N R a g_a p1 h_p1) (cwV 1 hts gX5_readBoth_X5_readOne rfl rfl rfl (by decide +kernel) ⟨Nat.le_of_ble_eq_true rfl, Nat.le_of_ble_eq_true rfl⟩) (h_preV hZ0 hK hE hI g_a (by decide) rfl) rfl rfl hl.1 rfl (lv_room (Nat.le_of_ble_eq_true rfl)) dX5_readBoth_2 ⟨Nat.le_of_ble_eq_true rfl, Nat.le_of_ble_eq_true rfl⟩) (fun r1 M2 N3 R4 H locs q5 z_M2 hI => ?_)
  obtain ⟨rfl, i_r1⟩ := q5
  refine lv_istore_n (lv' := [(2, .int r1), (0, .ref a), (1, .int p1)]) hx hb dX5_readBoth_5 rfl hl (by decide) rfl (fun ls hl => ?_)
  refine lv_iconst (v := 0) hx hb dX5_readBoth_6 (by decide) ?_
  have J8 : ∀ (n : Nat) (M_8 : hM) (N_8 : hN) (v2_8 : Int32) (v3_8 : Int32) (H : Heap) (locs : List Loc) (ls : Array Slot), kI D g σ e_h_readBoth_0 M s.heap M_8 N_8 R H locs → lv_has ls 4 [(0, .ref a), (1, .int p1), (2, .int v2_8), (3, .int v3_8)] → iv v2_8 0 1 → iv v3_8 0 30 → 31 ≤ v3_8.toInt + (n : Int) → W p l e (headSpec wsX5_readBoth ({ frames := 58, cells := 0, slots := 0, locals := 1325 })).room s m ar below meth c H locs 0 0 Q (F0 m 8 ls []) := by
    intro n
    induction n with
    | zero => intro M_8 N_8 v2_8 v3_8 H locs ls hI hl i_v2_8 i_v3_8 hn; exfalso; have hz := i_v3_8; simp only [iv] at hz; omega
    | succ n ih8 =>
      intro M_8 N_8 v2_8 v3_8 H locs ls hI hl i_v2_8 i_v3_8 hn8
      refine lv_iload_n hx hb dX5_readBoth_8 rfl (lv_at hl 3 rfl) ?_
      refine lv_bipush (v := 30) hx hb dX5_readBoth_9 (by decide) ?_
      refine lv_icmp_ge (tgt := 55) hx hb dX5_readBoth_11 (by decide) (fun c6 => ?_) (fun c6 => ?_)
      · have i7 : iv v3_8 30 30 := iv_le2 c6 kc_30 i_v3_8 (by decide)
        refine lv_iload_n hx hb dX5_readBoth_55 rfl (lv_at hl 2 rfl) ?_
        exact h_iret hQ hx hb hr hlocks (nar_z i_v2_8) hK hI ⟨rfl, i_v2_8⟩ dX5_readBoth_56
      · have i8 : iv v3_8 0 29 := iv_nle2 c6 kc_30 i_v3_8 (by decide)
        refine lv_iload_n hx hb dX5_readBoth_14 rfl (lv_at hl 2 rfl) ?_
        refine lv_if_eq (tgt := 55) hx hb dX5_readBoth_15 (by decide) (fun c9 => ?_) (fun c9 => ?_)
        · have i10 : iv v2_8 0 0 := iv_eq1 c9 i_v2_8 kc_0
          refine lv_iload_n hx hb dX5_readBoth_55 rfl (lv_at hl 2 rfl) ?_
          exact h_iret hQ hx hb hr hlocks (nar_z (iv_w (lo' := 0) (hi' := 1) i10 (by decide) (by decide))) hK hI ⟨rfl, (iv_w (lo' := 0) (hi' := 1) i10 (by decide) (by decide))⟩ dX5_readBoth_56
        · have i11 : iv v2_8 1 1 := iv_neL c9 i_v2_8 (by decide) (by decide)
          refine lv_aload_n hx hb dX5_readBoth_18 rfl (lv_at hl 0 rfl) ?_
          refine h_geti (lo := (-2147483648)) (hi := 2147483647) hx hb hts iX5_readBoth_X5 hown hK hI g_a (by decide) rfl rfl 12 (by decide) rfl rfl (hts (.fieldLink RX5 54 "CatLeases$Reader" "kind" "I") (List.mem_of_getElem? (i := 1) rfl)) (fun _ h9 => h9) dX5_readBoth_19 (fun v12 e_v12 i_v12 => ?_)
          refine lv_bipush (v := 17) hx hb dX5_readBoth_22 (by decide) ?_
          refine lv_icmp_ne (tgt := 55) hx hb dX5_readBoth_24 (by decide) (fun c13 => ?_) (fun c13 => ?_)
          · refine lv_iload_n hx hb dX5_readBoth_55 rfl (lv_at hl 2 rfl) ?_
            exact h_iret hQ hx hb hr hlocks (nar_z (iv_w (lo' := 0) (hi' := 1) i11 (by decide) (by decide))) hK hI ⟨rfl, (iv_w (lo' := 0) (hi' := 1) i11 (by decide) (by decide))⟩ dX5_readBoth_56
          · have i14 : iv v12 17 17 := iv_eq1 c13 i_v12 kc_17
            refine lv_aload_n hx hb dX5_readBoth_27 rfl (lv_at hl 0 rfl) ?_
            refine h_gov hI (by decide) (va_runV (As := []) (rest := []) ⟨hx, hb, hml, hown, hts⟩ (h_advance_X5 l D g σ Z hZ0 M_8 N_8 R a g_a) (cwV 0 hts gX5_readBoth_X5_advance rfl rfl rfl (by decide +kernel) ⟨Nat.le_of_ble_eq_true rfl, Nat.le_of_ble_eq_true rfl⟩) (h_preV hZ0 hK hE hI g_a (by decide) rfl) rfl rfl hl.1 rfl (lv_room (Nat.le_of_ble_eq_true rfl)) dX5_readBoth_28 ⟨Nat.le_of_ble_eq_true rfl, Nat.le_of_ble_eq_true rfl⟩) (fun M16 N17 R18 H locs q19 z_M16 hI => ?_)
            subst q19
            refine lv_aload_n hx hb dX5_readBoth_31 rfl (lv_at hl 0 rfl) ?_
            refine lv_iload_n hx hb dX5_readBoth_32 rfl (lv_at hl 1 rfl) ?_
            refine h_goi hI (by decide) (va_runV (As := [.int p1]) (rest := []) ⟨hx, hb, hml, hown, hts⟩ (h_readOne_0 l D g σ Z hZ0 M16 N17 R a g_a p1 h_p1) (cwV 1 hts gX5_readBoth_X5_readOne rfl rfl rfl (by decide +kernel) ⟨Nat.le_of_ble_eq_true rfl, Nat.le_of_ble_eq_true rfl⟩) (h_preV hZ0 hK hE hI g_a (by decide) rfl) rfl rfl hl.1 rfl (lv_room (Nat.le_of_ble_eq_true rfl)) dX5_readBoth_33 ⟨Nat.le_of_ble_eq_true rfl, Nat.le_of_ble_eq_true rfl⟩) (fun r20 M21 N22 R23 H locs q24 z_M21 hI => ?_)
            obtain ⟨rfl, i_r20⟩ := q24
            refine lv_istore_n (lv' := [(2, .int r20), (0, .ref a), (1, .int p1), (3, .int v3_8)]) hx hb dX5_readBoth_36 rfl hl (by decide) rfl (fun ls hl => ?_)
            refine lv_aload_n hx hb dX5_readBoth_37 rfl (lv_at hl 1 rfl) ?_
            refine h_getr hx hb hts iX5_readBoth_X5 hown hK hI g_a (by decide) rfl rfl 0 (by decide) rfl 4 rfl (hts (.fieldLink RX5 12 "CatLeases$Reader" "mews" "LCatLeases$Mews;") (List.mem_of_getElem? (i := 2) rfl)) (fun _ h9 => h9) dX5_readBoth_38 (fun a25 e_a25 g_a25 => ?_)
            refine h_getr hx hb hts iX5_readBoth_X4 hown hK hI g_a25 (by decide) rfl rfl 9 (by decide) rfl 2 rfl (hts (.fieldLink RX5 112 "CatLeases$Mews" "formula" "LCatLeases$Formula;") (List.mem_of_getElem? (i := 3) rfl)) (fun _ h9 => h9) dX5_readBoth_41 (fun a26 e_a26 g_a26 => ?_)
            refine lv_bipush (v := (-22)) hx hb dX5_readBoth_44 (by decide) ?_
            refine h_gov hI (by decide) (va_runV (As := [.int (-22 : Int32)]) (rest := []) ⟨hx, hb, hml, hown, hts⟩ (h_addStep_X2 l D g σ Z hZ0 M21 N22 R a26 g_a26 (-22 : Int32)) (cwV 1 hts gX5_readBoth_X2_addStep rfl rfl rfl (by decide +kernel) ⟨Nat.le_of_ble_eq_true rfl, Nat.le_of_ble_eq_true rfl⟩) (h_preV hZ0 hK hE hI g_a26 (by decide) rfl) rfl rfl hl.1 rfl (lv_room (Nat.le_of_ble_eq_true rfl)) dX5_readBoth_46 ⟨Nat.le_of_ble_eq_true rfl, Nat.le_of_ble_eq_true rfl⟩) (fun M28 N29 R30 H locs q31 z_M28 hI => ?_)
            obtain ⟨rfl, rfl⟩ := q31
            obtain ⟨v32, e_v32⟩ : ∃ z : Int32, z = v3_8 + Int32.ofInt 1 := ⟨_, rfl⟩
            have i_v32 : iv v32 1 30 := by rw [e_v32]; exact iv_add i8 (ki_1) (by decide) (by decide) (by decide) (by decide)
            refine lv_iinc (v := v32) (lv' := [(3, .int v32), (2, .int r20), (0, .ref a), (1, .int p1)]) hx hb dX5_readBoth_49 hl (k := 3) rfl e_v32.symm (by decide) rfl (fun ls hl => ?_)
            refine lv_goto (tgt := 8) hx hb dX5_readBoth_52 (by decide) ?_
            exact ih8 M28 N22 r20 v32 H locs ls hI (lv_sub hl [2, 3, 1, 0] rfl) i_r20 (iv_w (lo' := 0) (hi' := 30) i_v32 (by decide) (by decide)) (by have h9 := (h_inc e_v32 i8 ki_1 (by decide) (by decide)); omega)
  refine lv_istore_n (lv' := [(3, .int (0 : Int32)), (2, .int r1), (0, .ref a), (1, .int p1)]) hx hb dX5_readBoth_7 rfl hl (by decide) rfl (fun ls hl => ?_)
  exact J8 31 M2 N3 r1 (0 : Int32) H locs ls hI (lv_sub hl [2, 3, 1, 0] rfl) i_r1 (iv_w (lo' := 0) (hi' := 30) kc_0 (by decide) (by decide)) (by have h9 := kc_0; simp only [iv] at h9; omega)
abbrev e_h_readEither_0 : List (Nat × Nat) := [(2, 2), (4, 4), (5, 1), (5, 2), (5, 10), (5, 11), (5, 12), (5, 13), (17, 999)]
set_option maxHeartbeats 4000000 in
set_option maxRecDepth 100000 in
theorem h_readEither_0 (l : Launch) (D : va_G) (g : Nat → ClassId) (σ : Nat → Option Nat) (Z : State → Heap → Prop) (hZ0 : hZ σ Z) (M : hM) (N : hN) (R : hR) (a : Nat) (g_a : σ a = some 5) (p1 : Int32) (h_p1 : iv p1 0 0) : Met l yX5_readEither wsX5_readEither ({ frames := 59, cells := 0, slots := 0, locals := 1348 }) (va_Pc [.ref a, .int p1] (hPre D g σ Z M N R)) (hQi D g σ e_h_readEither_0 M (fun (r : Int32) (M1 : hM) (N1 : hN) (R1 : hR) => R = R1 ∧ iv r 0 1)) 0 0 (hA σ) := by
  refine h_head (cc := cX5_readEither) (maxL := 4) (ret := (some .boolean)) (by decide) rfl (Nat.le_of_ble_eq_true rfl) e_h_readEither_0 ?_
  intro p e s m below meth c ls Q ar hQ hx hb hr hlocks hml hown hts hK hE H locs hI hl
  have hown : s.vm.findClass RX5 = some m.cls := hown
  have hl : lv_has ls 4 [(0, .ref a), (1, .int p1)] := hl
  refine lv_aload_n hx hb dX5_readEither_0 rfl (lv_at hl 0 rfl) ?_
  refine lv_iload_n hx hb dX5_readEither_1 rfl (lv_at hl 1 rfl) ?_
  refine h_goi hI (by decide) (va_runV (As := [.int p1]) (rest := []) ⟨hx, hb, hml, hown, hts⟩ (h_readBoth_0 l D g σ Z hZ0 M N R a g_a p1 h_p1) (cwV 1 hts gX5_readEither_X5_readBoth rfl rfl rfl (by decide +kernel) ⟨Nat.le_of_ble_eq_true rfl, Nat.le_of_ble_eq_true rfl⟩) (h_preV hZ0 hK hE hI g_a (by decide) rfl) rfl rfl hl.1 rfl (lv_room (Nat.le_of_ble_eq_true rfl)) dX5_readEither_2 ⟨Nat.le_of_ble_eq_true rfl, Nat.le_of_ble_eq_true rfl⟩) (fun r1 M2 N3 R4 H locs q5 z_M2 hI => ?_)
  obtain ⟨rfl, i_r1⟩ := q5
  refine lv_istore_n (lv' := [(2, .int r1), (0, .ref a), (1, .int p1)]) hx hb dX5_readEither_5 rfl hl (by decide) rfl (fun ls hl => ?_)
  refine lv_iconst (v := 0) hx hb dX5_readEither_6 (by decide) ?_
  have J8 : ∀ (n : Nat) (M_8 : hM) (N_8 : hN) (v2_8 : Int32) (v3_8 : Int32) (H : Heap) (locs : List Loc) (ls : Array Slot), kI D g σ e_h_readEither_0 M s.heap M_8 N_8 R H locs → lv_has ls 4 [(0, .ref a), (1, .int p1), (2, .int v2_8), (3, .int v3_8)] → iv v2_8 0 1 → iv v3_8 0 30 → 31 ≤ v3_8.toInt + (n : Int) → W p l e (headSpec wsX5_readEither ({ frames := 59, cells := 0, slots := 0, locals := 1348 })).room s m ar below meth c H locs 0 0 Q (F0 m 8 ls []) := by
    intro n
    induction n with
    | zero => intro M_8 N_8 v2_8 v3_8 H locs ls hI hl i_v2_8 i_v3_8 hn; exfalso; have hz := i_v3_8; simp only [iv] at hz; omega
    | succ n ih8 =>
      intro M_8 N_8 v2_8 v3_8 H locs ls hI hl i_v2_8 i_v3_8 hn8
      refine lv_iload_n hx hb dX5_readEither_8 rfl (lv_at hl 3 rfl) ?_
      refine lv_bipush (v := 30) hx hb dX5_readEither_9 (by decide) ?_
      refine lv_icmp_ge (tgt := 55) hx hb dX5_readEither_11 (by decide) (fun c6 => ?_) (fun c6 => ?_)
      · have i7 : iv v3_8 30 30 := iv_le2 c6 kc_30 i_v3_8 (by decide)
        refine lv_iload_n hx hb dX5_readEither_55 rfl (lv_at hl 2 rfl) ?_
        exact h_iret hQ hx hb hr hlocks (nar_z i_v2_8) hK hI ⟨rfl, i_v2_8⟩ dX5_readEither_56
      · have i8 : iv v3_8 0 29 := iv_nle2 c6 kc_30 i_v3_8 (by decide)
        refine lv_iload_n hx hb dX5_readEither_14 rfl (lv_at hl 2 rfl) ?_
        refine lv_if_eq (tgt := 55) hx hb dX5_readEither_15 (by decide) (fun c9 => ?_) (fun c9 => ?_)
        · have i10 : iv v2_8 0 0 := iv_eq1 c9 i_v2_8 kc_0
          refine lv_iload_n hx hb dX5_readEither_55 rfl (lv_at hl 2 rfl) ?_
          exact h_iret hQ hx hb hr hlocks (nar_z (iv_w (lo' := 0) (hi' := 1) i10 (by decide) (by decide))) hK hI ⟨rfl, (iv_w (lo' := 0) (hi' := 1) i10 (by decide) (by decide))⟩ dX5_readEither_56
        · have i11 : iv v2_8 1 1 := iv_neL c9 i_v2_8 (by decide) (by decide)
          refine lv_aload_n hx hb dX5_readEither_18 rfl (lv_at hl 0 rfl) ?_
          refine h_geti (lo := (-2147483648)) (hi := 2147483647) hx hb hts iX5_readEither_X5 hown hK hI g_a (by decide) rfl rfl 12 (by decide) rfl rfl (hts (.fieldLink RX5 54 "CatLeases$Reader" "kind" "I") (List.mem_of_getElem? (i := 1) rfl)) (fun _ h9 => h9) dX5_readEither_19 (fun v12 e_v12 i_v12 => ?_)
          refine lv_bipush (v := 16) hx hb dX5_readEither_22 (by decide) ?_
          refine lv_icmp_ne (tgt := 55) hx hb dX5_readEither_24 (by decide) (fun c13 => ?_) (fun c13 => ?_)
          · refine lv_iload_n hx hb dX5_readEither_55 rfl (lv_at hl 2 rfl) ?_
            exact h_iret hQ hx hb hr hlocks (nar_z (iv_w (lo' := 0) (hi' := 1) i11 (by decide) (by decide))) hK hI ⟨rfl, (iv_w (lo' := 0) (hi' := 1) i11 (by decide) (by decide))⟩ dX5_readEither_56
          · have i14 : iv v12 16 16 := iv_eq1 c13 i_v12 kc_16
            refine lv_aload_n hx hb dX5_readEither_27 rfl (lv_at hl 0 rfl) ?_
            refine h_gov hI (by decide) (va_runV (As := []) (rest := []) ⟨hx, hb, hml, hown, hts⟩ (h_advance_X5 l D g σ Z hZ0 M_8 N_8 R a g_a) (cwV 0 hts gX5_readEither_X5_advance rfl rfl rfl (by decide +kernel) ⟨Nat.le_of_ble_eq_true rfl, Nat.le_of_ble_eq_true rfl⟩) (h_preV hZ0 hK hE hI g_a (by decide) rfl) rfl rfl hl.1 rfl (lv_room (Nat.le_of_ble_eq_true rfl)) dX5_readEither_28 ⟨Nat.le_of_ble_eq_true rfl, Nat.le_of_ble_eq_true rfl⟩) (fun M16 N17 R18 H locs q19 z_M16 hI => ?_)
            subst q19
            refine lv_aload_n hx hb dX5_readEither_31 rfl (lv_at hl 0 rfl) ?_
            refine lv_iload_n hx hb dX5_readEither_32 rfl (lv_at hl 1 rfl) ?_
            refine h_goi hI (by decide) (va_runV (As := [.int p1]) (rest := []) ⟨hx, hb, hml, hown, hts⟩ (h_readBoth_0 l D g σ Z hZ0 M16 N17 R a g_a p1 h_p1) (cwV 1 hts gX5_readEither_X5_readBoth rfl rfl rfl (by decide +kernel) ⟨Nat.le_of_ble_eq_true rfl, Nat.le_of_ble_eq_true rfl⟩) (h_preV hZ0 hK hE hI g_a (by decide) rfl) rfl rfl hl.1 rfl (lv_room (Nat.le_of_ble_eq_true rfl)) dX5_readEither_33 ⟨Nat.le_of_ble_eq_true rfl, Nat.le_of_ble_eq_true rfl⟩) (fun r20 M21 N22 R23 H locs q24 z_M21 hI => ?_)
            obtain ⟨rfl, i_r20⟩ := q24
            refine lv_istore_n (lv' := [(2, .int r20), (0, .ref a), (1, .int p1), (3, .int v3_8)]) hx hb dX5_readEither_36 rfl hl (by decide) rfl (fun ls hl => ?_)
            refine lv_aload_n hx hb dX5_readEither_37 rfl (lv_at hl 1 rfl) ?_
            refine h_getr hx hb hts iX5_readEither_X5 hown hK hI g_a (by decide) rfl rfl 0 (by decide) rfl 4 rfl (hts (.fieldLink RX5 12 "CatLeases$Reader" "mews" "LCatLeases$Mews;") (List.mem_of_getElem? (i := 2) rfl)) (fun _ h9 => h9) dX5_readEither_38 (fun a25 e_a25 g_a25 => ?_)
            refine h_getr hx hb hts iX5_readEither_X4 hown hK hI g_a25 (by decide) rfl rfl 9 (by decide) rfl 2 rfl (hts (.fieldLink RX5 112 "CatLeases$Mews" "formula" "LCatLeases$Formula;") (List.mem_of_getElem? (i := 3) rfl)) (fun _ h9 => h9) dX5_readEither_41 (fun a26 e_a26 g_a26 => ?_)
            refine lv_bipush (v := (-21)) hx hb dX5_readEither_44 (by decide) ?_
            refine h_gov hI (by decide) (va_runV (As := [.int (-21 : Int32)]) (rest := []) ⟨hx, hb, hml, hown, hts⟩ (h_addStep_X2 l D g σ Z hZ0 M21 N22 R a26 g_a26 (-21 : Int32)) (cwV 1 hts gX5_readEither_X2_addStep rfl rfl rfl (by decide +kernel) ⟨Nat.le_of_ble_eq_true rfl, Nat.le_of_ble_eq_true rfl⟩) (h_preV hZ0 hK hE hI g_a26 (by decide) rfl) rfl rfl hl.1 rfl (lv_room (Nat.le_of_ble_eq_true rfl)) dX5_readEither_46 ⟨Nat.le_of_ble_eq_true rfl, Nat.le_of_ble_eq_true rfl⟩) (fun M28 N29 R30 H locs q31 z_M28 hI => ?_)
            obtain ⟨rfl, rfl⟩ := q31
            obtain ⟨v32, e_v32⟩ : ∃ z : Int32, z = v3_8 + Int32.ofInt 1 := ⟨_, rfl⟩
            have i_v32 : iv v32 1 30 := by rw [e_v32]; exact iv_add i8 (ki_1) (by decide) (by decide) (by decide) (by decide)
            refine lv_iinc (v := v32) (lv' := [(3, .int v32), (2, .int r20), (0, .ref a), (1, .int p1)]) hx hb dX5_readEither_49 hl (k := 3) rfl e_v32.symm (by decide) rfl (fun ls hl => ?_)
            refine lv_goto (tgt := 8) hx hb dX5_readEither_52 (by decide) ?_
            exact ih8 M28 N22 r20 v32 H locs ls hI (lv_sub hl [2, 3, 1, 0] rfl) i_r20 (iv_w (lo' := 0) (hi' := 30) i_v32 (by decide) (by decide)) (by have h9 := (h_inc e_v32 i8 ki_1 (by decide) (by decide)); omega)
  refine lv_istore_n (lv' := [(3, .int (0 : Int32)), (2, .int r1), (0, .ref a), (1, .int p1)]) hx hb dX5_readEither_7 rfl hl (by decide) rfl (fun ls hl => ?_)
  exact J8 31 M2 N3 r1 (0 : Int32) H locs ls hI (lv_sub hl [2, 3, 1, 0] rfl) i_r1 (iv_w (lo' := 0) (hi' := 30) kc_0 (by decide) (by decide)) (by have h9 := kc_0; simp only [iv] at h9; omega)
abbrev e_h_readLine_X5 : List (Nat × Nat) := [(2, 2), (4, 0), (4, 1), (4, 2), (4, 3), (4, 4), (5, 1), (5, 2), (5, 9), (5, 10), (5, 11), (5, 12), (5, 13), (7, 7), (12, 999), (13, 999), (14, 999), (15, 999), (17, 999)]
set_option maxHeartbeats 4000000 in
set_option maxRecDepth 100000 in
theorem h_readLine_X5 (l : Launch) (D : va_G) (g : Nat → ClassId) (σ : Nat → Option Nat) (Z : State → Heap → Prop) (hZ0 : hZ σ Z) (M : hM) (N : hN) (R : hR) (a : Nat) (g_a : σ a = some 5) : Met l yX5_readLine wsX5_readLine ({ frames := 60, cells := 0, slots := 0, locals := 1371 }) (va_Pc [.ref a] (hPre D g σ Z M N R)) (hQi D g σ e_h_readLine_X5 M (fun (r : Int32) (M1 : hM) (N1 : hN) (R1 : hR) => R = R1 ∧ iv r 0 1)) 0 0 (hA σ) := by
  refine h_head (cc := cX5_readLine) (maxL := 1) (ret := (some .boolean)) (by decide) rfl (Nat.le_of_ble_eq_true rfl) e_h_readLine_X5 ?_
  intro p e s m below meth c ls Q ar hQ hx hb hr hlocks hml hown hts hK hE H locs hI hl
  have hown : s.vm.findClass RX5 = some m.cls := hown
  have hl : lv_has ls 1 [(0, .ref a)] := hl
  refine lv_aload_n hx hb dX5_readLine_0 rfl (lv_at hl 0 rfl) ?_
  refine h_geti (lo := (-2147483648)) (hi := 2147483647) hx hb hts iX5_readLine_X5 hown hK hI g_a (by decide) rfl rfl 12 (by decide) rfl rfl (hts (.fieldLink RX5 54 "CatLeases$Reader" "kind" "I") (List.mem_of_getElem? (i := 1) rfl)) (fun _ h9 => h9) dX5_readLine_1 (fun v1 e_v1 i_v1 => ?_)
  by_cases c2 : v1 = 0
  · refine lv_tableIn (tgt := 44) hx hb dX5_readLine_4 (by rw [c2]; decide) (by rw [c2]; decide) (by rw [c2] <;> rfl) (by decide) ?_
    have i3 : iv v1 0 0 := iv_eq1 c2 i_v1 kc_0
    refine lv_aload_n hx hb dX5_readLine_44 rfl (lv_at hl 0 rfl) ?_
    refine h_goi hI (by decide) (va_runV (As := []) (rest := []) ⟨hx, hb, hml, hown, hts⟩ (h_readCat_X5 l D g σ Z hZ0 M N R a g_a) (cwV 0 hts gX5_readLine_X5_readCat rfl rfl rfl (by decide +kernel) ⟨Nat.le_of_ble_eq_true rfl, Nat.le_of_ble_eq_true rfl⟩) (h_preV hZ0 hK hE hI g_a (by decide) rfl) rfl rfl hl.1 rfl (lv_room (Nat.le_of_ble_eq_true rfl)) dX5_readLine_45 ⟨Nat.le_of_ble_eq_true rfl, Nat.le_of_ble_eq_true rfl⟩) (fun r4 M5 N6 R7 H locs q8 z_M5 hI => ?_)
    obtain ⟨rfl, i_r4⟩ := q8
    refine lv_if_eq (tgt := 62) hx hb dX5_readLine_48 (by decide) (fun c9 => ?_) (fun c9 => ?_)
    · have i10 : iv r4 0 0 := iv_eq1 c9 i_r4 kc_0
      refine lv_iconst (v := 0) hx hb dX5_readLine_62 (by decide) ?_
      exact h_iret hQ hx hb hr hlocks rfl hK hI ⟨rfl, (iv_w (lo' := 0) (hi' := 1) kc_0 (by decide) (by decide))⟩ dX5_readLine_63
    · have i11 : iv r4 1 1 := iv_neL c9 i_r4 (by decide) (by decide)
      refine lv_aload_n hx hb dX5_readLine_51 rfl (lv_at hl 0 rfl) ?_
      refine h_goi hI (by decide) (va_runV (As := []) (rest := []) ⟨hx, hb, hml, hown, hts⟩ (h_closeLine_X5 l D g σ Z hZ0 M5 N6 R a g_a) (cwV 0 hts gX5_readLine_X5_closeLine rfl rfl rfl (by decide +kernel) ⟨Nat.le_of_ble_eq_true rfl, Nat.le_of_ble_eq_true rfl⟩) (h_preV hZ0 hK hE hI g_a (by decide) rfl) rfl rfl hl.1 rfl (lv_room (Nat.le_of_ble_eq_true rfl)) dX5_readLine_52 ⟨Nat.le_of_ble_eq_true rfl, Nat.le_of_ble_eq_true rfl⟩) (fun r12 M13 N14 R15 H locs q16 z_M13 hI => ?_)
      obtain ⟨rfl, i_r12⟩ := q16
      refine lv_if_eq (tgt := 62) hx hb dX5_readLine_55 (by decide) (fun c17 => ?_) (fun c17 => ?_)
      · have i18 : iv r12 0 0 := iv_eq1 c17 i_r12 kc_0
        refine lv_iconst (v := 0) hx hb dX5_readLine_62 (by decide) ?_
        exact h_iret hQ hx hb hr hlocks rfl hK hI ⟨rfl, (iv_w (lo' := 0) (hi' := 1) kc_0 (by decide) (by decide))⟩ dX5_readLine_63
      · have i19 : iv r12 1 1 := iv_neL c17 i_r12 (by decide) (by decide)
        refine lv_iconst (v := 1) hx hb dX5_readLine_58 (by decide) ?_
        refine lv_goto (tgt := 63) hx hb dX5_readLine_59 (by decide) ?_
        exact h_iret hQ hx hb hr hlocks rfl hK hI ⟨rfl, (iv_w (lo' := 0) (hi' := 1) kc_1 (by decide) (by decide))⟩ dX5_readLine_63
  by_cases c20 : v1 = 1
  · refine lv_tableIn (tgt := 64) hx hb dX5_readLine_4 (by rw [c20]; decide) (by rw [c20]; decide) (by rw [c20] <;> rfl) (by decide) ?_
    have i21 : iv v1 1 1 := iv_eq1 c20 i_v1 kc_1
    refine lv_aload_n hx hb dX5_readLine_64 rfl (lv_at hl 0 rfl) ?_
    refine h_goi hI (by decide) (va_runV (As := []) (rest := []) ⟨hx, hb, hml, hown, hts⟩ (h_readRoom_X5 l D g σ Z hZ0 M N R a g_a) (cwV 0 hts gX5_readLine_X5_readRoom rfl rfl rfl (by decide +kernel) ⟨Nat.le_of_ble_eq_true rfl, Nat.le_of_ble_eq_true rfl⟩) (h_preV hZ0 hK hE hI g_a (by decide) rfl) rfl rfl hl.1 rfl (lv_room (Nat.le_of_ble_eq_true rfl)) dX5_readLine_65 ⟨Nat.le_of_ble_eq_true rfl, Nat.le_of_ble_eq_true rfl⟩) (fun r22 M23 N24 R25 H locs q26 z_M23 hI => ?_)
    obtain ⟨rfl, i_r22⟩ := q26
    refine lv_if_eq (tgt := 82) hx hb dX5_readLine_68 (by decide) (fun c27 => ?_) (fun c27 => ?_)
    · have i28 : iv r22 0 0 := iv_eq1 c27 i_r22 kc_0
      refine lv_iconst (v := 0) hx hb dX5_readLine_82 (by decide) ?_
      exact h_iret hQ hx hb hr hlocks rfl hK hI ⟨rfl, (iv_w (lo' := 0) (hi' := 1) kc_0 (by decide) (by decide))⟩ dX5_readLine_83
    · have i29 : iv r22 1 1 := iv_neL c27 i_r22 (by decide) (by decide)
      refine lv_aload_n hx hb dX5_readLine_71 rfl (lv_at hl 0 rfl) ?_
      refine h_goi hI (by decide) (va_runV (As := []) (rest := []) ⟨hx, hb, hml, hown, hts⟩ (h_closeLine_X5 l D g σ Z hZ0 M23 N24 R a g_a) (cwV 0 hts gX5_readLine_X5_closeLine rfl rfl rfl (by decide +kernel) ⟨Nat.le_of_ble_eq_true rfl, Nat.le_of_ble_eq_true rfl⟩) (h_preV hZ0 hK hE hI g_a (by decide) rfl) rfl rfl hl.1 rfl (lv_room (Nat.le_of_ble_eq_true rfl)) dX5_readLine_72 ⟨Nat.le_of_ble_eq_true rfl, Nat.le_of_ble_eq_true rfl⟩) (fun r30 M31 N32 R33 H locs q34 z_M31 hI => ?_)
      obtain ⟨rfl, i_r30⟩ := q34
      refine lv_if_eq (tgt := 82) hx hb dX5_readLine_75 (by decide) (fun c35 => ?_) (fun c35 => ?_)
      · have i36 : iv r30 0 0 := iv_eq1 c35 i_r30 kc_0
        refine lv_iconst (v := 0) hx hb dX5_readLine_82 (by decide) ?_
        exact h_iret hQ hx hb hr hlocks rfl hK hI ⟨rfl, (iv_w (lo' := 0) (hi' := 1) kc_0 (by decide) (by decide))⟩ dX5_readLine_83
      · have i37 : iv r30 1 1 := iv_neL c35 i_r30 (by decide) (by decide)
        refine lv_iconst (v := 1) hx hb dX5_readLine_78 (by decide) ?_
        refine lv_goto (tgt := 83) hx hb dX5_readLine_79 (by decide) ?_
        exact h_iret hQ hx hb hr hlocks rfl hK hI ⟨rfl, (iv_w (lo' := 0) (hi' := 1) kc_1 (by decide) (by decide))⟩ dX5_readLine_83
  by_cases c38 : v1 = 2
  · refine lv_tableIn (tgt := 84) hx hb dX5_readLine_4 (by rw [c38]; decide) (by rw [c38]; decide) (by rw [c38] <;> rfl) (by decide) ?_
    have i39 : iv v1 2 2 := iv_eq1 c38 i_v1 kc_2
    refine lv_aload_n hx hb dX5_readLine_84 rfl (lv_at hl 0 rfl) ?_
    refine h_goi hI (by decide) (va_runV (As := []) (rest := []) ⟨hx, hb, hml, hown, hts⟩ (h_readTenant_X5 l D g σ Z hZ0 M N R a g_a) (cwV 0 hts gX5_readLine_X5_readTenant rfl rfl rfl (by decide +kernel) ⟨Nat.le_of_ble_eq_true rfl, Nat.le_of_ble_eq_true rfl⟩) (h_preV hZ0 hK hE hI g_a (by decide) rfl) rfl rfl hl.1 rfl (lv_room (Nat.le_of_ble_eq_true rfl)) dX5_readLine_85 ⟨Nat.le_of_ble_eq_true rfl, Nat.le_of_ble_eq_true rfl⟩) (fun r40 M41 N42 R43 H locs q44 z_M41 hI => ?_)
    obtain ⟨rfl, i_r40⟩ := q44
    refine lv_if_eq (tgt := 102) hx hb dX5_readLine_88 (by decide) (fun c45 => ?_) (fun c45 => ?_)
    · have i46 : iv r40 0 0 := iv_eq1 c45 i_r40 kc_0
      refine lv_iconst (v := 0) hx hb dX5_readLine_102 (by decide) ?_
      exact h_iret hQ hx hb hr hlocks rfl hK hI ⟨rfl, (iv_w (lo' := 0) (hi' := 1) kc_0 (by decide) (by decide))⟩ dX5_readLine_103
    · have i47 : iv r40 1 1 := iv_neL c45 i_r40 (by decide) (by decide)
      refine lv_aload_n hx hb dX5_readLine_91 rfl (lv_at hl 0 rfl) ?_
      refine h_goi hI (by decide) (va_runV (As := []) (rest := []) ⟨hx, hb, hml, hown, hts⟩ (h_closeLine_X5 l D g σ Z hZ0 M41 N42 R a g_a) (cwV 0 hts gX5_readLine_X5_closeLine rfl rfl rfl (by decide +kernel) ⟨Nat.le_of_ble_eq_true rfl, Nat.le_of_ble_eq_true rfl⟩) (h_preV hZ0 hK hE hI g_a (by decide) rfl) rfl rfl hl.1 rfl (lv_room (Nat.le_of_ble_eq_true rfl)) dX5_readLine_92 ⟨Nat.le_of_ble_eq_true rfl, Nat.le_of_ble_eq_true rfl⟩) (fun r48 M49 N50 R51 H locs q52 z_M49 hI => ?_)
      obtain ⟨rfl, i_r48⟩ := q52
      refine lv_if_eq (tgt := 102) hx hb dX5_readLine_95 (by decide) (fun c53 => ?_) (fun c53 => ?_)
      · have i54 : iv r48 0 0 := iv_eq1 c53 i_r48 kc_0
        refine lv_iconst (v := 0) hx hb dX5_readLine_102 (by decide) ?_
        exact h_iret hQ hx hb hr hlocks rfl hK hI ⟨rfl, (iv_w (lo' := 0) (hi' := 1) kc_0 (by decide) (by decide))⟩ dX5_readLine_103
      · have i55 : iv r48 1 1 := iv_neL c53 i_r48 (by decide) (by decide)
        refine lv_iconst (v := 1) hx hb dX5_readLine_98 (by decide) ?_
        refine lv_goto (tgt := 103) hx hb dX5_readLine_99 (by decide) ?_
        exact h_iret hQ hx hb hr hlocks rfl hK hI ⟨rfl, (iv_w (lo' := 0) (hi' := 1) kc_1 (by decide) (by decide))⟩ dX5_readLine_103
  by_cases c56 : v1 = 3
  · refine lv_tableIn (tgt := 104) hx hb dX5_readLine_4 (by rw [c56]; decide) (by rw [c56]; decide) (by rw [c56] <;> rfl) (by decide) ?_
    have i57 : iv v1 3 3 := iv_eq1 c56 i_v1 kc_3
    refine lv_aload_n hx hb dX5_readLine_104 rfl (lv_at hl 0 rfl) ?_
    refine h_goi hI (by decide) (va_runV (As := []) (rest := []) ⟨hx, hb, hml, hown, hts⟩ (h_readOnce_X5 l D g σ Z hZ0 M N R a g_a) (cwV 0 hts gX5_readLine_X5_readOnce rfl rfl rfl (by decide +kernel) ⟨Nat.le_of_ble_eq_true rfl, Nat.le_of_ble_eq_true rfl⟩) (h_preV hZ0 hK hE hI g_a (by decide) rfl) rfl rfl hl.1 rfl (lv_room (Nat.le_of_ble_eq_true rfl)) dX5_readLine_105 ⟨Nat.le_of_ble_eq_true rfl, Nat.le_of_ble_eq_true rfl⟩) (fun r58 M59 N60 R61 H locs q62 z_M59 hI => ?_)
    obtain ⟨rfl, i_r58⟩ := q62
    refine lv_if_eq (tgt := 130) hx hb dX5_readLine_108 (by decide) (fun c63 => ?_) (fun c63 => ?_)
    · have i64 : iv r58 0 0 := iv_eq1 c63 i_r58 kc_0
      refine lv_iconst (v := 0) hx hb dX5_readLine_130 (by decide) ?_
      exact h_iret hQ hx hb hr hlocks rfl hK hI ⟨rfl, (iv_w (lo' := 0) (hi' := 1) kc_0 (by decide) (by decide))⟩ dX5_readLine_131
    · have i65 : iv r58 1 1 := iv_neL c63 i_r58 (by decide) (by decide)
      refine lv_aload_n hx hb dX5_readLine_111 rfl (lv_at hl 0 rfl) ?_
      refine lv_iconst (v := 0) hx hb dX5_readLine_112 (by decide) ?_
      refine h_goi hI (by decide) (va_runV (As := [.int (0 : Int32)]) (rest := []) ⟨hx, hb, hml, hown, hts⟩ (h_readEither_0 l D g σ Z hZ0 M59 N60 R a g_a (0 : Int32) kc_0) (cwV 1 hts gX5_readLine_X5_readEither rfl rfl rfl (by decide +kernel) ⟨Nat.le_of_ble_eq_true rfl, Nat.le_of_ble_eq_true rfl⟩) (h_preV hZ0 hK hE hI g_a (by decide) rfl) rfl rfl hl.1 rfl (lv_room (Nat.le_of_ble_eq_true rfl)) dX5_readLine_113 ⟨Nat.le_of_ble_eq_true rfl, Nat.le_of_ble_eq_true rfl⟩) (fun r66 M67 N68 R69 H locs q70 z_M67 hI => ?_)
      obtain ⟨rfl, i_r66⟩ := q70
      refine lv_if_eq (tgt := 130) hx hb dX5_readLine_116 (by decide) (fun c71 => ?_) (fun c71 => ?_)
      · have i72 : iv r66 0 0 := iv_eq1 c71 i_r66 kc_0
        refine lv_iconst (v := 0) hx hb dX5_readLine_130 (by decide) ?_
        exact h_iret hQ hx hb hr hlocks rfl hK hI ⟨rfl, (iv_w (lo' := 0) (hi' := 1) kc_0 (by decide) (by decide))⟩ dX5_readLine_131
      · have i73 : iv r66 1 1 := iv_neL c71 i_r66 (by decide) (by decide)
        refine lv_aload_n hx hb dX5_readLine_119 rfl (lv_at hl 0 rfl) ?_
        refine h_goi hI (by decide) (va_runV (As := []) (rest := []) ⟨hx, hb, hml, hown, hts⟩ (h_closeLine_X5 l D g σ Z hZ0 M67 N68 R a g_a) (cwV 0 hts gX5_readLine_X5_closeLine rfl rfl rfl (by decide +kernel) ⟨Nat.le_of_ble_eq_true rfl, Nat.le_of_ble_eq_true rfl⟩) (h_preV hZ0 hK hE hI g_a (by decide) rfl) rfl rfl hl.1 rfl (lv_room (Nat.le_of_ble_eq_true rfl)) dX5_readLine_120 ⟨Nat.le_of_ble_eq_true rfl, Nat.le_of_ble_eq_true rfl⟩) (fun r74 M75 N76 R77 H locs q78 z_M75 hI => ?_)
        obtain ⟨rfl, i_r74⟩ := q78
        refine lv_if_eq (tgt := 130) hx hb dX5_readLine_123 (by decide) (fun c79 => ?_) (fun c79 => ?_)
        · have i80 : iv r74 0 0 := iv_eq1 c79 i_r74 kc_0
          refine lv_iconst (v := 0) hx hb dX5_readLine_130 (by decide) ?_
          exact h_iret hQ hx hb hr hlocks rfl hK hI ⟨rfl, (iv_w (lo' := 0) (hi' := 1) kc_0 (by decide) (by decide))⟩ dX5_readLine_131
        · have i81 : iv r74 1 1 := iv_neL c79 i_r74 (by decide) (by decide)
          refine lv_iconst (v := 1) hx hb dX5_readLine_126 (by decide) ?_
          refine lv_goto (tgt := 131) hx hb dX5_readLine_127 (by decide) ?_
          exact h_iret hQ hx hb hr hlocks rfl hK hI ⟨rfl, (iv_w (lo' := 0) (hi' := 1) kc_1 (by decide) (by decide))⟩ dX5_readLine_131
  by_cases c82 : v1 = 4
  · refine lv_tableIn (tgt := 132) hx hb dX5_readLine_4 (by rw [c82]; decide) (by rw [c82]; decide) (by rw [c82] <;> rfl) (by decide) ?_
    have i83 : iv v1 4 4 := iv_eq1 c82 i_v1 kc_4
    refine lv_aload_n hx hb dX5_readLine_132 rfl (lv_at hl 0 rfl) ?_
    refine h_goi hI (by decide) (va_runV (As := []) (rest := []) ⟨hx, hb, hml, hown, hts⟩ (h_readOnce_X5 l D g σ Z hZ0 M N R a g_a) (cwV 0 hts gX5_readLine_X5_readOnce rfl rfl rfl (by decide +kernel) ⟨Nat.le_of_ble_eq_true rfl, Nat.le_of_ble_eq_true rfl⟩) (h_preV hZ0 hK hE hI g_a (by decide) rfl) rfl rfl hl.1 rfl (lv_room (Nat.le_of_ble_eq_true rfl)) dX5_readLine_133 ⟨Nat.le_of_ble_eq_true rfl, Nat.le_of_ble_eq_true rfl⟩) (fun r84 M85 N86 R87 H locs q88 z_M85 hI => ?_)
    obtain ⟨rfl, i_r84⟩ := q88
    refine lv_if_eq (tgt := 157) hx hb dX5_readLine_136 (by decide) (fun c89 => ?_) (fun c89 => ?_)
    · have i90 : iv r84 0 0 := iv_eq1 c89 i_r84 kc_0
      refine lv_iconst (v := 0) hx hb dX5_readLine_157 (by decide) ?_
      exact h_iret hQ hx hb hr hlocks rfl hK hI ⟨rfl, (iv_w (lo' := 0) (hi' := 1) kc_0 (by decide) (by decide))⟩ dX5_readLine_158
    · have i91 : iv r84 1 1 := iv_neL c89 i_r84 (by decide) (by decide)
      refine lv_aload_n hx hb dX5_readLine_139 rfl (lv_at hl 0 rfl) ?_
      refine h_goi hI (by decide) (va_runV (As := []) (rest := []) ⟨hx, hb, hml, hown, hts⟩ (h_readDies_X5 l D g σ Z hZ0 M85 N86 R a g_a) (cwV 0 hts gX5_readLine_X5_readDies rfl rfl rfl (by decide +kernel) ⟨Nat.le_of_ble_eq_true rfl, Nat.le_of_ble_eq_true rfl⟩) (h_preV hZ0 hK hE hI g_a (by decide) rfl) rfl rfl hl.1 rfl (lv_room (Nat.le_of_ble_eq_true rfl)) dX5_readLine_140 ⟨Nat.le_of_ble_eq_true rfl, Nat.le_of_ble_eq_true rfl⟩) (fun r92 M93 N94 R95 H locs q96 z_M93 hI => ?_)
      obtain ⟨rfl, i_r92⟩ := q96
      refine lv_if_eq (tgt := 157) hx hb dX5_readLine_143 (by decide) (fun c97 => ?_) (fun c97 => ?_)
      · have i98 : iv r92 0 0 := iv_eq1 c97 i_r92 kc_0
        refine lv_iconst (v := 0) hx hb dX5_readLine_157 (by decide) ?_
        exact h_iret hQ hx hb hr hlocks rfl hK hI ⟨rfl, (iv_w (lo' := 0) (hi' := 1) kc_0 (by decide) (by decide))⟩ dX5_readLine_158
      · have i99 : iv r92 1 1 := iv_neL c97 i_r92 (by decide) (by decide)
        refine lv_aload_n hx hb dX5_readLine_146 rfl (lv_at hl 0 rfl) ?_
        refine h_goi hI (by decide) (va_runV (As := []) (rest := []) ⟨hx, hb, hml, hown, hts⟩ (h_closeLine_X5 l D g σ Z hZ0 M93 N94 R a g_a) (cwV 0 hts gX5_readLine_X5_closeLine rfl rfl rfl (by decide +kernel) ⟨Nat.le_of_ble_eq_true rfl, Nat.le_of_ble_eq_true rfl⟩) (h_preV hZ0 hK hE hI g_a (by decide) rfl) rfl rfl hl.1 rfl (lv_room (Nat.le_of_ble_eq_true rfl)) dX5_readLine_147 ⟨Nat.le_of_ble_eq_true rfl, Nat.le_of_ble_eq_true rfl⟩) (fun r100 M101 N102 R103 H locs q104 z_M101 hI => ?_)
        obtain ⟨rfl, i_r100⟩ := q104
        refine lv_if_eq (tgt := 157) hx hb dX5_readLine_150 (by decide) (fun c105 => ?_) (fun c105 => ?_)
        · have i106 : iv r100 0 0 := iv_eq1 c105 i_r100 kc_0
          refine lv_iconst (v := 0) hx hb dX5_readLine_157 (by decide) ?_
          exact h_iret hQ hx hb hr hlocks rfl hK hI ⟨rfl, (iv_w (lo' := 0) (hi' := 1) kc_0 (by decide) (by decide))⟩ dX5_readLine_158
        · have i107 : iv r100 1 1 := iv_neL c105 i_r100 (by decide) (by decide)
          refine lv_iconst (v := 1) hx hb dX5_readLine_153 (by decide) ?_
          refine lv_goto (tgt := 158) hx hb dX5_readLine_154 (by decide) ?_
          exact h_iret hQ hx hb hr hlocks rfl hK hI ⟨rfl, (iv_w (lo' := 0) (hi' := 1) kc_1 (by decide) (by decide))⟩ dX5_readLine_158
  by_cases c108 : v1 = 5
  · refine lv_tableIn (tgt := 159) hx hb dX5_readLine_4 (by rw [c108]; decide) (by rw [c108]; decide) (by rw [c108] <;> rfl) (by decide) ?_
    have i109 : iv v1 5 5 := iv_eq1 c108 i_v1 kc_5
    refine lv_aload_n hx hb dX5_readLine_159 rfl (lv_at hl 0 rfl) ?_
    refine h_goi hI (by decide) (va_runV (As := []) (rest := []) ⟨hx, hb, hml, hown, hts⟩ (h_readOnce_X5 l D g σ Z hZ0 M N R a g_a) (cwV 0 hts gX5_readLine_X5_readOnce rfl rfl rfl (by decide +kernel) ⟨Nat.le_of_ble_eq_true rfl, Nat.le_of_ble_eq_true rfl⟩) (h_preV hZ0 hK hE hI g_a (by decide) rfl) rfl rfl hl.1 rfl (lv_room (Nat.le_of_ble_eq_true rfl)) dX5_readLine_160 ⟨Nat.le_of_ble_eq_true rfl, Nat.le_of_ble_eq_true rfl⟩) (fun r110 M111 N112 R113 H locs q114 z_M111 hI => ?_)
    obtain ⟨rfl, i_r110⟩ := q114
    refine lv_if_eq (tgt := 184) hx hb dX5_readLine_163 (by decide) (fun c115 => ?_) (fun c115 => ?_)
    · have i116 : iv r110 0 0 := iv_eq1 c115 i_r110 kc_0
      refine lv_iconst (v := 0) hx hb dX5_readLine_184 (by decide) ?_
      exact h_iret hQ hx hb hr hlocks rfl hK hI ⟨rfl, (iv_w (lo' := 0) (hi' := 1) kc_0 (by decide) (by decide))⟩ dX5_readLine_185
    · have i117 : iv r110 1 1 := iv_neL c115 i_r110 (by decide) (by decide)
      refine lv_aload_n hx hb dX5_readLine_166 rfl (lv_at hl 0 rfl) ?_
      refine h_goi hI (by decide) (va_runV (As := []) (rest := []) ⟨hx, hb, hml, hown, hts⟩ (h_readDraw_X5 l D g σ Z hZ0 M111 N112 R a g_a) (cwV 0 hts gX5_readLine_X5_readDraw rfl rfl rfl (by decide +kernel) ⟨Nat.le_of_ble_eq_true rfl, Nat.le_of_ble_eq_true rfl⟩) (h_preV hZ0 hK hE hI g_a (by decide) rfl) rfl rfl hl.1 rfl (lv_room (Nat.le_of_ble_eq_true rfl)) dX5_readLine_167 ⟨Nat.le_of_ble_eq_true rfl, Nat.le_of_ble_eq_true rfl⟩) (fun r118 M119 N120 R121 H locs q122 z_M119 hI => ?_)
      obtain ⟨rfl, i_r118⟩ := q122
      refine lv_if_eq (tgt := 184) hx hb dX5_readLine_170 (by decide) (fun c123 => ?_) (fun c123 => ?_)
      · have i124 : iv r118 0 0 := iv_eq1 c123 i_r118 kc_0
        refine lv_iconst (v := 0) hx hb dX5_readLine_184 (by decide) ?_
        exact h_iret hQ hx hb hr hlocks rfl hK hI ⟨rfl, (iv_w (lo' := 0) (hi' := 1) kc_0 (by decide) (by decide))⟩ dX5_readLine_185
      · have i125 : iv r118 1 1 := iv_neL c123 i_r118 (by decide) (by decide)
        refine lv_aload_n hx hb dX5_readLine_173 rfl (lv_at hl 0 rfl) ?_
        refine h_goi hI (by decide) (va_runV (As := []) (rest := []) ⟨hx, hb, hml, hown, hts⟩ (h_closeLine_X5 l D g σ Z hZ0 M119 N120 R a g_a) (cwV 0 hts gX5_readLine_X5_closeLine rfl rfl rfl (by decide +kernel) ⟨Nat.le_of_ble_eq_true rfl, Nat.le_of_ble_eq_true rfl⟩) (h_preV hZ0 hK hE hI g_a (by decide) rfl) rfl rfl hl.1 rfl (lv_room (Nat.le_of_ble_eq_true rfl)) dX5_readLine_174 ⟨Nat.le_of_ble_eq_true rfl, Nat.le_of_ble_eq_true rfl⟩) (fun r126 M127 N128 R129 H locs q130 z_M127 hI => ?_)
        obtain ⟨rfl, i_r126⟩ := q130
        refine lv_if_eq (tgt := 184) hx hb dX5_readLine_177 (by decide) (fun c131 => ?_) (fun c131 => ?_)
        · have i132 : iv r126 0 0 := iv_eq1 c131 i_r126 kc_0
          refine lv_iconst (v := 0) hx hb dX5_readLine_184 (by decide) ?_
          exact h_iret hQ hx hb hr hlocks rfl hK hI ⟨rfl, (iv_w (lo' := 0) (hi' := 1) kc_0 (by decide) (by decide))⟩ dX5_readLine_185
        · have i133 : iv r126 1 1 := iv_neL c131 i_r126 (by decide) (by decide)
          refine lv_iconst (v := 1) hx hb dX5_readLine_180 (by decide) ?_
          refine lv_goto (tgt := 185) hx hb dX5_readLine_181 (by decide) ?_
          exact h_iret hQ hx hb hr hlocks rfl hK hI ⟨rfl, (iv_w (lo' := 0) (hi' := 1) kc_1 (by decide) (by decide))⟩ dX5_readLine_185
  refine lv_tableOut (tgt := 186) hx hb dX5_readLine_4 (by have k0 : (0 : Int32).toInt = 0 := (by decide); have zc2 : ¬ v1.toInt = 0 := fun h9 => c2 (Int32.toInt_inj.mp (h9.trans k0.symm)); have k1 : (1 : Int32).toInt = 1 := (by decide); have zc20 : ¬ v1.toInt = 1 := fun h9 => c20 (Int32.toInt_inj.mp (h9.trans k1.symm)); have k2 : (2 : Int32).toInt = 2 := (by decide); have zc38 : ¬ v1.toInt = 2 := fun h9 => c38 (Int32.toInt_inj.mp (h9.trans k2.symm)); have k3 : (3 : Int32).toInt = 3 := (by decide); have zc56 : ¬ v1.toInt = 3 := fun h9 => c56 (Int32.toInt_inj.mp (h9.trans k3.symm)); have k4 : (4 : Int32).toInt = 4 := (by decide); have zc82 : ¬ v1.toInt = 4 := fun h9 => c82 (Int32.toInt_inj.mp (h9.trans k4.symm)); have k5 : (5 : Int32).toInt = 5 := (by decide); have zc108 : ¬ v1.toInt = 5 := fun h9 => c108 (Int32.toInt_inj.mp (h9.trans k5.symm)); have h8 := i_v1; simp only [iv] at h8; omega) (by decide) ?_
  refine lv_aload_n hx hb dX5_readLine_186 rfl (lv_at hl 0 rfl) ?_
  refine h_goi hI (by decide) (va_runV (As := []) (rest := []) ⟨hx, hb, hml, hown, hts⟩ (h_refuse_X5 l D g σ Z hZ0 M N R a g_a) (cwV 0 hts gX5_readLine_X5_refuse rfl rfl rfl (by decide +kernel) ⟨Nat.le_of_ble_eq_true rfl, Nat.le_of_ble_eq_true rfl⟩) (h_preV hZ0 hK hE hI g_a (by decide) rfl) rfl rfl hl.1 rfl (lv_room (Nat.le_of_ble_eq_true rfl)) dX5_readLine_187 ⟨Nat.le_of_ble_eq_true rfl, Nat.le_of_ble_eq_true rfl⟩) (fun r134 M135 N136 R137 H locs q138 z_M135 hI => ?_)
  obtain ⟨rfl, rfl, i_r134⟩ := q138
  exact h_iret hQ hx hb hr hlocks (nar_z (iv_w (lo' := 0) (hi' := 1) i_r134 (by decide) (by decide))) hK hI ⟨rfl, (iv_w (lo' := 0) (hi' := 1) i_r134 (by decide) (by decide))⟩ dX5_readLine_190
abbrev e_h_finish_X5 : List (Nat × Nat) := [(2, 2), (7, 5), (17, 999)]
set_option maxHeartbeats 4000000 in
set_option maxRecDepth 100000 in
theorem h_finish_X5 (l : Launch) (D : va_G) (g : Nat → ClassId) (σ : Nat → Option Nat) (Z : State → Heap → Prop) (hZ0 : hZ σ Z) (M : hM) (N : hN) (R : hR) (a : Nat) (g_a : σ a = some 5) : Met l yX5_finish wsX5_finish ({ frames := 3, cells := 0, slots := 0, locals := 62 }) (va_Pc [.ref a] (hPre D g σ Z M N R)) (hQv D g σ e_h_finish_X5 M (fun (M1 : hM) (N1 : hN) (R1 : hR) => N = N1 ∧ R = R1)) 0 0 (hA σ) := by
  refine h_head (cc := cX5_finish) (maxL := 1) (ret := none) (by decide) rfl (Nat.le_of_ble_eq_true rfl) e_h_finish_X5 ?_
  intro p e s m below meth c ls Q ar hQ hx hb hr hlocks hml hown hts hK hE H locs hI hl
  have hown : s.vm.findClass RX5 = some m.cls := hown
  have hl : lv_has ls 1 [(0, .ref a)] := hl
  refine lv_aload_n hx hb dX5_finish_0 rfl (lv_at hl 0 rfl) ?_
  refine h_getr hx hb hts iX5_finish_X5 hown hK hI g_a (by decide) rfl rfl 0 (by decide) rfl 4 rfl (hts (.fieldLink RX5 12 "CatLeases$Reader" "mews" "LCatLeases$Mews;") (List.mem_of_getElem? (i := 1) rfl)) (fun _ h9 => h9) dX5_finish_1 (fun a1 e_a1 g_a1 => ?_)
  refine h_getr hx hb hts iX5_finish_X4 hown hK hI g_a1 (by decide) rfl rfl 8 (by decide) rfl 7 rfl (hts (.fieldLink RX5 100 "CatLeases$Mews" "told" "LCatLeases$State;") (List.mem_of_getElem? (i := 2) rfl)) (fun _ h9 => h9) dX5_finish_4 (fun a2 e_a2 g_a2 => ?_)
  refine lv_iconst (v := 1) hx hb dX5_finish_7 (by decide) ?_
  refine lv_aload_n hx hb dX5_finish_8 rfl (lv_at hl 0 rfl) ?_
  refine h_getr hx hb hts iX5_finish_X5 hown hK hI g_a (by decide) rfl rfl 0 (by decide) rfl 4 rfl (hts (.fieldLink RX5 12 "CatLeases$Reader" "mews" "LCatLeases$Mews;") (List.mem_of_getElem? (i := 1) rfl)) (fun _ h9 => h9) dX5_finish_9 (fun a3 e_a3 g_a3 => ?_)
  have q4 : a1 = a3 := (e_a1).trans e_a3.symm
  subst q4
  refine h_geti (lo := 0) (hi := 6) hx hb hts iX5_finish_X4 hown hK hI g_a1 (by decide) rfl rfl 0 (by decide) rfl rfl (hts (.fieldLink RX5 104 "CatLeases$Mews" "cats" "I") (List.mem_of_getElem? (i := 3) rfl)) (fun _ h9 => h9) dX5_finish_12 (fun v5 e_v5 i_v5 => ?_)
  refine lv_ishl hx hb dX5_finish_15 ?_
  refine h_nm (lo := 1) (hi := 64) (iv_shl1 6 i_v5 (by decide) (by decide) (by decide) (by decide) (by decide)) (fun v6 e_v6 i_v6 => ?_)
  refine lv_iconst (v := 1) hx hb dX5_finish_16 (by decide) ?_
  refine lv_isub hx hb dX5_finish_17 ?_
  refine h_nm (lo := 0) (hi := 63) (iv_sub i_v6 kc_1 (by decide) (by decide) (by decide) (by decide)) (fun v7 e_v7 i_v7 => ?_)
  refine h_puti hx hb hts iX5_finish_X7 tyX7 tyX7_ok nmX7 hown hK hI g_a2 (by decide) rfl rfl 5 (by decide) rfl (hts (.fieldLink RX5 107 "CatLeases$State" "living" "I") (List.mem_of_getElem? (i := 4) rfl)) (fun _ h9 => h9) rfl .int (by decide +kernel) rfl rfl (iv_w (lo' := (-2147483648)) (hi' := 2147483647) i_v7 (by decide) (by decide)) rfl dX5_finish_18 (fun M8 H locs e_M8 hI => ?_)
  refine lv_aload_n hx hb dX5_finish_21 rfl (lv_at hl 0 rfl) ?_
  refine h_geti (lo := (-2147483648)) (hi := 2147483647) hx hb hts iX5_finish_X5 hown hK hI g_a (by decide) rfl rfl 9 (by decide) rfl rfl (hts (.fieldLink RX5 45 "CatLeases$Reader" "toldOnce" "I") (List.mem_of_getElem? (i := 5) rfl)) (fun _ h9 => h9) dX5_finish_22 (fun v9 e_v9 i_v9 => ?_)
  refine lv_iconst (v := 3) hx hb dX5_finish_25 (by decide) ?_
  refine lv_ishr hx hb dX5_finish_26 ?_
  refine h_nm (lo := (-2147483648)) (hi := 2147483647) (iv_any _) (fun v10 e_v10 i_v10 => ?_)
  refine lv_iconst (v := 1) hx hb dX5_finish_27 (by decide) ?_
  refine lv_iand hx hb dX5_finish_28 ?_
  refine h_nm (lo := 0) (hi := 1) (iv_and 1 (by decide) (by decide) (by decide)) (fun v11 e_v11 i_v11 => ?_)
  refine lv_if_ne (tgt := 42) hx hb dX5_finish_29 (by decide) (fun c12 => ?_) (fun c12 => ?_)
  · have i13 : iv v11 1 1 := iv_neL c12 i_v11 (by decide) (by decide)
    exact h_vret hQ hx hb hr hlocks hK hI ⟨rfl, rfl⟩ dX5_finish_42
  · have i14 : iv v11 0 0 := iv_eq1 c12 i_v11 kc_0
    refine lv_aload_n hx hb dX5_finish_32 rfl (lv_at hl 0 rfl) ?_
    refine h_getr hx hb hts iX5_finish_X5 hown hK hI g_a (by decide) rfl rfl 0 (by decide) rfl 4 rfl (hts (.fieldLink RX5 12 "CatLeases$Reader" "mews" "LCatLeases$Mews;") (List.mem_of_getElem? (i := 1) rfl)) (fun _ h9 => h9) dX5_finish_33 (fun a15 e_a15 g_a15 => ?_)
    have q16 : a1 = a15 := (e_a1).trans e_a15.symm
    subst q16
    refine h_getr hx hb hts iX5_finish_X4 hown hK hI g_a1 (by decide) rfl rfl 9 (by decide) rfl 2 rfl (hts (.fieldLink RX5 112 "CatLeases$Mews" "formula" "LCatLeases$Formula;") (List.mem_of_getElem? (i := 6) rfl)) (fun _ h9 => h9) dX5_finish_36 (fun a17 e_a17 g_a17 => ?_)
    refine h_gov hI (by decide) (va_runV (As := []) (rest := []) ⟨hx, hb, hml, hown, hts⟩ (h_addUntold_X2 l D g σ Z hZ0 M8 N R a17 g_a17) (cwV 0 hts gX5_finish_X2_addUntold rfl rfl rfl (by decide +kernel) ⟨Nat.le_of_ble_eq_true rfl, Nat.le_of_ble_eq_true rfl⟩) (h_preV hZ0 hK hE hI g_a17 (by decide) rfl) rfl rfl hl.1 rfl (lv_room (Nat.le_of_ble_eq_true rfl)) dX5_finish_39 ⟨Nat.le_of_ble_eq_true rfl, Nat.le_of_ble_eq_true rfl⟩) (fun M19 N20 R21 H locs q22 z_M19 hI => ?_)
    obtain ⟨rfl, rfl⟩ := q22
    exact h_vret hQ hx hb hr hlocks hK hI ⟨rfl, rfl⟩ dX5_finish_42
