abbrev e_h_readTerm_1 : List (Nat × Nat) := [(2, 2), (4, 4), (5, 1), (5, 2), (5, 10), (5, 11), (5, 12), (5, 13), (17, 999)]
set_option maxHeartbeats 4000000 in
set_option maxRecDepth 100000 in
theorem h_readTerm_1 (l : Launch) (D : va_G) (g : Nat → ClassId) (σ : Nat → Option Nat) (Z : State → Heap → Prop) (hZ0 : hZ σ Z) (M : hM) (N : hN) (R : hR) (a : Nat) (g_a : σ a = some 5) (p1 : Int32) (h_p1 : iv p1 1 1) : Met l yX5_readTerm wsX5_readTerm ({ frames := 48, cells := 0, slots := 0, locals := 1094 }) (va_Pc [.ref a, .int p1] (hPre D g σ Z M N R)) (hQi D g σ e_h_readTerm_1 M (fun (r : Int32) (M1 : hM) (N1 : hN) (R1 : hR) => R = R1 ∧ iv r 0 1)) 0 0 (hA σ) := by
  refine h_head (cc := cX5_readTerm) (maxL := 5) (ret := (some .boolean)) (by decide) rfl (Nat.le_of_ble_eq_true rfl) e_h_readTerm_1 ?_
  intro p e s m below meth c ls Q ar hQ hx hb hr hlocks hml hown hts hK hE H locs hI hl
  have hown : s.vm.findClass RX5 = some m.cls := hown
  have hl : lv_has ls 5 [(0, .ref a), (1, .int p1)] := hl
  refine lv_aload_n hx hb dX5_readTerm_0 rfl (lv_at hl 0 rfl) ?_
  refine lv_iload_n hx hb dX5_readTerm_1 rfl (lv_at hl 1 rfl) ?_
  refine h_goi hI (by decide) (va_runV (As := [.int p1]) (rest := []) ⟨hx, hb, hml, hown, hts⟩ (h_readUnit_1 l D g σ Z hZ0 M N R a g_a p1 h_p1) (cwV 1 hts gX5_readTerm_X5_readUnit rfl rfl rfl (by decide +kernel) ⟨Nat.le_of_ble_eq_true rfl, Nat.le_of_ble_eq_true rfl⟩) (h_preV hZ0 hK hE hI g_a (by decide) rfl) rfl rfl hl.1 rfl (lv_room (Nat.le_of_ble_eq_true rfl)) dX5_readTerm_2 ⟨Nat.le_of_ble_eq_true rfl, Nat.le_of_ble_eq_true rfl⟩) (fun r1 M2 N3 R4 H locs q5 z_M2 hI => ?_)
  obtain ⟨rfl, i_r1⟩ := q5
  refine lv_istore_n (lv' := [(2, .int r1), (0, .ref a), (1, .int p1)]) hx hb dX5_readTerm_5 rfl hl (by decide) rfl (fun ls hl => ?_)
  refine lv_iconst (v := 0) hx hb dX5_readTerm_6 (by decide) ?_
  have J8 : ∀ (n : Nat) (M_8 : hM) (N_8 : hN) (v2_8 : Int32) (v3_8 : Int32) (H : Heap) (locs : List Loc) (ls : Array Slot), kI D g σ e_h_readTerm_1 M s.heap M_8 N_8 R H locs → lv_has ls 5 [(0, .ref a), (1, .int p1), (2, .int v2_8), (3, .int v3_8)] → iv v2_8 0 1 → iv v3_8 0 30 → 31 ≤ v3_8.toInt + (n : Int) → W p l e (headSpec wsX5_readTerm ({ frames := 48, cells := 0, slots := 0, locals := 1094 })).room s m ar below meth c H locs 0 0 Q (F0 m 8 ls []) := by
    intro n
    induction n with
    | zero => intro M_8 N_8 v2_8 v3_8 H locs ls hI hl i_v2_8 i_v3_8 hn; exfalso; have hz := i_v3_8; simp only [iv] at hz; omega
    | succ n ih8 =>
      intro M_8 N_8 v2_8 v3_8 H locs ls hI hl i_v2_8 i_v3_8 hn8
      refine lv_iload_n hx hb dX5_readTerm_8 rfl (lv_at hl 3 rfl) ?_
      refine lv_bipush (v := 30) hx hb dX5_readTerm_9 (by decide) ?_
      refine lv_icmp_ge (tgt := 65) hx hb dX5_readTerm_11 (by decide) (fun c6 => ?_) (fun c6 => ?_)
      · have i7 : iv v3_8 30 30 := iv_le2 c6 kc_30 i_v3_8 (by decide)
        refine lv_iload_n hx hb dX5_readTerm_65 rfl (lv_at hl 2 rfl) ?_
        exact h_iret hQ hx hb hr hlocks (nar_z i_v2_8) hK hI ⟨rfl, i_v2_8⟩ dX5_readTerm_66
      · have i8 : iv v3_8 0 29 := iv_nle2 c6 kc_30 i_v3_8 (by decide)
        refine lv_iload_n hx hb dX5_readTerm_14 rfl (lv_at hl 2 rfl) ?_
        refine lv_if_eq (tgt := 65) hx hb dX5_readTerm_15 (by decide) (fun c9 => ?_) (fun c9 => ?_)
        · have i10 : iv v2_8 0 0 := iv_eq1 c9 i_v2_8 kc_0
          refine lv_iload_n hx hb dX5_readTerm_65 rfl (lv_at hl 2 rfl) ?_
          exact h_iret hQ hx hb hr hlocks (nar_z (iv_w (lo' := 0) (hi' := 1) i10 (by decide) (by decide))) hK hI ⟨rfl, (iv_w (lo' := 0) (hi' := 1) i10 (by decide) (by decide))⟩ dX5_readTerm_66
        · have i11 : iv v2_8 1 1 := iv_neL c9 i_v2_8 (by decide) (by decide)
          refine lv_aload_n hx hb dX5_readTerm_18 rfl (lv_at hl 0 rfl) ?_
          refine h_geti (lo := (-2147483648)) (hi := 2147483647) hx hb hts iX5_readTerm_X5 hown hK hI g_a (by decide) rfl rfl 12 (by decide) rfl rfl (hts (.fieldLink RX5 54 "CatLeases$Reader" "kind" "I") (List.mem_of_getElem? (i := 1) rfl)) (fun _ h9 => h9) dX5_readTerm_19 (fun v12 e_v12 i_v12 => ?_)
          refine h_goi hI (by decide) (va_runS (As := [.int v12]) (rest := []) ⟨hx, hb, hml, hown, hts⟩ (h_multiplying_X5 l D g σ Z hZ0 M_8 N_8 R v12) (va_cwS 1 hts gX5_readTerm_X5_multiplying rfl rfl rfl (by decide +kernel) ⟨Nat.le_of_ble_eq_true rfl, Nat.le_of_ble_eq_true rfl⟩) (h_preS hZ0 hK hE hI) rfl rfl hl.1 rfl (lv_room (Nat.le_of_ble_eq_true rfl)) dX5_readTerm_22 ⟨Nat.le_of_ble_eq_true rfl, Nat.le_of_ble_eq_true rfl⟩) (fun r13 M14 N15 R16 H locs q17 z_M14 hI => ?_)
          obtain ⟨rfl, rfl, rfl, i_r13⟩ := q17
          refine lv_if_eq (tgt := 65) hx hb dX5_readTerm_25 (by decide) (fun c18 => ?_) (fun c18 => ?_)
          · have i19 : iv r13 0 0 := iv_eq1 c18 i_r13 kc_0
            refine lv_iload_n hx hb dX5_readTerm_65 rfl (lv_at hl 2 rfl) ?_
            exact h_iret hQ hx hb hr hlocks (nar_z (iv_w (lo' := 0) (hi' := 1) i11 (by decide) (by decide))) hK hI ⟨rfl, (iv_w (lo' := 0) (hi' := 1) i11 (by decide) (by decide))⟩ dX5_readTerm_66
          · have i20 : iv r13 (-30) (-1) := iv_neH c18 i_r13 (by decide) (by decide)
            refine lv_aload_n hx hb dX5_readTerm_28 rfl (lv_at hl 0 rfl) ?_
            refine h_geti (lo := (-2147483648)) (hi := 2147483647) hx hb hts iX5_readTerm_X5 hown hK hI g_a (by decide) rfl rfl 12 (by decide) rfl rfl (hts (.fieldLink RX5 54 "CatLeases$Reader" "kind" "I") (List.mem_of_getElem? (i := 1) rfl)) (fun _ h9 => h9) dX5_readTerm_29 (fun v21 e_v21 i_v21 => ?_)
            have q22 : v12 = v21 := (e_v12).trans e_v21.symm
            subst q22
            refine h_goi hI (by decide) (va_runS (As := [.int v12]) (rest := []) ⟨hx, hb, hml, hown, hts⟩ (h_multiplying_X5 l D g σ Z hZ0 M_8 N_8 R v12) (va_cwS 1 hts gX5_readTerm_X5_multiplying rfl rfl rfl (by decide +kernel) ⟨Nat.le_of_ble_eq_true rfl, Nat.le_of_ble_eq_true rfl⟩) (h_preS hZ0 hK hE hI) rfl rfl hl.1 rfl (lv_room (Nat.le_of_ble_eq_true rfl)) dX5_readTerm_32 ⟨Nat.le_of_ble_eq_true rfl, Nat.le_of_ble_eq_true rfl⟩) (fun r23 M24 N25 R26 H locs q27 z_M24 hI => ?_)
            obtain ⟨rfl, rfl, rfl, i_r23⟩ := q27
            refine lv_istore (lv' := [(4, .int r23), (0, .ref a), (1, .int p1), (2, .int v2_8), (3, .int v3_8)]) hx hb dX5_readTerm_35 hl (by decide) rfl (fun ls hl => ?_)
            refine lv_aload_n hx hb dX5_readTerm_37 rfl (lv_at hl 1 rfl) ?_
            refine h_gov hI (by decide) (va_runV (As := []) (rest := []) ⟨hx, hb, hml, hown, hts⟩ (h_advance_X5 l D g σ Z hZ0 M_8 N_8 R a g_a) (cwV 0 hts gX5_readTerm_X5_advance rfl rfl rfl (by decide +kernel) ⟨Nat.le_of_ble_eq_true rfl, Nat.le_of_ble_eq_true rfl⟩) (h_preV hZ0 hK hE hI g_a (by decide) rfl) rfl rfl hl.1 rfl (lv_room (Nat.le_of_ble_eq_true rfl)) dX5_readTerm_38 ⟨Nat.le_of_ble_eq_true rfl, Nat.le_of_ble_eq_true rfl⟩) (fun M29 N30 R31 H locs q32 z_M29 hI => ?_)
            subst q32
            refine lv_aload_n hx hb dX5_readTerm_41 rfl (lv_at hl 1 rfl) ?_
            refine lv_iload_n hx hb dX5_readTerm_42 rfl (lv_at hl 2 rfl) ?_
            refine h_goi hI (by decide) (va_runV (As := [.int p1]) (rest := []) ⟨hx, hb, hml, hown, hts⟩ (h_readUnit_1 l D g σ Z hZ0 M29 N30 R a g_a p1 h_p1) (cwV 1 hts gX5_readTerm_X5_readUnit rfl rfl rfl (by decide +kernel) ⟨Nat.le_of_ble_eq_true rfl, Nat.le_of_ble_eq_true rfl⟩) (h_preV hZ0 hK hE hI g_a (by decide) rfl) rfl rfl hl.1 rfl (lv_room (Nat.le_of_ble_eq_true rfl)) dX5_readTerm_43 ⟨Nat.le_of_ble_eq_true rfl, Nat.le_of_ble_eq_true rfl⟩) (fun r33 M34 N35 R36 H locs q37 z_M34 hI => ?_)
            obtain ⟨rfl, i_r33⟩ := q37
            refine lv_istore_n (lv' := [(2, .int r33), (4, .int r23), (0, .ref a), (1, .int p1), (3, .int v3_8)]) hx hb dX5_readTerm_46 rfl hl (by decide) rfl (fun ls hl => ?_)
            refine lv_aload_n hx hb dX5_readTerm_47 rfl (lv_at hl 2 rfl) ?_
            refine h_getr hx hb hts iX5_readTerm_X5 hown hK hI g_a (by decide) rfl rfl 0 (by decide) rfl 4 rfl (hts (.fieldLink RX5 12 "CatLeases$Reader" "mews" "LCatLeases$Mews;") (List.mem_of_getElem? (i := 2) rfl)) (fun _ h9 => h9) dX5_readTerm_48 (fun a38 e_a38 g_a38 => ?_)
            refine h_getr hx hb hts iX5_readTerm_X4 hown hK hI g_a38 (by decide) rfl rfl 9 (by decide) rfl 2 rfl (hts (.fieldLink RX5 112 "CatLeases$Mews" "formula" "LCatLeases$Formula;") (List.mem_of_getElem? (i := 3) rfl)) (fun _ h9 => h9) dX5_readTerm_51 (fun a39 e_a39 g_a39 => ?_)
            refine lv_iload hx hb dX5_readTerm_54 (lv_at hl 1 rfl) ?_
            refine h_gov hI (by decide) (va_runV (As := [.int r23]) (rest := []) ⟨hx, hb, hml, hown, hts⟩ (h_addStep_X2 l D g σ Z hZ0 M34 N35 R a39 g_a39 r23) (cwV 1 hts gX5_readTerm_X2_addStep rfl rfl rfl (by decide +kernel) ⟨Nat.le_of_ble_eq_true rfl, Nat.le_of_ble_eq_true rfl⟩) (h_preV hZ0 hK hE hI g_a39 (by decide) rfl) rfl rfl hl.1 rfl (lv_room (Nat.le_of_ble_eq_true rfl)) dX5_readTerm_56 ⟨Nat.le_of_ble_eq_true rfl, Nat.le_of_ble_eq_true rfl⟩) (fun M41 N42 R43 H locs q44 z_M41 hI => ?_)
            obtain ⟨rfl, rfl⟩ := q44
            obtain ⟨v45, e_v45⟩ : ∃ z : Int32, z = v3_8 + Int32.ofInt 1 := ⟨_, rfl⟩
            have i_v45 : iv v45 1 30 := by rw [e_v45]; exact iv_add i8 (ki_1) (by decide) (by decide) (by decide) (by decide)
            refine lv_iinc (v := v45) (lv' := [(3, .int v45), (2, .int r33), (4, .int r23), (0, .ref a), (1, .int p1)]) hx hb dX5_readTerm_59 hl (k := 4) rfl e_v45.symm (by decide) rfl (fun ls hl => ?_)
            refine lv_goto (tgt := 8) hx hb dX5_readTerm_62 (by decide) ?_
            exact ih8 M41 N35 r33 v45 H locs ls hI (lv_sub hl [3, 4, 1, 0] rfl) i_r33 (iv_w (lo' := 0) (hi' := 30) i_v45 (by decide) (by decide)) (by have h9 := (h_inc e_v45 i8 ki_1 (by decide) (by decide)); omega)
  refine lv_istore_n (lv' := [(3, .int (0 : Int32)), (2, .int r1), (0, .ref a), (1, .int p1)]) hx hb dX5_readTerm_7 rfl hl (by decide) rfl (fun ls hl => ?_)
  exact J8 31 M2 N3 r1 (0 : Int32) H locs ls hI (lv_sub hl [2, 3, 1, 0] rfl) i_r1 (iv_w (lo' := 0) (hi' := 30) kc_0 (by decide) (by decide)) (by have h9 := kc_0; simp only [iv] at h9; omega)
abbrev e_h_readSum_1 : List (Nat × Nat) := [(2, 2), (4, 4), (5, 1), (5, 2), (5, 10), (5, 11), (5, 12), (5, 13), (17, 999)]
set_option maxHeartbeats 4000000 in
set_option maxRecDepth 100000 in
theorem h_readSum_1 (l : Launch) (D : va_G) (g : Nat → ClassId) (σ : Nat → Option Nat) (Z : State → Heap → Prop) (hZ0 : hZ σ Z) (M : hM) (N : hN) (R : hR) (a : Nat) (g_a : σ a = some 5) (p1 : Int32) (h_p1 : iv p1 1 1) : Met l yX5_readSum wsX5_readSum ({ frames := 49, cells := 0, slots := 0, locals := 1118 }) (va_Pc [.ref a, .int p1] (hPre D g σ Z M N R)) (hQi D g σ e_h_readSum_1 M (fun (r : Int32) (M1 : hM) (N1 : hN) (R1 : hR) => R = R1 ∧ iv r 0 1)) 0 0 (hA σ) := by
  refine h_head (cc := cX5_readSum) (maxL := 5) (ret := (some .boolean)) (by decide) rfl (Nat.le_of_ble_eq_true rfl) e_h_readSum_1 ?_
  intro p e s m below meth c ls Q ar hQ hx hb hr hlocks hml hown hts hK hE H locs hI hl
  have hown : s.vm.findClass RX5 = some m.cls := hown
  have hl : lv_has ls 5 [(0, .ref a), (1, .int p1)] := hl
  refine lv_aload_n hx hb dX5_readSum_0 rfl (lv_at hl 0 rfl) ?_
  refine lv_iload_n hx hb dX5_readSum_1 rfl (lv_at hl 1 rfl) ?_
  refine h_goi hI (by decide) (va_runV (As := [.int p1]) (rest := []) ⟨hx, hb, hml, hown, hts⟩ (h_readTerm_1 l D g σ Z hZ0 M N R a g_a p1 h_p1) (cwV 1 hts gX5_readSum_X5_readTerm rfl rfl rfl (by decide +kernel) ⟨Nat.le_of_ble_eq_true rfl, Nat.le_of_ble_eq_true rfl⟩) (h_preV hZ0 hK hE hI g_a (by decide) rfl) rfl rfl hl.1 rfl (lv_room (Nat.le_of_ble_eq_true rfl)) dX5_readSum_2 ⟨Nat.le_of_ble_eq_true rfl, Nat.le_of_ble_eq_true rfl⟩) (fun r1 M2 N3 R4 H locs q5 z_M2 hI => ?_)
  obtain ⟨rfl, i_r1⟩ := q5
  refine lv_istore_n (lv' := [(2, .int r1), (0, .ref a), (1, .int p1)]) hx hb dX5_readSum_5 rfl hl (by decide) rfl (fun ls hl => ?_)
  refine lv_iconst (v := 0) hx hb dX5_readSum_6 (by decide) ?_
  have J8 : ∀ (n : Nat) (M_8 : hM) (N_8 : hN) (v2_8 : Int32) (v3_8 : Int32) (H : Heap) (locs : List Loc) (ls : Array Slot), kI D g σ e_h_readSum_1 M s.heap M_8 N_8 R H locs → lv_has ls 5 [(0, .ref a), (1, .int p1), (2, .int v2_8), (3, .int v3_8)] → iv v2_8 0 1 → iv v3_8 0 30 → 31 ≤ v3_8.toInt + (n : Int) → W p l e (headSpec wsX5_readSum ({ frames := 49, cells := 0, slots := 0, locals := 1118 })).room s m ar below meth c H locs 0 0 Q (F0 m 8 ls []) := by
    intro n
    induction n with
    | zero => intro M_8 N_8 v2_8 v3_8 H locs ls hI hl i_v2_8 i_v3_8 hn; exfalso; have hz := i_v3_8; simp only [iv] at hz; omega
    | succ n ih8 =>
      intro M_8 N_8 v2_8 v3_8 H locs ls hI hl i_v2_8 i_v3_8 hn8
      refine lv_iload_n hx hb dX5_readSum_8 rfl (lv_at hl 3 rfl) ?_
      refine lv_bipush (v := 30) hx hb dX5_readSum_9 (by decide) ?_
      refine lv_icmp_ge (tgt := 82) hx hb dX5_readSum_11 (by decide) (fun c6 => ?_) (fun c6 => ?_)
      · have i7 : iv v3_8 30 30 := iv_le2 c6 kc_30 i_v3_8 (by decide)
        refine lv_iload_n hx hb dX5_readSum_82 rfl (lv_at hl 2 rfl) ?_
        exact h_iret hQ hx hb hr hlocks (nar_z i_v2_8) hK hI ⟨rfl, i_v2_8⟩ dX5_readSum_83
      · have i8 : iv v3_8 0 29 := iv_nle2 c6 kc_30 i_v3_8 (by decide)
        refine lv_iload_n hx hb dX5_readSum_14 rfl (lv_at hl 2 rfl) ?_
        refine lv_if_eq (tgt := 82) hx hb dX5_readSum_15 (by decide) (fun c9 => ?_) (fun c9 => ?_)
        · have i10 : iv v2_8 0 0 := iv_eq1 c9 i_v2_8 kc_0
          refine lv_iload_n hx hb dX5_readSum_82 rfl (lv_at hl 2 rfl) ?_
          exact h_iret hQ hx hb hr hlocks (nar_z (iv_w (lo' := 0) (hi' := 1) i10 (by decide) (by decide))) hK hI ⟨rfl, (iv_w (lo' := 0) (hi' := 1) i10 (by decide) (by decide))⟩ dX5_readSum_83
        · have i11 : iv v2_8 1 1 := iv_neL c9 i_v2_8 (by decide) (by decide)
          refine lv_aload_n hx hb dX5_readSum_18 rfl (lv_at hl 0 rfl) ?_
          refine h_geti (lo := (-2147483648)) (hi := 2147483647) hx hb hts iX5_readSum_X5 hown hK hI g_a (by decide) rfl rfl 12 (by decide) rfl rfl (hts (.fieldLink RX5 54 "CatLeases$Reader" "kind" "I") (List.mem_of_getElem? (i := 1) rfl)) (fun _ h9 => h9) dX5_readSum_19 (fun v12 e_v12 i_v12 => ?_)
          refine lv_bipush (v := 43) hx hb dX5_readSum_22 (by decide) ?_
          have J36 : ∀ (H : Heap) (locs : List Loc) (ls : Array Slot), kI D g σ e_h_readSum_1 M s.heap M_8 N_8 R H locs → lv_has ls 5 [(0, .ref a), (1, .int p1), (3, .int v3_8)] → W p l e (headSpec wsX5_readSum ({ frames := 49, cells := 0, slots := 0, locals := 1118 })).room s m ar below meth c H locs 0 0 Q (F0 m 36 ls []) := by
            intro H locs ls hI hl
            refine lv_aload_n hx hb dX5_readSum_36 rfl (lv_at hl 0 rfl) ?_
            refine h_geti (lo := (-2147483648)) (hi := 2147483647) hx hb hts iX5_readSum_X5 hown hK hI g_a (by decide) rfl rfl 12 (by decide) rfl rfl (hts (.fieldLink RX5 54 "CatLeases$Reader" "kind" "I") (List.mem_of_getElem? (i := 1) rfl)) (fun _ h9 => h9) dX5_readSum_37 (fun v13 e_v13 i_v13 => ?_)
            have q14 : v12 = v13 := (e_v12).trans e_v13.symm
            subst q14
            refine lv_bipush (v := 43) hx hb dX5_readSum_40 (by decide) ?_
            have J52 : ∀ (t0_52 : Int32) (H : Heap) (locs : List Loc) (ls : Array Slot), kI D g σ e_h_readSum_1 M s.heap M_8 N_8 R H locs → lv_has ls 5 [(0, .ref a), (1, .int p1), (3, .int v3_8)] → iv t0_52 (-27) (-26) → W p l e (headSpec wsX5_readSum ({ frames := 49, cells := 0, slots := 0, locals := 1118 })).room s m ar below meth c H locs 0 0 Q (F0 m 52 ls [.int t0_52]) := by
              intro t0_52 H locs ls hI hl i_t0_52
              refine lv_istore (lv' := [(4, .int t0_52), (0, .ref a), (1, .int p1), (3, .int v3_8)]) hx hb dX5_readSum_52 hl (by decide) rfl (fun ls hl => ?_)
              refine lv_aload_n hx hb dX5_readSum_54 rfl (lv_at hl 1 rfl) ?_
              refine h_gov hI (by decide) (va_runV (As := []) (rest := []) ⟨hx, hb, hml, hown, hts⟩ (h_advance_X5 l D g σ Z hZ0 M_8 N_8 R a g_a) (cwV 0 hts gX5_readSum_X5_advance rfl rfl rfl (by decide +kernel) ⟨Nat.le_of_ble_eq_true rfl, Nat.le_of_ble_eq_true rfl⟩) (h_preV hZ0 hK hE hI g_a (by decide) rfl) rfl rfl hl.1 rfl (lv_room (Nat.le_of_ble_eq_true rfl)) dX5_readSum_55 ⟨Nat.le_of_ble_eq_true rfl, Nat.le_of_ble_eq_true rfl⟩) (fun M16 N17 R18 H locs q19 z_M16 hI => ?_)
              subst q19
              refine lv_aload_n hx hb dX5_readSum_58 rfl (lv_at hl 1 rfl) ?_
              refine lv_iload_n hx hb dX5_readSum_59 rfl (lv_at hl 2 rfl) ?_
              refine h_goi hI (by decide) (va_runV (As := [.int p1]) (rest := []) ⟨hx, hb, hml, hown, hts⟩ (h_readTerm_1 l D g σ Z hZ0 M16 N17 R a g_a p1 h_p1) (cwV 1 hts gX5_readSum_X5_readTerm rfl rfl rfl (by decide +kernel) ⟨Nat.le_of_ble_eq_true rfl, Nat.le_of_ble_eq_true rfl⟩) (h_preV hZ0 hK hE hI g_a (by decide) rfl) rfl rfl hl.1 rfl (lv_room (Nat.le_of_ble_eq_true rfl)) dX5_readSum_60 ⟨Nat.le_of_ble_eq_true rfl, Nat.le_of_ble_eq_true rfl⟩) (fun r20 M21 N22 R23 H locs q24 z_M21 hI => ?_)
              obtain ⟨rfl, i_r20⟩ := q24
              refine lv_istore_n (lv' := [(2, .int r20), (4, .int t0_52), (0, .ref a), (1, .int p1), (3, .int v3_8)]) hx hb dX5_readSum_63 rfl hl (by decide) rfl (fun ls hl => ?_)
              refine lv_aload_n hx hb dX5_readSum_64 rfl (lv_at hl 2 rfl) ?_
              refine h_getr hx hb hts iX5_readSum_X5 hown hK hI g_a (by decide) rfl rfl 0 (by decide) rfl 4 rfl (hts (.fieldLink RX5 12 "CatLeases$Reader" "mews" "LCatLeases$Mews;") (List.mem_of_getElem? (i := 2) rfl)) (fun _ h9 => h9) dX5_readSum_65 (fun a25 e_a25 g_a25 => ?_)
              refine h_getr hx hb hts iX5_readSum_X4 hown hK hI g_a25 (by decide) rfl rfl 9 (by decide) rfl 2 rfl (hts (.fieldLink RX5 112 "CatLeases$Mews" "formula" "LCatLeases$Formula;") (List.mem_of_getElem? (i := 3) rfl)) (fun _ h9 => h9) dX5_readSum_68 (fun a26 e_a26 g_a26 => ?_)
              refine lv_iload hx hb dX5_readSum_71 (lv_at hl 1 rfl) ?_
              refine h_gov hI (by decide) (va_runV (As := [.int t0_52]) (rest := []) ⟨hx, hb, hml, hown, hts⟩ (h_addStep_X2 l D g σ Z hZ0 M21 N22 R a26 g_a26 t0_52) (cwV 1 hts gX5_readSum_X2_addStep rfl rfl rfl (by decide +kernel) ⟨Nat.le_of_ble_eq_true rfl, Nat.le_of_ble_eq_true rfl⟩) (h_preV hZ0 hK hE hI g_a26 (by decide) rfl) rfl rfl hl.1 rfl (lv_room (Nat.le_of_ble_eq_true rfl)) dX5_readSum_73 ⟨Nat.le_of_ble_eq_true rfl, Nat.le_of_ble_eq_true rfl⟩) (fun M28 N29 R30 H locs q31 z_M28 hI => ?_)
              obtain ⟨rfl, rfl⟩ := q31
              obtain ⟨v32, e_v32⟩ : ∃ z : Int32, z = v3_8 + Int32.ofInt 1 := ⟨_, rfl⟩
              have i_v32 : iv v32 1 30 := by rw [e_v32]; exact iv_add i8 (ki_1) (by decide) (by decide) (by decide) (by decide)
              refine lv_iinc (v := v32) (lv' := [(3, .int v32), (2, .int r20), (4, .int t0_52), (0, .ref a), (1, .int p1)]) hx hb dX5_readSum_76 hl (k := 4) rfl e_v32.symm (by decide) rfl (fun ls hl => ?_)
              refine lv_goto (tgt := 8) hx hb dX5_readSum_79 (by decide) ?_
              exact ih8 M28 N22 r20 v32 H locs ls hI (lv_sub hl [3, 4, 1, 0] rfl) i_r20 (iv_w (lo' := 0) (hi' := 30) i_v32 (by decide) (by decide)) (by have h9 := (h_inc e_v32 i8 ki_1 (by decide) (by decide)); omega)
            refine lv_icmp_ne (tgt := 50) hx hb dX5_readSum_42 (by decide) (fun c33 => ?_) (fun c33 => ?_)
            · refine lv_bipush (v := (-27)) hx hb dX5_readSum_50 (by decide) ?_
              exact J52 (-27 : Int32) H locs ls hI hl (iv_w (lo' := (-27)) (hi' := (-26)) kc_m27 (by decide) (by decide))
            · have i34 : iv v12 43 43 := iv_eq1 c33 i_v12 kc_43
              refine lv_bipush (v := (-26)) hx hb dX5_readSum_45 (by decide) ?_
              refine lv_goto (tgt := 52) hx hb dX5_readSum_47 (by decide) ?_
              exact J52 (-26 : Int32) H locs ls hI hl (iv_w (lo' := (-27)) (hi' := (-26)) kc_m26 (by decide) (by decide))
          refine lv_icmp_eq (tgt := 36) hx hb dX5_readSum_24 (by decide) (fun c35 => ?_) (fun c35 => ?_)
          · have i36 : iv v12 43 43 := iv_eq1 c35 i_v12 kc_43
            exact J36 H locs ls hI (lv_sub hl [0, 1, 3] rfl)
          · refine lv_aload_n hx hb dX5_readSum_27 rfl (lv_at hl 0 rfl) ?_
            refine h_geti (lo := (-2147483648)) (hi := 2147483647) hx hb hts iX5_readSum_X5 hown hK hI g_a (by decide) rfl rfl 12 (by decide) rfl rfl (hts (.fieldLink RX5 54 "CatLeases$Reader" "kind" "I") (List.mem_of_getElem? (i := 1) rfl)) (fun _ h9 => h9) dX5_readSum_28 (fun v37 e_v37 i_v37 => ?_)
            have q38 : v12 = v37 := (e_v12).trans e_v37.symm
            subst q38
            refine lv_bipush (v := 45) hx hb dX5_readSum_31 (by decide) ?_
            refine lv_icmp_ne (tgt := 82) hx hb dX5_readSum_33 (by decide) (fun c39 => ?_) (fun c39 => ?_)
            · refine lv_iload_n hx hb dX5_readSum_82 rfl (lv_at hl 2 rfl) ?_
              exact h_iret hQ hx hb hr hlocks (nar_z (iv_w (lo' := 0) (hi' := 1) i11 (by decide) (by decide))) hK hI ⟨rfl, (iv_w (lo' := 0) (hi' := 1) i11 (by decide) (by decide))⟩ dX5_readSum_83
            · have i40 : iv v12 45 45 := iv_eq1 c39 i_v12 kc_45
              exact J36 H locs ls hI (lv_sub hl [0, 1, 3] rfl)
  refine lv_istore_n (lv' := [(3, .int (0 : Int32)), (2, .int r1), (0, .ref a), (1, .int p1)]) hx hb dX5_readSum_7 rfl hl (by decide) rfl (fun ls hl => ?_)
  exact J8 31 M2 N3 r1 (0 : Int32) H locs ls hI (lv_sub hl [2, 3, 1, 0] rfl) i_r1 (iv_w (lo' := 0) (hi' := 30) kc_0 (by decide) (by decide)) (by have h9 := kc_0; simp only [iv] at h9; omega)
abbrev e_h_readOne_1 : List (Nat × Nat) := [(2, 2), (4, 4), (5, 1), (5, 2), (5, 10), (5, 11), (5, 12), (5, 13), (17, 999)]
set_option maxHeartbeats 4000000 in
set_option maxRecDepth 100000 in
theorem h_readOne_1 (l : Launch) (D : va_G) (g : Nat → ClassId) (σ : Nat → Option Nat) (Z : State → Heap → Prop) (hZ0 : hZ σ Z) (M : hM) (N : hN) (R : hR) (a : Nat) (g_a : σ a = some 5) (p1 : Int32) (h_p1 : iv p1 1 1) : Met l yX5_readOne wsX5_readOne ({ frames := 50, cells := 0, slots := 0, locals := 1142 }) (va_Pc [.ref a, .int p1] (hPre D g σ Z M N R)) (hQi D g σ e_h_readOne_1 M (fun (r : Int32) (M1 : hM) (N1 : hN) (R1 : hR) => R = R1 ∧ iv r 0 1)) 0 0 (hA σ) := by
  refine h_head (cc := cX5_readOne) (maxL := 4) (ret := (some .boolean)) (by decide) rfl (Nat.le_of_ble_eq_true rfl) e_h_readOne_1 ?_
  intro p e s m below meth c ls Q ar hQ hx hb hr hlocks hml hown hts hK hE H locs hI hl
  have hown : s.vm.findClass RX5 = some m.cls := hown
  have hl : lv_has ls 4 [(0, .ref a), (1, .int p1)] := hl
  refine lv_aload_n hx hb dX5_readOne_0 rfl (lv_at hl 0 rfl) ?_
  refine h_geti (lo := (-2147483648)) (hi := 2147483647) hx hb hts iX5_readOne_X5 hown hK hI g_a (by decide) rfl rfl 12 (by decide) rfl rfl (hts (.fieldLink RX5 54 "CatLeases$Reader" "kind" "I") (List.mem_of_getElem? (i := 1) rfl)) (fun _ h9 => h9) dX5_readOne_1 (fun v1 e_v1 i_v1 => ?_)
  refine lv_bipush (v := 18) hx hb dX5_readOne_4 (by decide) ?_
  refine lv_icmp_ne (tgt := 46) hx hb dX5_readOne_6 (by decide) (fun c2 => ?_) (fun c2 => ?_)
  · refine lv_aload_n hx hb dX5_readOne_46 rfl (lv_at hl 0 rfl) ?_
    refine lv_iload_n hx hb dX5_readOne_47 rfl (lv_at hl 1 rfl) ?_
    refine h_goi hI (by decide) (va_runV (As := [.int p1]) (rest := []) ⟨hx, hb, hml, hown, hts⟩ (h_readSum_1 l D g σ Z hZ0 M N R a g_a p1 h_p1) (cwV 1 hts gX5_readOne_X5_readSum rfl rfl rfl (by decide +kernel) ⟨Nat.le_of_ble_eq_true rfl, Nat.le_of_ble_eq_true rfl⟩) (h_preV hZ0 hK hE hI g_a (by decide) rfl) rfl rfl hl.1 rfl (lv_room (Nat.le_of_ble_eq_true rfl)) dX5_readOne_48 ⟨Nat.le_of_ble_eq_true rfl, Nat.le_of_ble_eq_true rfl⟩) (fun r3 M4 N5 R6 H locs q7 z_M4 hI => ?_)
    obtain ⟨rfl, i_r3⟩ := q7
    refine lv_if_ne (tgt := 56) hx hb dX5_readOne_51 (by decide) (fun c8 => ?_) (fun c8 => ?_)
    · have i9 : iv r3 1 1 := iv_neL c8 i_r3 (by decide) (by decide)
      refine lv_aload_n hx hb dX5_readOne_56 rfl (lv_at hl 0 rfl) ?_
      refine h_geti (lo := (-2147483648)) (hi := 2147483647) hx hb hts iX5_readOne_X5 hown hK hI g_a (by decide) rfl rfl 12 (by decide) rfl rfl (hts (.fieldLink RX5 54 "CatLeases$Reader" "kind" "I") (List.mem_of_getElem? (i := 1) rfl)) (fun _ h9 => h9) dX5_readOne_57 (fun v10 e_v10 i_v10 => ?_)
      refine h_goi hI (by decide) (va_runS (As := [.int v10]) (rest := []) ⟨hx, hb, hml, hown, hts⟩ (h_relation_X5 l D g σ Z hZ0 M4 N5 R v10) (va_cwS 1 hts gX5_readOne_X5_relation rfl rfl rfl (by decide +kernel) ⟨Nat.le_of_ble_eq_true rfl, Nat.le_of_ble_eq_true rfl⟩) (h_preS hZ0 hK hE hI) rfl rfl hl.1 rfl (lv_room (Nat.le_of_ble_eq_true rfl)) dX5_readOne_60 ⟨Nat.le_of_ble_eq_true rfl, Nat.le_of_ble_eq_true rfl⟩) (fun r11 M12 N13 R14 H locs q15 z_M12 hI => ?_)
      obtain ⟨rfl, rfl, rfl, i_r11⟩ := q15
      refine lv_istore_n (lv' := [(2, .int r11), (0, .ref a), (1, .int p1)]) hx hb dX5_readOne_63 rfl hl (by decide) rfl (fun ls hl => ?_)
      refine lv_iload_n hx hb dX5_readOne_64 rfl (lv_at hl 0 rfl) ?_
      refine lv_if_ne (tgt := 70) hx hb dX5_readOne_65 (by decide) (fun c16 => ?_) (fun c16 => ?_)
      · have i17 : iv r11 (-25) (-1) := iv_neH c16 i_r11 (by decide) (by decide)
        refine lv_aload_n hx hb dX5_readOne_70 rfl (lv_at hl 1 rfl) ?_
        refine h_gov hI (by decide) (va_runV (As := []) (rest := []) ⟨hx, hb, hml, hown, hts⟩ (h_advance_X5 l D g σ Z hZ0 M4 N5 R a g_a) (cwV 0 hts gX5_readOne_X5_advance rfl rfl rfl (by decide +kernel) ⟨Nat.le_of_ble_eq_true rfl, Nat.le_of_ble_eq_true rfl⟩) (h_preV hZ0 hK hE hI g_a (by decide) rfl) rfl rfl hl.1 rfl (lv_room (Nat.le_of_ble_eq_true rfl)) dX5_readOne_71 ⟨Nat.le_of_ble_eq_true rfl, Nat.le_of_ble_eq_true rfl⟩) (fun M19 N20 R21 H locs q22 z_M19 hI => ?_)
        subst q22
        refine lv_aload_n hx hb dX5_readOne_74 rfl (lv_at hl 1 rfl) ?_
        refine lv_iload_n hx hb dX5_readOne_75 rfl (lv_at hl 2 rfl) ?_
        refine h_goi hI (by decide) (va_runV (As := [.int p1]) (rest := []) ⟨hx, hb, hml, hown, hts⟩ (h_readSum_1 l D g σ Z hZ0 M19 N20 R a g_a p1 h_p1) (cwV 1 hts gX5_readOne_X5_readSum rfl rfl rfl (by decide +kernel) ⟨Nat.le_of_ble_eq_true rfl, Nat.le_of_ble_eq_true rfl⟩) (h_preV hZ0 hK hE hI g_a (by decide) rfl) rfl rfl hl.1 rfl (lv_room (Nat.le_of_ble_eq_true rfl)) dX5_readOne_76 ⟨Nat.le_of_ble_eq_true rfl, Nat.le_of_ble_eq_true rfl⟩) (fun r23 M24 N25 R26 H locs q27 z_M24 hI => ?_)
        obtain ⟨rfl, i_r23⟩ := q27
        refine lv_istore_n (lv' := [(3, .int r23), (2, .int r11), (0, .ref a), (1, .int p1)]) hx hb dX5_readOne_79 rfl hl (by decide) rfl (fun ls hl => ?_)
        refine lv_aload_n hx hb dX5_readOne_80 rfl (lv_at hl 2 rfl) ?_
        refine h_getr hx hb hts iX5_readOne_X5 hown hK hI g_a (by decide) rfl rfl 0 (by decide) rfl 4 rfl (hts (.fieldLink RX5 12 "CatLeases$Reader" "mews" "LCatLeases$Mews;") (List.mem_of_getElem? (i := 2) rfl)) (fun _ h9 => h9) dX5_readOne_81 (fun a28 e_a28 g_a28 => ?_)
        refine h_getr hx hb hts iX5_readOne_X4 hown hK hI g_a28 (by decide) rfl rfl 9 (by decide) rfl 2 rfl (hts (.fieldLink RX5 112 "CatLeases$Mews" "formula" "LCatLeases$Formula;") (List.mem_of_getElem? (i := 3) rfl)) (fun _ h9 => h9) dX5_readOne_84 (fun a29 e_a29 g_a29 => ?_)
        refine lv_iload_n hx hb dX5_readOne_87 rfl (lv_at hl 1 rfl) ?_
        refine h_gov hI (by decide) (va_runV (As := [.int r11]) (rest := []) ⟨hx, hb, hml, hown, hts⟩ (h_addStep_X2 l D g σ Z hZ0 M24 N25 R a29 g_a29 r11) (cwV 1 hts gX5_readOne_X2_addStep rfl rfl rfl (by decide +kernel) ⟨Nat.le_of_ble_eq_true rfl, Nat.le_of_ble_eq_true rfl⟩) (h_preV hZ0 hK hE hI g_a29 (by decide) rfl) rfl rfl hl.1 rfl (lv_room (Nat.le_of_ble_eq_true rfl)) dX5_readOne_88 ⟨Nat.le_of_ble_eq_true rfl, Nat.le_of_ble_eq_true rfl⟩) (fun M31 N32 R33 H locs q34 z_M31 hI => ?_)
        obtain ⟨rfl, rfl⟩ := q34
        refine lv_iload_n hx hb dX5_readOne_91 rfl (lv_at hl 0 rfl) ?_
        exact h_iret hQ hx hb hr hlocks (nar_z i_r23) hK hI ⟨rfl, i_r23⟩ dX5_readOne_92
      · have i35 : iv r11 0 0 := iv_eq1 c16 i_r11 kc_0
        refine lv_iconst (v := 1) hx hb dX5_readOne_68 (by decide) ?_
        exact h_iret hQ hx hb hr hlocks rfl hK hI ⟨rfl, (iv_w (lo' := 0) (hi' := 1) kc_1 (by decide) (by decide))⟩ dX5_readOne_69
    · have i36 : iv r3 0 0 := iv_eq1 c8 i_r3 kc_0
      refine lv_iconst (v := 0) hx hb dX5_readOne_54 (by decide) ?_
      exact h_iret hQ hx hb hr hlocks rfl hK hI ⟨rfl, (iv_w (lo' := 0) (hi' := 1) kc_0 (by decide) (by decide))⟩ dX5_readOne_55
  · have i37 : iv v1 18 18 := iv_eq1 c2 i_v1 kc_18
    refine lv_iload_n hx hb dX5_readOne_9 rfl (lv_at hl 1 rfl) ?_
    refine lv_bipush (v := 7) hx hb dX5_readOne_10 (by decide) ?_
    refine lv_icmp_lt (tgt := 20) hx hb dX5_readOne_12 (by decide) (fun c38 => ?_) (fun c38 => ?_)
    · refine lv_aload_n hx hb dX5_readOne_20 rfl (lv_at hl 0 rfl) ?_
      refine h_gov hI (by decide) (va_runV (As := []) (rest := []) ⟨hx, hb, hml, hown, hts⟩ (h_advance_X5 l D g σ Z hZ0 M N R a g_a) (cwV 0 hts gX5_readOne_X5_advance rfl rfl rfl (by decide +kernel) ⟨Nat.le_of_ble_eq_true rfl, Nat.le_of_ble_eq_true rfl⟩) (h_preV hZ0 hK hE hI g_a (by decide) rfl) rfl rfl hl.1 rfl (lv_room (Nat.le_of_ble_eq_true rfl)) dX5_readOne_21 ⟨Nat.le_of_ble_eq_true rfl, Nat.le_of_ble_eq_true rfl⟩) (fun M40 N41 R42 H locs q43 z_M40 hI => ?_)
      subst q43
      refine lv_aload_n hx hb dX5_readOne_24 rfl (lv_at hl 0 rfl) ?_
      refine lv_iload_n hx hb dX5_readOne_25 rfl (lv_at hl 1 rfl) ?_
      refine lv_iconst (v := 1) hx hb dX5_readOne_26 (by decide) ?_
      refine lv_iadd hx hb dX5_readOne_27 ?_
      refine h_nm (lo := 2) (hi := 2) (iv_add h_p1 kc_1 (by decide) (by decide) (by decide) (by decide)) (fun v44 e_v44 i_v44 => ?_)
      refine h_goi hI (by decide) (va_runV (As := [.int v44]) (rest := []) ⟨hx, hb, hml, hown, hts⟩ (h_readOne_2 l D g σ Z hZ0 M40 N41 R a g_a v44 i_v44) (cwV 1 hts gX5_readOne_X5_readOne rfl rfl rfl (by decide +kernel) ⟨Nat.le_of_ble_eq_true rfl, Nat.le_of_ble_eq_true rfl⟩) (h_preV hZ0 hK hE hI g_a (by decide) rfl) rfl rfl hl.1 rfl (lv_room (Nat.le_of_ble_eq_true rfl)) dX5_readOne_28 ⟨Nat.le_of_ble_eq_true rfl, Nat.le_of_ble_eq_true rfl⟩) (fun r45 M46 N47 R48 H locs q49 z_M46 hI => ?_)
      obtain ⟨rfl, i_r45⟩ := q49
      refine lv_istore_n (lv' := [(2, .int r45), (0, .ref a), (1, .int p1)]) hx hb dX5_readOne_31 rfl hl (by decide) rfl (fun ls hl => ?_)
      refine lv_aload_n hx hb dX5_readOne_32 rfl (lv_at hl 1 rfl) ?_
      refine h_getr hx hb hts iX5_readOne_X5 hown hK hI g_a (by decide) rfl rfl 0 (by decide) rfl 4 rfl (hts (.fieldLink RX5 12 "CatLeases$Reader" "mews" "LCatLeases$Mews;") (List.mem_of_getElem? (i := 2) rfl)) (fun _ h9 => h9) dX5_readOne_33 (fun a50 e_a50 g_a50 => ?_)
      refine h_getr hx hb hts iX5_readOne_X4 hown hK hI g_a50 (by decide) rfl rfl 9 (by decide) rfl 2 rfl (hts (.fieldLink RX5 112 "CatLeases$Mews" "formula" "LCatLeases$Formula;") (List.mem_of_getElem? (i := 3) rfl)) (fun _ h9 => h9) dX5_readOne_36 (fun a51 e_a51 g_a51 => ?_)
      refine lv_bipush (v := (-20)) hx hb dX5_readOne_39 (by decide) ?_
      refine h_gov hI (by decide) (va_runV (As := [.int (-20 : Int32)]) (rest := []) ⟨hx, hb, hml, hown, hts⟩ (h_addStep_X2 l D g σ Z hZ0 M46 N47 R a51 g_a51 (-20 : Int32)) (cwV 1 hts gX5_readOne_X2_addStep rfl rfl rfl (by decide +kernel) ⟨Nat.le_of_ble_eq_true rfl, Nat.le_of_ble_eq_true rfl⟩) (h_preV hZ0 hK hE hI g_a51 (by decide) rfl) rfl rfl hl.1 rfl (lv_room (Nat.le_of_ble_eq_true rfl)) dX5_readOne_41 ⟨Nat.le_of_ble_eq_true rfl, Nat.le_of_ble_eq_true rfl⟩) (fun M53 N54 R55 H locs q56 z_M53 hI => ?_)
      obtain ⟨rfl, rfl⟩ := q56
      refine lv_iload_n hx hb dX5_readOne_44 rfl (lv_at hl 0 rfl) ?_
      exact h_iret hQ hx hb hr hlocks (nar_z i_r45) hK hI ⟨rfl, i_r45⟩ dX5_readOne_45
    · exfalso; have h8 := h_p1; have h9 := kc_7; simp only [iv] at h8 h9; rw [Int32.lt_iff_toInt_lt] at c38; omega
abbrev e_h_readBoth_1 : List (Nat × Nat) := [(2, 2), (4, 4), (5, 1), (5, 2), (5, 10), (5, 11), (5, 12), (5, 13), (17, 999)]
set_option maxHeartbeats 4000000 in
set_option maxRecDepth 100000 in
theorem h_readBoth_1 (l : Launch) (D : va_G) (g : Nat → ClassId) (σ : Nat → Option Nat) (Z : State → Heap → Prop) (hZ0 : hZ σ Z) (M : hM) (N : hN) (R : hR) (a : Nat) (g_a : σ a = some 5) (p1 : Int32) (h_p1 : iv p1 1 1) : Met l yX5_readBoth wsX5_readBoth ({ frames := 51, cells := 0, slots := 0, locals := 1165 }) (va_Pc [.ref a, .int p1] (hPre D g σ Z M N R)) (hQi D g σ e_h_readBoth_1 M (fun (r : Int32) (M1 : hM) (N1 : hN) (R1 : hR) => R = R1 ∧ iv r 0 1)) 0 0 (hA σ) := by
  refine h_head (cc := cX5_readBoth) (maxL := 4) (ret := (some .boolean)) (by decide) rfl (Nat.le_of_ble_eq_true rfl) e_h_readBoth_1 ?_
  intro p e s m below meth c ls Q ar hQ hx hb hr hlocks hml hown hts hK hE H locs hI hl
  have hown : s.vm.findClass RX5 = some m.cls := hown
  have hl : lv_has ls 4 [(0, .ref a), (1, .int p1)] := hl
  refine lv_aload_n hx hb dX5_readBoth_0 rfl (lv_at hl 0 rfl) ?_
  refine lv_iload_n hx hb dX5_readBoth_1 rfl (lv_at hl 1 rfl) ?_
  refine h_goi hI (by decide) (va_runV (As := [.int p1]) (rest := []) ⟨hx, hb, hml, hown, hts⟩ (h_readOne_1 l D g σ Z hZ0 M N R a g_a p1 h_p1) (cwV 1 hts gX5_readBoth_X5_readOne rfl rfl rfl (by decide +kernel) ⟨Nat.le_of_ble_eq_true rfl, Nat.le_of_ble_eq_true rfl⟩) (h_preV hZ0 hK hE hI g_a (by decide) rfl) rfl rfl hl.1 rfl (lv_room (Nat.le_of_ble_eq_true rfl)) dX5_readBoth_2 ⟨Nat.le_of_ble_eq_true rfl, Nat.le_of_ble_eq_true rfl⟩) (fun r1 M2 N3 R4 H locs q5 z_M2 hI => ?_)
  obtain ⟨rfl, i_r1⟩ := q5
  refine lv_istore_n (lv' := [(2, .int r1), (0, .ref a), (1, .int p1)]) hx hb dX5_readBoth_5 rfl hl (by decide) rfl (fun ls hl => ?_)
  refine lv_iconst (v := 0) hx hb dX5_readBoth_6 (by decide) ?_
  have J8 : ∀ (n : Nat) (M_8 : hM) (N_8 : hN) (v2_8 : Int32) (v3_8 : Int32) (H : Heap) (locs : List Loc) (ls : Array Slot), kI D g σ e_h_readBoth_1 M s.heap M_8 N_8 R H locs → lv_has ls 4 [(0, .ref a), (1, .int p1), (2, .int v2_8), (3, .int v3_8)] → iv v2_8 0 1 → iv v3_8 0 30 → 31 ≤ v3_8.toInt + (n : Int) → W p l e (headSpec wsX5_readBoth ({ frames := 51, cells := 0, slots := 0, locals := 1165 })).room s m ar below meth c H locs 0 0 Q (F0 m 8 ls []) := by
    intro n
    induction n with
    | zero => intro M_8 N_8 v2_8 v3_8 H locs ls hI hl i_v2_8 i_v3_8 hn; exfalso; have hz := i_v3_8; simp only [iv] at hz; omega
    | succ n ih8 =>
      intro M_8 N_8 v2_8 v3_8 H locs ls hI hl i_v2_8 i_v3_8 hn8
      refine lv_iload_n hx hb dX5_readBoth_8 rfl (lv_at hl 3 rfl) ?_
      refine lv_bipush (v := 30) hx hb dX5_readBoth_9 (by decide) ?_
      refine lv_icmp_ge (tgt := 55) hx hb dX5_readBoth_11 (by decide) (fun c6 => ?_) (fun c6 => ?_)
      · have i7 : iv v3_8 30 30 := iv_le2 c6 kc_30 i_v3_8 (by decide)
        refine lv_iload_n hx hb dX5_readBoth_55 rfl (lv_at hl 2 rfl) ?_
        exact h_iret hQ hx hb hr hlocks (nar_z i_v2_8) hK hI ⟨rfl, i_v2_8⟩ dX5_readBoth_56
      · have i8 : iv v3_8 0 29 := iv_nle2 c6 kc_30 i_v3_8 (by decide)
        refine lv_iload_n hx hb dX5_readBoth_14 rfl (lv_at hl 2 rfl) ?_
        refine lv_if_eq (tgt := 55) hx hb dX5_readBoth_15 (by decide) (fun c9 => ?_) (fun c9 => ?_)
        · have i10 : iv v2_8 0 0 := iv_eq1 c9 i_v2_8 kc_0
          refine lv_iload_n hx hb dX5_readBoth_55 rfl (lv_at hl 2 rfl) ?_
          exact h_iret hQ hx hb hr hlocks (nar_z (iv_w (lo' := 0) (hi' := 1) i10 (by decide) (by decide))) hK hI ⟨rfl, (iv_w (lo' := 0) (hi' := 1) i10 (by decide) (by decide))⟩ dX5_readBoth_56
        · have i11 : iv v2_8 1 1 := iv_neL c9 i_v2_8 (by decide) (by decide)
          refine lv_aload_n hx hb dX5_readBoth_18 rfl (lv_at hl 0 rfl) ?_
          refine h_geti (lo := (-2147483648)) (hi := 2147483647) hx hb hts iX5_readBoth_X5 hown hK hI g_a (by decide) rfl rfl 12 (by decide) rfl rfl (hts (.fieldLink RX5 54 "CatLeases$Reader" "kind" "I") (List.mem_of_getElem? (i := 1) rfl)) (fun _ h9 => h9) dX5_readBoth_19 (fun v12 e_v12 i_v12 => ?_)
          refine lv_bipush (v := 17) hx hb dX5_readBoth_22 (by decide) ?_
          refine lv_icmp_ne (tgt := 55) hx hb dX5_readBoth_24 (by decide) (fun c13 => ?_) (fun c13 => ?_)
          · refine lv_iload_n hx hb dX5_readBoth_55 rfl (lv_at hl 2 rfl) ?_
            exact h_iret hQ hx hb hr hlocks (nar_z (iv_w (lo' := 0) (hi' := 1) i11 (by decide) (by decide))) hK hI ⟨rfl, (iv_w (lo' := 0) (hi' := 1) i11 (by decide) (by decide))⟩ dX5_readBoth_56
          · have i14 : iv v12 17 17 := iv_eq1 c13 i_v12 kc_17
            refine lv_aload_n hx hb dX5_readBoth_27 rfl (lv_at hl 0 rfl) ?_
            refine h_gov hI (by decide) (va_runV (As := []) (rest := []) ⟨hx, hb, hml, hown, hts⟩ (h_advance_X5 l D g σ Z hZ0 M_8 N_8 R a g_a) (cwV 0 hts gX5_readBoth_X5_advance rfl rfl rfl (by decide +kernel) ⟨Nat.le_of_ble_eq_true rfl, Nat.le_of_ble_eq_true rfl⟩) (h_preV hZ0 hK hE hI g_a (by decide) rfl) rfl rfl hl.1 rfl (lv_room (Nat.le_of_ble_eq_true rfl)) dX5_readBoth_28 ⟨Nat.le_of_ble_eq_true rfl, Nat.le_of_ble_eq_true rfl⟩) (fun M16 N17 R18 H locs q19 z_M16 hI => ?_)
            subst q19
            refine lv_aload_n hx hb dX5_readBoth_31 rfl (lv_at hl 0 rfl) ?_
            refine lv_iload_n hx hb dX5_readBoth_32 rfl (lv_at hl 1 rfl) ?_
            refine h_goi hI (by decide) (va_runV (As := [.int p1]) (rest := []) ⟨hx, hb, hml, hown, hts⟩ (h_readOne_1 l D g σ Z hZ0 M16 N17 R a g_a p1 h_p1) (cwV 1 hts gX5_readBoth_X5_readOne rfl rfl rfl (by decide +kernel) ⟨Nat.le_of_ble_eq_true rfl, Nat.le_of_ble_eq_true rfl⟩) (h_preV hZ0 hK hE hI g_a (by decide) rfl) rfl rfl hl.1 rfl (lv_room (Nat.le_of_ble_eq_true rfl)) dX5_readBoth_33 ⟨Nat.le_of_ble_eq_true rfl, Nat.le_of_ble_eq_true rfl⟩) (fun r20 M21 N22 R23 H locs q24 z_M21 hI => ?_)
            obtain ⟨rfl, i_r20⟩ := q24
            refine lv_istore_n (lv' := [(2, .int r20), (0, .ref a), (1, .int p1), (3, .int v3_8)]) hx hb dX5_readBoth_36 rfl hl (by decide) rfl (fun ls hl => ?_)
            refine lv_aload_n hx hb dX5_readBoth_37 rfl (lv_at hl 1 rfl) ?_
            refine h_getr hx hb hts iX5_readBoth_X5 hown hK hI g_a (by decide) rfl rfl 0 (by decide) rfl 4 rfl (hts (.fieldLink RX5 12 "CatLeases$Reader" "mews" "LCatLeases$Mews;") (List.mem_of_getElem? (i := 2) rfl)) (fun _ h9 => h9) dX5_readBoth_38 (fun a25 e_a25 g_a25 => ?_)
            refine h_getr hx hb hts iX5_readBoth_X4 hown hK hI g_a25 (by decide) rfl rfl 9 (by decide) rfl 2 rfl (hts (.fieldLink RX5 112 "CatLeases$Mews" "formula" "LCatLeases$Formula;") (List.mem_of_getElem? (i := 3) rfl)) (fun _ h9 => h9) dX5_readBoth_41 (fun a26 e_a26 g_a26 => ?_)
            refine lv_bipush (v := (-22)) hx hb dX5_readBoth_44 (by decide) ?_
            refine h_gov hI (by decide) (va_runV (As := [.int (-22 : Int32)]) (rest := []) ⟨hx, hb, hml, hown, hts⟩ (h_addStep_X2 l D g σ Z hZ0 M21 N22 R a26 g_a26 (-22 : Int32)) (cwV 1 hts gX5_readBoth_X2_addStep rfl rfl rfl (by decide +kernel) ⟨Nat.le_of_ble_eq_true rfl, Nat.le_of_ble_eq_true rfl⟩) (h_preV hZ0 hK hE hI g_a26 (by decide) rfl) rfl rfl hl.1 rfl (lv_room (Nat.le_of_ble_eq_true rfl)) dX5_readBoth_46 ⟨Nat.le_of_ble_eq_true rfl, Nat.le_of_ble_eq_true rfl⟩) (fun M28 N29 R30 H locs q31 z_M28 hI => ?_)
            obtain ⟨rfl, rfl⟩ := q31
            obtain ⟨v32, e_v32⟩ : ∃ z : Int32, z = v3_8 + Int32.ofInt 1 := ⟨_, rfl⟩
            have i_v32 : iv v32 1 30 := by rw [e_v32]; exact iv_add i8 (ki_1) (by decide) (by decide) (by decide) (by decide)
            refine lv_iinc (v := v32) (lv' := [(3, .int v32), (2, .int r20), (0, .ref a), (1, .int p1)]) hx hb dX5_readBoth_49 hl (k := 3) rfl e_v32.symm (by decide) rfl (fun ls hl => ?_)
            refine lv_goto (tgt := 8) hx hb dX5_readBoth_52 (by decide) ?_
            exact ih8 M28 N22 r20 v32 H locs ls hI (lv_sub hl [2, 3, 1, 0] rfl) i_r20 (iv_w (lo' := 0) (hi' := 30) i_v32 (by decide) (by decide)) (by have h9 := (h_inc e_v32 i8 ki_1 (by decide) (by decide)); omega)
  refine lv_istore_n (lv' := [(3, .int (0 : Int32)), (2, .int r1), (0, .ref a), (1, .int p1)]) hx hb dX5_readBoth_7 rfl hl (by decide) rfl (fun ls hl => ?_)
  exact J8 31 M2 N3 r1 (0 : Int32) H locs ls hI (lv_sub hl [2, 3, 1, 0] rfl) i_r1 (iv_w (lo' := 0) (hi' := 30) kc_0 (by decide) (by decide)) (by have h9 := kc_0; simp only [iv] at h9; omega)
abbrev e_h_readEither_1 : List (Nat × Nat) := [(2, 2), (4, 4), (5, 1), (5, 2), (5, 10), (5, 11), (5, 12), (5, 13), (17, 999)]
set_option maxHeartbeats 4000000 in
set_option maxRecDepth 100000 in
theorem h_readEither_1 (l : Launch) (D : va_G) (g : Nat → ClassId) (σ : Nat → Option Nat) (Z : State → Heap → Prop) (hZ0 : hZ σ Z) (M : hM) (N : hN) (R : hR) (a : Nat) (g_a : σ a = some 5) (p1 : Int32) (h_p1 : iv p1 1 1) : Met l yX5_readEither wsX5_readEither ({ frames := 52, cells := 0, slots := 0, locals := 1188 }) (va_Pc [.ref a, .int p1] (hPre D g σ Z M N R)) (hQi D g σ e_h_readEither_1 M (fun (r : Int32) (M1 : hM) (N1 : hN) (R1 : hR) => R = R1 ∧ iv r 0 1)) 0 0 (hA σ) := by
  refine h_head (cc := cX5_readEither) (maxL := 4) (ret := (some .boolean)) (by decide) rfl (Nat.le_of_ble_eq_true rfl) e_h_readEither_1 ?_
  intro p e s m below meth c ls Q ar hQ hx hb hr hlocks hml hown hts hK hE H locs hI hl
  have hown : s.vm.findClass RX5 = some m.cls := hown
  have hl : lv_has ls 4 [(0, .ref a), (1, .int p1)] := hl
  refine lv_aload_n hx hb dX5_readEither_0 rfl (lv_at hl 0 rfl) ?_
  refine lv_iload_n hx hb dX5_readEither_1 rfl (lv_at hl 1 rfl) ?_
  refine h_goi hI (by decide) (va_runV (As := [.int p1]) (rest := []) ⟨hx, hb, hml, hown, hts⟩ (h_readBoth_1 l D g σ Z hZ0 M N R a g_a p1 h_p1) (cwV 1 hts gX5_readEither_X5_readBoth rfl rfl rfl (by decide +kernel) ⟨Nat.le_of_ble_eq_true rfl, Nat.le_of_ble_eq_true rfl⟩) (h_preV hZ0 hK hE hI g_a (by decide) rfl) rfl rfl hl.1 rfl (lv_room (Nat.le_of_ble_eq_true rfl)) dX5_readEither_2 ⟨Nat.le_of_ble_eq_true rfl, Nat.le_of_ble_eq_true rfl⟩) (fun r1 M2 N3 R4 H locs q5 z_M2 hI => ?_)
  obtain ⟨rfl, i_r1⟩ := q5
  refine lv_istore_n (lv' := [(2, .int r1), (0, .ref a), (1, .int p1)]) hx hb dX5_readEither_5 rfl hl (by decide) rfl (fun ls hl => ?_)
  refine lv_iconst (v := 0) hx hb dX5_readEither_6 (by decide) ?_
  have J8 : ∀ (n : Nat) (M_8 : hM) (N_8 : hN) (v2_8 : Int32) (v3_8 : Int32) (H : Heap) (locs : List Loc) (ls : Array Slot), kI D g σ e_h_readEither_1 M s.heap M_8 N_8 R H locs → lv_has ls 4 [(0, .ref a), (1, .int p1), (2, .int v2_8), (3, .int v3_8)] → iv v2_8 0 1 → iv v3_8 0 30 → 31 ≤ v3_8.toInt + (n : Int) → W p l e (headSpec wsX5_readEither ({ frames := 52, cells := 0, slots := 0, locals := 1188 })).room s m ar below meth c H locs 0 0 Q (F0 m 8 ls []) := by
    intro n
    induction n with
    | zero => intro M_8 N_8 v2_8 v3_8 H locs ls hI hl i_v2_8 i_v3_8 hn; exfalso; have hz := i_v3_8; simp only [iv] at hz; omega
    | succ n ih8 =>
      intro M_8 N_8 v2_8 v3_8 H locs ls hI hl i_v2_8 i_v3_8 hn8
      refine lv_iload_n hx hb dX5_readEither_8 rfl (lv_at hl 3 rfl) ?_
      refine lv_bipush (v := 30) hx hb dX5_readEither_9 (by decide) ?_
      refine lv_icmp_ge (tgt := 55) hx hb dX5_readEither_11 (by decide) (fun c6 => ?_) (fun c6 => ?_)
      · have i7 : iv v3_8 30 30 := iv_le2 c6 kc_30 i_v3_8 (by decide)
        refine lv_iload_n hx hb dX5_readEither_55 rfl (lv_at hl 2 rfl) ?_
        exact h_iret hQ hx hb hr hlocks (nar_z i_v2_8) hK hI ⟨rfl, i_v2_8⟩ dX5_readEither_56
      · have i8 : iv v3_8 0 29 := iv_nle2 c6 kc_30 i_v3_8 (by decide)
        refine lv_iload_n hx hb dX5_readEither_14 rfl (lv_at hl 2 rfl) ?_
        refine lv_if_eq (tgt := 55) hx hb dX5_readEither_15 (by decide) (fun c9 => ?_) (fun c9 => ?_)
        · have i10 : iv v2_8 0 0 := iv_eq1 c9 i_v2_8 kc_0
          refine lv_iload_n hx hb dX5_readEither_55 rfl (lv_at hl 2 rfl) ?_
          exact h_iret hQ hx hb hr hlocks (nar_z (iv_w (lo' := 0) (hi' := 1) i10 (by decide) (by decide))) hK hI ⟨rfl, (iv_w (lo' := 0) (hi' := 1) i10 (by decide) (by decide))⟩ dX5_readEither_56
        · have i11 : iv v2_8 1 1 := iv_neL c9 i_v2_8 (by decide) (by decide)
          refine lv_aload_n hx hb dX5_readEither_18 rfl (lv_at hl 0 rfl) ?_
          refine h_geti (lo := (-2147483648)) (hi := 2147483647) hx hb hts iX5_readEither_X5 hown hK hI g_a (by decide) rfl rfl 12 (by decide) rfl rfl (hts (.fieldLink RX5 54 "CatLeases$Reader" "kind" "I") (List.mem_of_getElem? (i := 1) rfl)) (fun _ h9 => h9) dX5_readEither_19 (fun v12 e_v12 i_v12 => ?_)
          refine lv_bipush (v := 16) hx hb dX5_readEither_22 (by decide) ?_
          refine lv_icmp_ne (tgt := 55) hx hb dX5_readEither_24 (by decide) (fun c13 => ?_) (fun c13 => ?_)
          · refine lv_iload_n hx hb dX5_readEither_55 rfl (lv_at hl 2 rfl) ?_
            exact h_iret hQ hx hb hr hlocks (nar_z (iv_w (lo' := 0) (hi' := 1) i11 (by decide) (by decide))) hK hI ⟨rfl, (iv_w (lo' := 0) (hi' := 1) i11 (by decide) (by decide))⟩ dX5_readEither_56
          · have i14 : iv v12 16 16 := iv_eq1 c13 i_v12 kc_16
            refine lv_aload_n hx hb dX5_readEither_27 rfl (lv_at hl 0 rfl) ?_
            refine h_gov hI (by decide) (va_runV (As := []) (rest := []) ⟨hx, hb, hml, hown, hts⟩ (h_advance_X5 l D g σ Z hZ0 M_8 N_8 R a g_a) (cwV 0 hts gX5_readEither_X5_advance rfl rfl rfl (by decide +kernel) ⟨Nat.le_of_ble_eq_true rfl, Nat.le_of_ble_eq_true rfl⟩) (h_preV hZ0 hK hE hI g_a (by decide) rfl) rfl rfl hl.1 rfl (lv_room (Nat.le_of_ble_eq_true rfl)) dX5_readEither_28 ⟨Nat.le_of_ble_eq_true rfl, Nat.le_of_ble_eq_true rfl⟩) (fun M16 N17 R18 H locs q19 z_M16 hI => ?_)
            subst q19
            refine lv_aload_n hx hb dX5_readEither_31 rfl (lv_at hl 0 rfl) ?_
            refine lv_iload_n hx hb dX5_readEither_32 rfl (lv_at hl 1 rfl) ?_
            refine h_goi hI (by decide) (va_runV (As := [.int p1]) (rest := []) ⟨hx, hb, hml, hown, hts⟩ (h_readBoth_1 l D g σ Z hZ0 M16 N17 R a g_a p1 h_p1) (cwV 1 hts gX5_readEither_X5_readBoth rfl rfl rfl (by decide +kernel) ⟨Nat.le_of_ble_eq_true rfl, Nat.le_of_ble_eq_true rfl⟩) (h_preV hZ0 hK hE hI g_a (by decide) rfl) rfl rfl hl.1 rfl (lv_room (Nat.le_of_ble_eq_true rfl)) dX5_readEither_33 ⟨Nat.le_of_ble_eq_true rfl, Nat.le_of_ble_eq_true rfl⟩) (fun r20 M21 N22 R23 H locs q24 z_M21 hI => ?_)
            obtain ⟨rfl, i_r20⟩ := q24
            refine lv_istore_n (lv' := [(2, .int r20), (0, .ref a), (1, .int p1), (3, .int v3_8)]) hx hb dX5_readEither_36 rfl hl (by decide) rfl (fun ls hl => ?_)
            refine lv_aload_n hx hb dX5_readEither_37 rfl (lv_at hl 1 rfl) ?_
            refine h_getr hx hb hts iX5_readEither_X5 hown hK hI g_a (by decide) rfl rfl 0 (by decide) rfl 4 rfl (hts (.fieldLink RX5 12 "CatLeases$Reader" "mews" "LCatLeases$Mews;") (List.mem_of_getElem? (i := 2) rfl)) (fun _ h9 => h9) dX5_readEither_38 (fun a25 e_a25 g_a25 => ?_)
            refine h_getr hx hb hts iX5_readEither_X4 hown hK hI g_a25 (by decide) rfl rfl 9 (by decide) rfl 2 rfl (hts (.fieldLink RX5 112 "CatLeases$Mews" "formula" "LCatLeases$Formula;") (List.mem_of_getElem? (i := 3) rfl)) (fun _ h9 => h9) dX5_readEither_41 (fun a26 e_a26 g_a26 => ?_)
            refine lv_bipush (v := (-21)) hx hb dX5_readEither_44 (by decide) ?_
            refine h_gov hI (by decide) (va_runV (As := [.int (-21 : Int32)]) (rest := []) ⟨hx, hb, hml, hown, hts⟩ (h_addStep_X2 l D g σ Z hZ0 M21 N22 R a26 g_a26 (-21 : Int32)) (cwV 1 hts gX5_readEither_X2_addStep rfl rfl rfl (by decide +kernel) ⟨Nat.le_of_ble_eq_true rfl, Nat.le_of_ble_eq_true rfl⟩) (h_preV hZ0 hK hE hI g_a26 (by decide) rfl) rfl rfl hl.1 rfl (lv_room (Nat.le_of_ble_eq_true rfl)) dX5_readEither_46 ⟨Nat.le_of_ble_eq_true rfl, Nat.le_of_ble_eq_true rfl⟩) (fun M28 N29 R30 H locs q31 z_M28 hI => ?_)
            obtain ⟨rfl, rfl⟩ := q31
            obtain ⟨v32, e_v32⟩ : ∃ z : Int32, z = v3_8 + Int32.ofInt 1 := ⟨_, rfl⟩
            have i_v32 : iv v32 1 30 := by rw [e_v32]; exact iv_add i8 (ki_1) (by decide) (by decide) (by decide) (by decide)
            refine lv_iinc (v := v32) (lv' := [(3, .int v32), (2, .int r20), (0, .ref a), (1, .int p1)]) hx hb dX5_readEither_49 hl (k := 3) rfl e_v32.symm (by decide) rfl (fun ls hl => ?_)
            refine lv_goto (tgt := 8) hx hb dX5_readEither_52 (by decide) ?_
            exact ih8 M28 N22 r20 v32 H locs ls hI (lv_sub hl [2, 3, 1, 0] rfl) i_r20 (iv_w (lo' := 0) (hi' := 30) i_v32 (by decide) (by decide)) (by have h9 := (h_inc e_v32 i8 ki_1 (by decide) (by decide)); omega)
  refine lv_istore_n (lv' := [(3, .int (0 : Int32)), (2, .int r1), (0, .ref a), (1, .int p1)]) hx hb dX5_readEither_7 rfl hl (by decide) rfl (fun ls hl => ?_)
  exact J8 31 M2 N3 r1 (0 : Int32) H locs ls hI (lv_sub hl [2, 3, 1, 0] rfl) i_r1 (iv_w (lo' := 0) (hi' := 30) kc_0 (by decide) (by decide)) (by have h9 := kc_0; simp only [iv] at h9; omega)
abbrev e_h_readParentheses_0 : List (Nat × Nat) := [(2, 2), (4, 4), (5, 1), (5, 2), (5, 10), (5, 11), (5, 12), (5, 13), (17, 999)]
set_option maxHeartbeats 4000000 in
set_option maxRecDepth 100000 in
theorem h_readParentheses_0 (l : Launch) (D : va_G) (g : Nat → ClassId) (σ : Nat → Option Nat) (Z : State → Heap → Prop) (hZ0 : hZ σ Z) (M : hM) (N : hN) (R : hR) (a : Nat) (g_a : σ a = some 5) (p1 : Int32) (h_p1 : iv p1 0 0) : Met l yX5_readParentheses wsX5_readParentheses ({ frames := 53, cells := 0, slots := 0, locals := 1211 }) (va_Pc [.ref a, .int p1] (hPre D g σ Z M N R)) (hQi D g σ e_h_readParentheses_0 M (fun (r : Int32) (M1 : hM) (N1 : hN) (R1 : hR) => R = R1 ∧ iv r 0 1)) 0 0 (hA σ) := by
  refine h_head (cc := cX5_readParentheses) (maxL := 2) (ret := (some .boolean)) (by decide) rfl (Nat.le_of_ble_eq_true rfl) e_h_readParentheses_0 ?_
  intro p e s m below meth c ls Q ar hQ hx hb hr hlocks hml hown hts hK hE H locs hI hl
  have hown : s.vm.findClass RX5 = some m.cls := hown
  have hl : lv_has ls 2 [(0, .ref a), (1, .int p1)] := hl
  refine lv_iload_n hx hb dX5_readParentheses_0 rfl (lv_at hl 1 rfl) ?_
  refine lv_bipush (v := 7) hx hb dX5_readParentheses_1 (by decide) ?_
  refine lv_icmp_lt (tgt := 11) hx hb dX5_readParentheses_3 (by decide) (fun c1 => ?_) (fun c1 => ?_)
  · refine lv_aload_n hx hb dX5_readParentheses_11 rfl (lv_at hl 0 rfl) ?_
    refine h_getr hx hb hts iX5_readParentheses_X5 hown hK hI g_a (by decide) rfl rfl 0 (by decide) rfl 4 rfl (hts (.fieldLink RX5 12 "CatLeases$Reader" "mews" "LCatLeases$Mews;") (List.mem_of_getElem? (i := 1) rfl)) (fun _ h9 => h9) dX5_readParentheses_12 (fun a2 e_a2 g_a2 => ?_)
    refine lv_dup hx hb dX5_readParentheses_15 rfl ?_
    refine h_geti (lo := (-2147483648)) (hi := 2147483647) hx hb hts iX5_readParentheses_X4 hown hK hI g_a2 (by decide) rfl rfl 4 (by decide) rfl rfl (hts (.fieldLink RX5 237 "CatLeases$Mews" "units" "I") (List.mem_of_getElem? (i := 2) rfl)) (fun _ h9 => h9) dX5_readParentheses_16 (fun v3 e_v3 i_v3 => ?_)
    refine lv_iconst (v := 1) hx hb dX5_readParentheses_19 (by decide) ?_
    refine lv_iadd hx hb dX5_readParentheses_20 ?_
    refine h_nm (lo := (-2147483648)) (hi := 2147483647) (iv_any _) (fun v4 e_v4 i_v4 => ?_)
    refine h_puti hx hb hts iX5_readParentheses_X4 tyX4 tyX4_ok nmX4 hown hK hI g_a2 (by decide) rfl rfl 4 (by decide) rfl (hts (.fieldLink RX5 237 "CatLeases$Mews" "units" "I") (List.mem_of_getElem? (i := 2) rfl)) (fun _ h9 => h9) rfl .int (by decide +kernel) rfl rfl i_v4 rfl dX5_readParentheses_21 (fun M5 H locs e_M5 hI => ?_)
    refine lv_aload_n hx hb dX5_readParentheses_24 rfl (lv_at hl 0 rfl) ?_
    refine h_gov hI (by decide) (va_runV (As := []) (rest := []) ⟨hx, hb, hml, hown, hts⟩ (h_advance_X5 l D g σ Z hZ0 M5 N R a g_a) (cwV 0 hts gX5_readParentheses_X5_advance rfl rfl rfl (by decide +kernel) ⟨Nat.le_of_ble_eq_true rfl, Nat.le_of_ble_eq_true rfl⟩) (h_preV hZ0 hK hE hI g_a (by decide) rfl) rfl rfl hl.1 rfl (lv_room (Nat.le_of_ble_eq_true rfl)) dX5_readParentheses_25 ⟨Nat.le_of_ble_eq_true rfl, Nat.le_of_ble_eq_true rfl⟩) (fun M7 N8 R9 H locs q10 z_M7 hI => ?_)
    subst q10
    refine lv_aload_n hx hb dX5_readParentheses_28 rfl (lv_at hl 0 rfl) ?_
    refine lv_iload_n hx hb dX5_readParentheses_29 rfl (lv_at hl 1 rfl) ?_
    refine lv_iconst (v := 1) hx hb dX5_readParentheses_30 (by decide) ?_
    refine lv_iadd hx hb dX5_readParentheses_31 ?_
    refine h_nm (lo := 1) (hi := 1) (iv_add h_p1 kc_1 (by decide) (by decide) (by decide) (by decide)) (fun v11 e_v11 i_v11 => ?_)
    refine h_goi hI (by decide) (va_runV (As := [.int v11]) (rest := []) ⟨hx, hb, hml, hown, hts⟩ (h_readEither_1 l D g σ Z hZ0 M7 N8 R a g_a v11 i_v11) (cwV 1 hts gX5_readParentheses_X5_readEither rfl rfl rfl (by decide +kernel) ⟨Nat.le_of_ble_eq_true rfl, Nat.le_of_ble_eq_true rfl⟩) (h_preV hZ0 hK hE hI g_a (by decide) rfl) rfl rfl hl.1 rfl (lv_room (Nat.le_of_ble_eq_true rfl)) dX5_readParentheses_32 ⟨Nat.le_of_ble_eq_true rfl, Nat.le_of_ble_eq_true rfl⟩) (fun r12 M13 N14 R15 H locs q16 z_M13 hI => ?_)
    obtain ⟨rfl, i_r12⟩ := q16
    refine lv_if_eq (tgt := 51) hx hb dX5_readParentheses_35 (by decide) (fun c17 => ?_) (fun c17 => ?_)
    · have i18 : iv r12 0 0 := iv_eq1 c17 i_r12 kc_0
      refine lv_iconst (v := 0) hx hb dX5_readParentheses_51 (by decide) ?_
      exact h_iret hQ hx hb hr hlocks rfl hK hI ⟨rfl, (iv_w (lo' := 0) (hi' := 1) kc_0 (by decide) (by decide))⟩ dX5_readParentheses_52
    · have i19 : iv r12 1 1 := iv_neL c17 i_r12 (by decide) (by decide)
      refine lv_aload_n hx hb dX5_readParentheses_38 rfl (lv_at hl 0 rfl) ?_
      refine lv_bipush (v := 41) hx hb dX5_readParentheses_39 (by decide) ?_
      refine h_goi hI (by decide) (va_runV (As := [.int (41 : Int32)]) (rest := []) ⟨hx, hb, hml, hown, hts⟩ (h_readWord_X5 l D g σ Z hZ0 M13 N14 R a g_a (41 : Int32)) (cwV 1 hts gX5_readParentheses_X5_readWord rfl rfl rfl (by decide +kernel) ⟨Nat.le_of_ble_eq_true rfl, Nat.le_of_ble_eq_true rfl⟩) (h_preV hZ0 hK hE hI g_a (by decide) rfl) rfl rfl hl.1 rfl (lv_room (Nat.le_of_ble_eq_true rfl)) dX5_readParentheses_41 ⟨Nat.le_of_ble_eq_true rfl, Nat.le_of_ble_eq_true rfl⟩) (fun r20 M21 N22 R23 H locs q24 z_M21 hI => ?_)
      obtain ⟨rfl, i_r20⟩ := q24
      refine lv_if_eq (tgt := 51) hx hb dX5_readParentheses_44 (by decide) (fun c25 => ?_) (fun c25 => ?_)
      · have i26 : iv r20 0 0 := iv_eq1 c25 i_r20 kc_0
        refine lv_iconst (v := 0) hx hb dX5_readParentheses_51 (by decide) ?_
        exact h_iret hQ hx hb hr hlocks rfl hK hI ⟨rfl, (iv_w (lo' := 0) (hi' := 1) kc_0 (by decide) (by decide))⟩ dX5_readParentheses_52
      · have i27 : iv r20 1 1 := iv_neL c25 i_r20 (by decide) (by decide)
        refine lv_iconst (v := 1) hx hb dX5_readParentheses_47 (by decide) ?_
        refine lv_goto (tgt := 52) hx hb dX5_readParentheses_48 (by decide) ?_
        exact h_iret hQ hx hb hr hlocks rfl hK hI ⟨rfl, (iv_w (lo' := 0) (hi' := 1) kc_1 (by decide) (by decide))⟩ dX5_readParentheses_52
  · exfalso; have h8 := h_p1; have h9 := kc_7; simp only [iv] at h8 h9; rw [Int32.lt_iff_toInt_lt] at c1; omega
abbrev e_h_readUnit_0 : List (Nat × Nat) := [(2, 2), (4, 4), (5, 1), (5, 2), (5, 10), (5, 11), (5, 12), (5, 13), (17, 999)]
set_option maxHeartbeats 4000000 in
set_option maxRecDepth 100000 in
theorem h_readUnit_0 (l : Launch) (D : va_G) (g : Nat → ClassId) (σ : Nat → Option Nat) (Z : State → Heap → Prop) (hZ0 : hZ σ Z) (M : hM) (N : hN) (R : hR) (a : Nat) (g_a : σ a = some 5) (p1 : Int32) (h_p1 : iv p1 0 0) : Met l yX5_readUnit wsX5_readUnit ({ frames := 54, cells := 0, slots := 0, locals := 1232 }) (va_Pc [.ref a, .int p1] (hPre D g σ Z M N R)) (hQi D g σ e_h_readUnit_0 M (fun (r : Int32) (M1 : hM) (N1 : hN) (R1 : hR) => R = R1 ∧ iv r 0 1)) 0 0 (hA σ) := by
  refine h_head (cc := cX5_readUnit) (maxL := 3) (ret := (some .boolean)) (by decide) rfl (Nat.le_of_ble_eq_true rfl) e_h_readUnit_0 ?_
  intro p e s m below meth c ls Q ar hQ hx hb hr hlocks hml hown hts hK hE H locs hI hl
  have hown : s.vm.findClass RX5 = some m.cls := hown
  have hl : lv_has ls 3 [(0, .ref a), (1, .int p1)] := hl
  refine lv_aload_n hx hb dX5_readUnit_0 rfl (lv_at hl 0 rfl) ?_
  refine h_getr hx hb hts iX5_readUnit_X5 hown hK hI g_a (by decide) rfl rfl 0 (by decide) rfl 4 rfl (hts (.fieldLink RX5 12 "CatLeases$Reader" "mews" "LCatLeases$Mews;") (List.mem_of_getElem? (i := 1) rfl)) (fun _ h9 => h9) dX5_readUnit_1 (fun a1 e_a1 g_a1 => ?_)
  refine h_geti (lo := (-2147483648)) (hi := 2147483647) hx hb hts iX5_readUnit_X4 hown hK hI g_a1 (by decide) rfl rfl 4 (by decide) rfl rfl (hts (.fieldLink RX5 237 "CatLeases$Mews" "units" "I") (List.mem_of_getElem? (i := 2) rfl)) (fun _ h9 => h9) dX5_readUnit_4 (fun v2 e_v2 i_v2 => ?_)
  refine lv_bipush (v := 30) hx hb dX5_readUnit_7 (by decide) ?_
  refine lv_icmp_lt (tgt := 17) hx hb dX5_readUnit_9 (by decide) (fun c3 => ?_) (fun c3 => ?_)
  · have i4 : iv v2 (-2147483648) 29 := iv_lt1 c3 i_v2 kc_30 (by decide)
    refine lv_aload_n hx hb dX5_readUnit_17 rfl (lv_at hl 0 rfl) ?_
    refine h_geti (lo := (-2147483648)) (hi := 2147483647) hx hb hts iX5_readUnit_X5 hown hK hI g_a (by decide) rfl rfl 12 (by decide) rfl rfl (hts (.fieldLink RX5 54 "CatLeases$Reader" "kind" "I") (List.mem_of_getElem? (i := 3) rfl)) (fun _ h9 => h9) dX5_readUnit_18 (fun v5 e_v5 i_v5 => ?_)
    refine lv_bipush (v := 40) hx hb dX5_readUnit_21 (by decide) ?_
    refine lv_icmp_ne (tgt := 32) hx hb dX5_readUnit_23 (by decide) (fun c6 => ?_) (fun c6 => ?_)
    · refine lv_aload_n hx hb dX5_readUnit_32 rfl (lv_at hl 0 rfl) ?_
      refine h_geti (lo := (-2147483648)) (hi := 2147483647) hx hb hts iX5_readUnit_X5 hown hK hI g_a (by decide) rfl rfl 12 (by decide) rfl rfl (hts (.fieldLink RX5 54 "CatLeases$Reader" "kind" "I") (List.mem_of_getElem? (i := 3) rfl)) (fun _ h9 => h9) dX5_readUnit_33 (fun v7 e_v7 i_v7 => ?_)
      have q8 : v5 = v7 := (e_v5).trans e_v7.symm
      subst q8
      refine h_goi hI (by decide) (va_runS (As := [.int v5]) (rest := []) ⟨hx, hb, hml, hown, hts⟩ (h_termOf_X5 l D g σ Z hZ0 M N R v5) (va_cwS 1 hts gX5_readUnit_X5_termOf rfl rfl rfl (by decide +kernel) ⟨Nat.le_of_ble_eq_true rfl, Nat.le_of_ble_eq_true rfl⟩) (h_preS hZ0 hK hE hI) rfl rfl hl.1 rfl (lv_room (Nat.le_of_ble_eq_true rfl)) dX5_readUnit_36 ⟨Nat.le_of_ble_eq_true rfl, Nat.le_of_ble_eq_true rfl⟩) (fun r9 M10 N11 R12 H locs q13 z_M10 hI => ?_)
      obtain ⟨rfl, rfl, rfl, i_r9⟩ := q13
      refine lv_istore_n (lv' := [(2, .int r9), (0, .ref a), (1, .int p1)]) hx hb dX5_readUnit_39 rfl hl (by decide) rfl (fun ls hl => ?_)
      refine lv_iload_n hx hb dX5_readUnit_40 rfl (lv_at hl 0 rfl) ?_
      refine lv_iconst (v := (-1)) hx hb dX5_readUnit_41 (by decide) ?_
      have J91 : ∀ (M_91 : hM) (H : Heap) (locs : List Loc) (ls : Array Slot), kI D g σ e_h_readUnit_0 M s.heap M_91 N R H locs → lv_has ls 3 [(0, .ref a)] → v5 = M_91 a 12 → v2 = M_91 a1 4 → W p l e (headSpec wsX5_readUnit ({ frames := 54, cells := 0, slots := 0, locals := 1232 })).room s m ar below meth c H locs 0 0 Q (F0 m 91 ls []) := by
        intro M_91 H locs ls hI hl k0_91 k1_91
        refine lv_aload_n hx hb dX5_readUnit_91 rfl (lv_at hl 0 rfl) ?_
        refine h_getr hx hb hts iX5_readUnit_X5 hown hK hI g_a (by decide) rfl rfl 0 (by decide) rfl 4 rfl (hts (.fieldLink RX5 12 "CatLeases$Reader" "mews" "LCatLeases$Mews;") (List.mem_of_getElem? (i := 1) rfl)) (fun _ h9 => h9) dX5_readUnit_92 (fun a14 e_a14 g_a14 => ?_)
        have q15 : a1 = a14 := (e_a1).trans e_a14.symm
        subst q15
        refine lv_dup hx hb dX5_readUnit_95 rfl ?_
        refine h_geti (lo := (-2147483648)) (hi := 2147483647) hx hb hts iX5_readUnit_X4 hown hK hI g_a1 (by decide) rfl rfl 4 (by decide) rfl rfl (hts (.fieldLink RX5 237 "CatLeases$Mews" "units" "I") (List.mem_of_getElem? (i := 2) rfl)) (fun _ h9 => h9) dX5_readUnit_96 (fun v16 e_v16 i_v16 => ?_)
        have q17 : v2 = v16 := (k1_91).trans e_v16.symm
        subst q17
        refine lv_iconst (v := 1) hx hb dX5_readUnit_99 (by decide) ?_
        refine lv_iadd hx hb dX5_readUnit_100 ?_
        refine h_nm (lo := (-2147483647)) (hi := 30) (iv_add i4 kc_1 (by decide) (by decide) (by decide) (by decide)) (fun v18 e_v18 i_v18 => ?_)
        refine h_puti hx hb hts iX5_readUnit_X4 tyX4 tyX4_ok nmX4 hown hK hI g_a1 (by decide) rfl rfl 4 (by decide) rfl (hts (.fieldLink RX5 237 "CatLeases$Mews" "units" "I") (List.mem_of_getElem? (i := 2) rfl)) (fun _ h9 => h9) rfl .int (by decide +kernel) rfl rfl (iv_w (lo' := (-2147483648)) (hi' := 2147483647) i_v18 (by decide) (by decide)) rfl dX5_readUnit_101 (fun M19 H locs e_M19 hI => ?_)
        refine lv_aload_n hx hb dX5_readUnit_104 rfl (lv_at hl 0 rfl) ?_
        refine h_gov hI (by decide) (va_runV (As := []) (rest := []) ⟨hx, hb, hml, hown, hts⟩ (h_advance_X5 l D g σ Z hZ0 M19 N R a g_a) (cwV 0 hts gX5_readUnit_X5_advance rfl rfl rfl (by decide +kernel) ⟨Nat.le_of_ble_eq_true rfl, Nat.le_of_ble_eq_true rfl⟩) (h_preV hZ0 hK hE hI g_a (by decide) rfl) rfl rfl hl.1 rfl (lv_room (Nat.le_of_ble_eq_true rfl)) dX5_readUnit_105 ⟨Nat.le_of_ble_eq_true rfl, Nat.le_of_ble_eq_true rfl⟩) (fun M21 N22 R23 H locs q24 z_M21 hI => ?_)
        subst q24
        refine lv_iconst (v := 1) hx hb dX5_readUnit_108 (by decide) ?_
        exact h_iret hQ hx hb hr hlocks rfl hK hI ⟨rfl, (iv_w (lo' := 0) (hi' := 1) kc_1 (by decide) (by decide))⟩ dX5_readUnit_109
      refine lv_icmp_eq (tgt := 59) hx hb dX5_readUnit_42 (by decide) (fun c25 => ?_) (fun c25 => ?_)
      · have i26 : iv r9 (-1) (-1) := iv_eq1 c25 i_r9 kc_m1
        refine lv_aload_n hx hb dX5_readUnit_59 rfl (lv_at hl 1 rfl) ?_
        refine h_geti (lo := (-2147483648)) (hi := 2147483647) hx hb hts iX5_readUnit_X5 hown hK hI g_a (by decide) rfl rfl 12 (by decide) rfl rfl (hts (.fieldLink RX5 54 "CatLeases$Reader" "kind" "I") (List.mem_of_getElem? (i := 3) rfl)) (fun _ h9 => h9) dX5_readUnit_60 (fun v27 e_v27 i_v27 => ?_)
        have q28 : v5 = v27 := (e_v5).trans e_v27.symm
        subst q28
        refine lv_sipush (v := 257) hx hb dX5_readUnit_63 (by decide) ?_
        refine lv_icmp_ne (tgt := 86) hx hb dX5_readUnit_66 (by decide) (fun c29 => ?_) (fun c29 => ?_)
        · refine lv_aload_n hx hb dX5_readUnit_86 rfl (lv_at hl 1 rfl) ?_
          refine h_goi hI (by decide) (va_runV (As := []) (rest := []) ⟨hx, hb, hml, hown, hts⟩ (h_refuse_X5 l D g σ Z hZ0 M N R a g_a) (cwV 0 hts gX5_readUnit_X5_refuse rfl rfl rfl (by decide +kernel) ⟨Nat.le_of_ble_eq_true rfl, Nat.le_of_ble_eq_true rfl⟩) (h_preV hZ0 hK hE hI g_a (by decide) rfl) rfl rfl hl.1 rfl (lv_room (Nat.le_of_ble_eq_true rfl)) dX5_readUnit_87 ⟨Nat.le_of_ble_eq_true rfl, Nat.le_of_ble_eq_true rfl⟩) (fun r30 M31 N32 R33 H locs q34 z_M31 hI => ?_)
          obtain ⟨rfl, rfl, i_r30⟩ := q34
          exact h_iret hQ hx hb hr hlocks (nar_z (iv_w (lo' := 0) (hi' := 1) i_r30 (by decide) (by decide))) hK hI ⟨rfl, (iv_w (lo' := 0) (hi' := 1) i_r30 (by decide) (by decide))⟩ dX5_readUnit_90
        · have i35 : iv v5 257 257 := iv_eq1 c29 i_v5 kc_257
          refine lv_aload_n hx hb dX5_readUnit_69 rfl (lv_at hl 1 rfl) ?_
          refine h_getr hx hb hts iX5_readUnit_X5 hown hK hI g_a (by decide) rfl rfl 0 (by decide) rfl 4 rfl (hts (.fieldLink RX5 12 "CatLeases$Reader" "mews" "LCatLeases$Mews;") (List.mem_of_getElem? (i := 1) rfl)) (fun _ h9 => h9) dX5_readUnit_70 (fun a36 e_a36 g_a36 => ?_)
          have q37 : a1 = a36 := (e_a1).trans e_a36.symm
          subst q37
          refine h_getr hx hb hts iX5_readUnit_X4 hown hK hI g_a1 (by decide) rfl rfl 9 (by decide) rfl 2 rfl (hts (.fieldLink RX5 112 "CatLeases$Mews" "formula" "LCatLeases$Formula;") (List.mem_of_getElem? (i := 4) rfl)) (fun _ h9 => h9) dX5_readUnit_73 (fun a38 e_a38 g_a38 => ?_)
          refine lv_aload_n hx hb dX5_readUnit_76 rfl (lv_at hl 1 rfl) ?_
          refine h_geti (lo := (-2147483648)) (hi := 2147483647) hx hb hts iX5_readUnit_X5 hown hK hI g_a (by decide) rfl rfl 13 (by decide) rfl rfl (hts (.fieldLink RX5 57 "CatLeases$Reader" "number" "I") (List.mem_of_getElem? (i := 5) rfl)) (fun _ h9 => h9) dX5_readUnit_77 (fun v39 e_v39 i_v39 => ?_)
          refine h_gov hI (by decide) (va_runV (As := [.int v39]) (rest := []) ⟨hx, hb, hml, hown, hts⟩ (h_addNumber_X2 l D g σ Z hZ0 M N R a38 g_a38 v39) (cwV 1 hts gX5_readUnit_X2_addNumber rfl rfl rfl (by decide +kernel) ⟨Nat.le_of_ble_eq_true rfl, Nat.le_of_ble_eq_true rfl⟩) (h_preV hZ0 hK hE hI g_a38 (by decide) rfl) rfl rfl hl.1 rfl (lv_room (Nat.le_of_ble_eq_true rfl)) dX5_readUnit_80 ⟨Nat.le_of_ble_eq_true rfl, Nat.le_of_ble_eq_true rfl⟩) (fun M41 N42 R43 H locs q44 z_M41 hI => ?_)
          obtain ⟨rfl, rfl⟩ := q44
          refine lv_goto (tgt := 91) hx hb dX5_readUnit_83 (by decide) ?_
          exact J91 M41 H locs ls hI (lv_sub hl [1] rfl) ((e_v5).trans (z_M41 a 5 12 g_a rfl).symm) ((e_v2).trans (z_M41 a1 4 4 g_a1 rfl).symm)
      · have i45 : iv r9 0 6 := iv_neL c25 i_r9 (by decide) (by decide)
        refine lv_aload_n hx hb dX5_readUnit_45 rfl (lv_at hl 1 rfl) ?_
        refine h_getr hx hb hts iX5_readUnit_X5 hown hK hI g_a (by decide) rfl rfl 0 (by decide) rfl 4 rfl (hts (.fieldLink RX5 12 "CatLeases$Reader" "mews" "LCatLeases$Mews;") (List.mem_of_getElem? (i := 1) rfl)) (fun _ h9 => h9) dX5_readUnit_46 (fun a46 e_a46 g_a46 => ?_)
        have q47 : a1 = a46 := (e_a1).trans e_a46.symm
        subst q47
        refine h_getr hx hb hts iX5_readUnit_X4 hown hK hI g_a1 (by decide) rfl rfl 9 (by decide) rfl 2 rfl (hts (.fieldLink RX5 112 "CatLeases$Mews" "formula" "LCatLeases$Formula;") (List.mem_of_getElem? (i := 4) rfl)) (fun _ h9 => h9) dX5_readUnit_49 (fun a48 e_a48 g_a48 => ?_)
        refine lv_iload_n hx hb dX5_readUnit_52 rfl (lv_at hl 0 rfl) ?_
        refine h_gov hI (by decide) (va_runV (As := [.int r9]) (rest := []) ⟨hx, hb, hml, hown, hts⟩ (h_addTerm_X2 l D g σ Z hZ0 M N R a48 g_a48 r9) (cwV 1 hts gX5_readUnit_X2_addTerm rfl rfl rfl (by decide +kernel) ⟨Nat.le_of_ble_eq_true rfl, Nat.le_of_ble_eq_true rfl⟩) (h_preV hZ0 hK hE hI g_a48 (by decide) rfl) rfl rfl hl.1 rfl (lv_room (Nat.le_of_ble_eq_true rfl)) dX5_readUnit_53 ⟨Nat.le_of_ble_eq_true rfl, Nat.le_of_ble_eq_true rfl⟩) (fun M50 N51 R52 H locs q53 z_M50 hI => ?_)
        obtain ⟨rfl, rfl⟩ := q53
        refine lv_goto (tgt := 91) hx hb dX5_readUnit_56 (by decide) ?_
        exact J91 M50 H locs ls hI (lv_sub hl [1] rfl) ((e_v5).trans (z_M50 a 5 12 g_a rfl).symm) ((e_v2).trans (z_M50 a1 4 4 g_a1 rfl).symm)
    · have i54 : iv v5 40 40 := iv_eq1 c6 i_v5 kc_40
      refine lv_aload_n hx hb dX5_readUnit_26 rfl (lv_at hl 0 rfl) ?_
      refine lv_iload_n hx hb dX5_readUnit_27 rfl (lv_at hl 1 rfl) ?_
      refine h_goi hI (by decide) (va_runV (As := [.int p1]) (rest := []) ⟨hx, hb, hml, hown, hts⟩ (h_readParentheses_0 l D g σ Z hZ0 M N R a g_a p1 h_p1) (cwV 1 hts gX5_readUnit_X5_readParentheses rfl rfl rfl (by decide +kernel) ⟨Nat.le_of_ble_eq_true rfl, Nat.le_of_ble_eq_true rfl⟩) (h_preV hZ0 hK hE hI g_a (by decide) rfl) rfl rfl hl.1 rfl (lv_room (Nat.le_of_ble_eq_true rfl)) dX5_readUnit_28 ⟨Nat.le_of_ble_eq_true rfl, Nat.le_of_ble_eq_true rfl⟩) (fun r55 M56 N57 R58 H locs q59 z_M56 hI => ?_)
      obtain ⟨rfl, i_r55⟩ := q59
      exact h_iret hQ hx hb hr hlocks (nar_z i_r55) hK hI ⟨rfl, i_r55⟩ dX5_readUnit_31
  · have i60 : iv v2 30 2147483647 := iv_nlt1 c3 i_v2 kc_30 (by decide)
    refine lv_aload_n hx hb dX5_readUnit_12 rfl (lv_at hl 0 rfl) ?_
    refine h_goi hI (by decide) (va_runV (As := []) (rest := []) ⟨hx, hb, hml, hown, hts⟩ (h_refuse_X5 l D g σ Z hZ0 M N R a g_a) (cwV 0 hts gX5_readUnit_X5_refuse rfl rfl rfl (by decide +kernel) ⟨Nat.le_of_ble_eq_true rfl, Nat.le_of_ble_eq_true rfl⟩) (h_preV hZ0 hK hE hI g_a (by decide) rfl) rfl rfl hl.1 rfl (lv_room (Nat.le_of_ble_eq_true rfl)) dX5_readUnit_13 ⟨Nat.le_of_ble_eq_true rfl, Nat.le_of_ble_eq_true rfl⟩) (fun r61 M62 N63 R64 H locs q65 z_M62 hI => ?_)
    obtain ⟨rfl, rfl, i_r61⟩ := q65
    exact h_iret hQ hx hb hr hlocks (nar_z (iv_w (lo' := 0) (hi' := 1) i_r61 (by decide) (by decide))) hK hI ⟨rfl, (iv_w (lo' := 0) (hi' := 1) i_r61 (by decide) (by decide))⟩ dX5_readUnit_16
