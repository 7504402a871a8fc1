abbrev e_h_isCompared_X9 : List (Nat × Nat) := []
set_option maxHeartbeats 4000000 in
set_option maxRecDepth 100000 in
theorem h_isCompared_X9 (l : Launch) (D : va_G) (g : Nat → ClassId) (σ : Nat → Option Nat) (Z : State → Heap → Prop) (hZ0 : hZ σ Z) (M : hM) (N : hN) (R : hR) (y : Nat) (g_y : σ y = some 9) (m0_EX0 : EX0 M R y) : Met l yX9_isCompared wsX9_isCompared ({ frames := 0, cells := 0, slots := 0, locals := 0 }) (va_Pc [.ref y] (hPre D g σ Z M N R)) (hQi D g σ e_h_isCompared_X9 M (fun (r : Int32) (M1 : hM) (N1 : hN) (R1 : hR) => M = M1 ∧ N = N1 ∧ R = R1 ∧ iv r 0 1)) 0 0 (hA σ) := by
  refine h_head (cc := cX9_isCompared) (maxL := 2) (ret := (some .boolean)) (by decide) rfl (Nat.le_of_ble_eq_true rfl) e_h_isCompared_X9 ?_
  intro p e s m below meth c ls Q ar hQ hx hb hr hlocks hml hown hts hK hE H locs hI hl
  have hown : s.vm.findClass RX9 = some m.cls := hown
  have hl : lv_has ls 2 [(0, .ref y)] := hl
  refine lv_aload_n hx hb dX9_isCompared_0 rfl (lv_at hl 0 rfl) ?_
  refine h_geti (lo := 0) (hi := 90) hx hb hts iX9_isCompared_X9 hown hK hI g_y (by decide) rfl rfl 39 (by decide) rfl rfl (hts (.fieldLink RX9 327 "CatLeasesModel" "piled" "I") (List.mem_of_getElem? (i := 1) rfl)) (fun _ h9 => h9) dX9_isCompared_1 (fun v1 e_v1 i_v1 => ?_)
  have ip9 : iv v1 1 38 := EX0_p m0_EX0 e_v1
  refine lv_iconst (v := 1) hx hb dX9_isCompared_4 (by decide) ?_
  refine lv_isub hx hb dX9_isCompared_5 ?_
  refine h_nm (lo := 0) (hi := 37) (iv_sub ip9 kc_1 (by decide) (by decide) (by decide) (by decide)) (fun v2 e_v2 i_v2 => ?_)
  have J7 : ∀ (n : Nat) (v1_7 : Int32) (H : Heap) (locs : List Loc) (ls : Array Slot), kI D g σ e_h_isCompared_X9 M s.heap M N R H locs → lv_has ls 2 [(0, .ref y), (1, .int v1_7)] → iv v1_7 0 37 → v1_7.toInt < (M y 39).toInt → v1_7.toInt ≤ (-1) + (n : Int) → W p l e (headSpec wsX9_isCompared ({ frames := 0, cells := 0, slots := 0, locals := 0 })).room s m ar below meth c H locs 0 0 Q (F0 m 7 ls []) := by
    intro n
    induction n with
    | zero => intro v1_7 H locs ls hI hl i_v1_7 hk_7 hn; exfalso; have hz := i_v1_7; simp only [iv] at hz; omega
    | succ n ih7 =>
      intro v1_7 H locs ls hI hl i_v1_7 hk_7 hn7
      refine lv_aload_n hx hb dX9_isCompared_7 rfl (lv_at hl 0 rfl) ?_
      refine h_getr hx hb hts iX9_isCompared_X9 hown hK hI g_y (by decide) rfl rfl 32 (by decide) rfl 132 rfl (hts (.fieldLink RX9 85 "CatLeasesModel" "eWhat" "[I") (List.mem_of_getElem? (i := 2) rfl)) (fun _ h9 => h9) dX9_isCompared_8 (fun a3 e_a3 g_a3 => ?_)
      refine lv_iload_n hx hb dX9_isCompared_11 rfl (lv_at hl 1 rfl) ?_
      refine h_iald (j := v1_7.toNatClampNeg) (lo := (-2147483648)) (hi := 2147483647) hx hb hK hI g_a3 (by decide) rfl (iv_in (n := 90) i_v1_7 (by decide) (by decide)) rfl (iv_any _) dX9_isCompared_12 (fun v4 e_v4 i_v4 => ?_)
      refine lv_iconst (v := 5) hx hb dX9_isCompared_13 (by decide) ?_
      refine lv_icmp_eq (tgt := 28) hx hb dX9_isCompared_14 (by decide) (fun c5 => ?_) (fun c5 => ?_)
      · have i6 : iv v4 5 5 := iv_eq1 c5 i_v4 kc_5
        have i7 : iv v1_7 1 37 := ⟨(EX0_top m0_EX0 (show v4 = M (R y 32) v1_7.toNatClampNeg by rw [e_v4, e_a3]) (iv_w i_v1_7 (by decide) (by decide)) hk_7 i6 (by decide)).1, (i_v1_7).2⟩
        obtain ⟨v8, e_v8⟩ : ∃ z : Int32, z = v1_7 + Int32.ofInt (-1) := ⟨_, rfl⟩
        have i_v8 : iv v8 0 36 := by rw [e_v8]; exact iv_add i7 (ki_m1) (by decide) (by decide) (by decide) (by decide)
        refine lv_iinc (v := v8) (lv' := [(1, .int v8), (0, .ref y)]) hx hb dX9_isCompared_28 hl (k := 1) rfl e_v8.symm (by decide) rfl (fun ls hl => ?_)
        refine lv_goto (tgt := 7) hx hb dX9_isCompared_31 (by decide) ?_
        exact ih7 v8 H locs ls hI (lv_sub hl [1, 0] rfl) (iv_w (lo' := 0) (hi' := 37) i_v8 (by decide) (by decide)) (by have h9 := (h_inc e_v8 i7 ki_m1 (by decide) (by decide)); have h8 := hk_7; omega) (by have h9 := (h_inc e_v8 i7 ki_m1 (by decide) (by decide)); omega)
      · refine lv_aload_n hx hb dX9_isCompared_17 rfl (lv_at hl 0 rfl) ?_
        refine h_getr hx hb hts iX9_isCompared_X9 hown hK hI g_y (by decide) rfl rfl 32 (by decide) rfl 132 rfl (hts (.fieldLink RX9 85 "CatLeasesModel" "eWhat" "[I") (List.mem_of_getElem? (i := 2) rfl)) (fun _ h9 => h9) dX9_isCompared_18 (fun a9 e_a9 g_a9 => ?_)
        have q10 : a3 = a9 := (e_a3).trans e_a9.symm
        subst q10
        refine lv_iload_n hx hb dX9_isCompared_21 rfl (lv_at hl 1 rfl) ?_
        refine h_iald (j := v1_7.toNatClampNeg) (lo := (-2147483648)) (hi := 2147483647) hx hb hK hI g_a3 (by decide) rfl (iv_in (n := 90) i_v1_7 (by decide) (by decide)) rfl (iv_any _) dX9_isCompared_22 (fun v11 e_v11 i_v11 => ?_)
        have q12 : v4 = v11 := (e_v4).trans e_v11.symm
        subst q12
        refine lv_bipush (v := 6) hx hb dX9_isCompared_23 (by decide) ?_
        refine lv_icmp_ne (tgt := 34) hx hb dX9_isCompared_25 (by decide) (fun c13 => ?_) (fun c13 => ?_)
        · refine lv_aload_n hx hb dX9_isCompared_34 rfl (lv_at hl 0 rfl) ?_
          refine h_getr hx hb hts iX9_isCompared_X9 hown hK hI g_y (by decide) rfl rfl 32 (by decide) rfl 132 rfl (hts (.fieldLink RX9 85 "CatLeasesModel" "eWhat" "[I") (List.mem_of_getElem? (i := 2) rfl)) (fun _ h9 => h9) dX9_isCompared_35 (fun a14 e_a14 g_a14 => ?_)
          have q15 : a3 = a14 := (e_a3).trans e_a14.symm
          subst q15
          refine lv_iload_n hx hb dX9_isCompared_38 rfl (lv_at hl 1 rfl) ?_
          refine h_iald (j := v1_7.toNatClampNeg) (lo := (-2147483648)) (hi := 2147483647) hx hb hK hI g_a3 (by decide) rfl (iv_in (n := 90) i_v1_7 (by decide) (by decide)) rfl (iv_any _) dX9_isCompared_39 (fun v16 e_v16 i_v16 => ?_)
          have q17 : v4 = v16 := (e_v4).trans e_v16.symm
          subst q17
          refine lv_iconst (v := 4) hx hb dX9_isCompared_40 (by decide) ?_
          refine lv_icmp_ne (tgt := 48) hx hb dX9_isCompared_41 (by decide) (fun c18 => ?_) (fun c18 => ?_)
          · refine lv_iconst (v := 0) hx hb dX9_isCompared_48 (by decide) ?_
            exact h_iret hQ hx hb hr hlocks rfl hK hI ⟨rfl, rfl, rfl, (iv_w (lo' := 0) (hi' := 1) kc_0 (by decide) (by decide))⟩ dX9_isCompared_49
          · have i19 : iv v4 4 4 := iv_eq1 c18 i_v4 kc_4
            refine lv_iconst (v := 1) hx hb dX9_isCompared_44 (by decide) ?_
            refine lv_goto (tgt := 49) hx hb dX9_isCompared_45 (by decide) ?_
            exact h_iret hQ hx hb hr hlocks rfl hK hI ⟨rfl, rfl, rfl, (iv_w (lo' := 0) (hi' := 1) kc_1 (by decide) (by decide))⟩ dX9_isCompared_49
        · have i20 : iv v4 6 6 := iv_eq1 c13 i_v4 kc_6
          have i21 : iv v1_7 1 37 := ⟨(EX0_top m0_EX0 (show v4 = M (R y 32) v1_7.toNatClampNeg by rw [e_v4, e_a3]) (iv_w i_v1_7 (by decide) (by decide)) hk_7 i20 (by decide)).1, (i_v1_7).2⟩
          obtain ⟨v22, e_v22⟩ : ∃ z : Int32, z = v1_7 + Int32.ofInt (-1) := ⟨_, rfl⟩
          have i_v22 : iv v22 0 36 := by rw [e_v22]; exact iv_add i21 (ki_m1) (by decide) (by decide) (by decide) (by decide)
          refine lv_iinc (v := v22) (lv' := [(1, .int v22), (0, .ref y)]) hx hb dX9_isCompared_28 hl (k := 1) rfl e_v22.symm (by decide) rfl (fun ls hl => ?_)
          refine lv_goto (tgt := 7) hx hb dX9_isCompared_31 (by decide) ?_
          exact ih7 v22 H locs ls hI (lv_sub hl [1, 0] rfl) (iv_w (lo' := 0) (hi' := 37) i_v22 (by decide) (by decide)) (by have h9 := (h_inc e_v22 i21 ki_m1 (by decide) (by decide)); have h8 := hk_7; omega) (by have h9 := (h_inc e_v22 i21 ki_m1 (by decide) (by decide)); omega)
  refine lv_istore_n (lv' := [(1, .int v2), (0, .ref y)]) hx hb dX9_isCompared_6 rfl hl (by decide) rfl (fun ls hl => ?_)
  exact J7 38 v2 H locs ls hI (lv_sub hl [1, 0] rfl) i_v2 (by have h9 := (h_dec e_v2 ip9 kc_1 (by decide) (by decide)); rw [← e_v1]; omega) (by have h9 := i_v2; simp only [iv] at h9; omega)
abbrev e_h_behindUnit_X9 : List (Nat × Nat) := [(9, 4), (9, 5), (9, 6), (9, 7), (9, 8), (9, 9), (9, 37), (9, 38), (9, 39), (130, 999), (131, 999), (132, 999), (133, 999)]
set_option maxHeartbeats 4000000 in
set_option maxRecDepth 100000 in
theorem h_behindUnit_X9 (l : Launch) (D : va_G) (g : Nat → ClassId) (σ : Nat → Option Nat) (Z : State → Heap → Prop) (hZ0 : hZ σ Z) (M : hM) (N : hN) (R : hR) (y : Nat) (g_y : σ y = some 9) (m0_PI : PI M y) (m0_EX0 : EX0 M R y) (hg9 : M y 4 = 0) : Met l yX9_behindUnit wsX9_behindUnit ({ frames := 3, cells := 0, slots := 0, locals := 65 }) (va_Pc [.ref y] (hPre D g σ Z M N R)) (hQi D g σ e_h_behindUnit_X9 M (fun (r : Int32) (M1 : hM) (N1 : hN) (R1 : hR) => R = R1 ∧ iv r 0 1 ∧ (PI M1 y) ∧ (PN M M1 y) ∧ (PC M M1 R y) ∧ (M1 y 4 = 0 → EZ M1 R y r) ∧ (gm M1 y < gm M y))) 0 0 (hA σ) := by
  refine h_head (cc := cX9_behindUnit) (maxL := 2) (ret := (some .boolean)) (by decide) rfl (Nat.le_of_ble_eq_true rfl) e_h_behindUnit_X9 ?_
  intro p e s m below meth c ls Q ar hQ hx hb hr hlocks hml hown hts hK hE H locs hI hl
  have hown : s.vm.findClass RX9 = some m.cls := hown
  have hl : lv_has ls 2 [(0, .ref y)] := hl
  have i39 : iv (M y 39) 0 90 := hI.iv1 (a := y) (j := 39) (lo := 0) (hi := 90) (n := 67) g_y rfl (by decide) rfl
  obtain ⟨v1, e_v1⟩ : ∃ z : Int32, z = M y 39 := ⟨_, rfl⟩
  have i_v1 : iv v1 0 90 := by rw [e_v1]; exact hI.iv1 (n := 67) g_y rfl (by decide) rfl
  have ip9 : iv v1 1 38 := EX0_p m0_EX0 e_v1
  obtain ⟨v2, e_v2⟩ : ∃ z : Int32, z = M y 4 := ⟨_, rfl⟩
  have i_v2 : iv v2 0 5 := by rw [e_v2]; exact hI.iv1 (n := 67) g_y rfl (by decide) rfl
  have ig9 : iv v2 0 0 := by rw [e_v2, hg9]; exact kc_0
  refine lv_aload_n hx hb dX9_behindUnit_0 rfl (lv_at hl 0 rfl) ?_
  refine h_goi hI (by decide) (va_runV (As := []) (rest := []) ⟨hx, hb, hml, hown, hts⟩ (h_rankHere_X9 l D g σ Z hZ0 M N R y g_y) (cwV 0 hts gX9_behindUnit_X9_rankHere rfl rfl rfl (by decide +kernel) ⟨Nat.le_of_ble_eq_true rfl, Nat.le_of_ble_eq_true rfl⟩) (h_preV hZ0 hK hE hI g_y (by decide) rfl) rfl rfl hl.1 rfl (lv_room (Nat.le_of_ble_eq_true rfl)) dX9_behindUnit_1 ⟨Nat.le_of_ble_eq_true rfl, Nat.le_of_ble_eq_true rfl⟩) (fun r3 M4 N5 R6 H locs q7 z_M4 hI => ?_)
  obtain ⟨rfl, rfl, rfl, i_r3, z8⟩ := q7
  refine lv_istore_n (lv' := [(1, .int r3), (0, .ref y)]) hx hb dX9_behindUnit_4 rfl hl (by decide) rfl (fun ls hl => ?_)
  refine lv_iload_n hx hb dX9_behindUnit_5 rfl (lv_at hl 0 rfl) ?_
  refine lv_iconst (v := 4) hx hb dX9_behindUnit_6 (by decide) ?_
  have J23 : ∀ (n : Nat) (M_23 : hM) (u39_23 : Int32) (H : Heap) (locs : List Loc) (ls : Array Slot), kI D g σ e_h_behindUnit_X9 M s.heap M_23 N R H locs → lv_has ls 2 [(0, .ref y), (1, .int r3)] → v2 = M_23 y 4 → PI M_23 y → PN M M_23 y → PC M M_23 R y → EX0 M_23 R y → RK M_23 R y r3 → u39_23 = M_23 y 39 → iv u39_23 0 38 → u39_23.toInt ≤ (M y 39).toInt → u39_23.toInt ≤ (-1) + (n : Int) → W p l e (headSpec wsX9_behindUnit ({ frames := 3, cells := 0, slots := 0, locals := 65 })).room s m ar below meth c H locs 0 0 Q (F0 m 23 ls []) := by
    intro n
    induction n with
    | zero => intro M_23 u39_23 H locs ls hI hl k0_23 m_PI_23 m_PN_23 m_PC_23 m_EX0_23 m_RK_23 e_u39_23 i_u39_23 hb_23 hn; exfalso; have hz := i_u39_23; simp only [iv] at hz; omega
    | succ n ih23 =>
      intro M_23 u39_23 H locs ls hI hl k0_23 m_PI_23 m_PN_23 m_PC_23 m_EX0_23 m_RK_23 e_u39_23 i_u39_23 hb_23 hn23
      refine lv_aload_n hx hb dX9_behindUnit_23 rfl (lv_at hl 0 rfl) ?_
      refine h_getr hx hb hts iX9_behindUnit_X9 hown hK hI g_y (by decide) rfl rfl 32 (by decide) rfl 132 rfl (hts (.fieldLink RX9 85 "CatLeasesModel" "eWhat" "[I") (List.mem_of_getElem? (i := 1) rfl)) (fun _ h9 => h9) dX9_behindUnit_24 (fun a9 e_a9 g_a9 => ?_)
      refine lv_aload_n hx hb dX9_behindUnit_27 rfl (lv_at hl 0 rfl) ?_
      refine h_geti (lo := 0) (hi := 90) hx hb hts iX9_behindUnit_X9 hown hK hI g_y (by decide) rfl rfl 39 (by decide) rfl rfl (hts (.fieldLink RX9 327 "CatLeasesModel" "piled" "I") (List.mem_of_getElem? (i := 2) rfl)) (fun _ h9 => h9) dX9_behindUnit_28 (fun v10 e_v10 i_v10 => ?_)
      have q11 : u39_23 = v10 := (e_u39_23).trans e_v10.symm
      subst q11
      have i12 : iv u39_23 1 38 := EX0_p m_EX0_23 (e_u39_23)
      refine lv_iconst (v := 1) hx hb dX9_behindUnit_31 (by decide) ?_
      refine lv_isub hx hb dX9_behindUnit_32 ?_
      refine h_nm (lo := 0) (hi := 37) (iv_sub i12 kc_1 (by decide) (by decide) (by decide) (by decide)) (fun v13 e_v13 i_v13 => ?_)
      refine h_iald (j := v13.toNatClampNeg) (lo := (-2147483648)) (hi := 2147483647) hx hb hK hI g_a9 (by decide) rfl (iv_in (n := 90) i_v13 (by decide) (by decide)) rfl (iv_any _) dX9_behindUnit_33 (fun v14 e_v14 i_v14 => ?_)
      have i15 : iv v14 1 8 := EX0_f m_EX0_23 (show v14 = M_23 (R y 32) v13.toNatClampNeg by rw [e_v14, e_a9]) (iv_w i_v13 (by decide) (by decide)) (by have h9 := (h_dec e_v13 i12 kc_1 (by decide) (by decide)); rw [← (e_u39_23)]; omega)
      refine lv_bipush (v := 6) hx hb dX9_behindUnit_34 (by decide) ?_
      refine lv_icmp_gt (tgt := 104) hx hb dX9_behindUnit_36 (by decide) (fun c16 => ?_) (fun c16 => ?_)
      · have i17 : iv v14 7 8 := iv_lt2 c16 kc_6 i15 (by decide)
        refine lv_iload_n hx hb dX9_behindUnit_104 rfl (lv_at hl 1 rfl) ?_
        refine lv_if_le (tgt := 147) hx hb dX9_behindUnit_105 (by decide) (fun c18 => ?_) (fun c18 => ?_)
        · have i19 : iv r3 0 0 := iv_le1 c18 i_r3 kc_0 (by decide)
          obtain ⟨v20, e_v20⟩ : ∃ z : Int32, z = M_23 y 38 := ⟨_, rfl⟩
          have i21 : iv v20 0 7 := EX0_w m_EX0_23 e_v20
          refine lv_aload_n hx hb dX9_behindUnit_147 rfl (lv_at hl 0 rfl) ?_
          refine lv_dup hx hb dX9_behindUnit_148 rfl ?_
          refine h_geti (lo := 0) (hi := 90) hx hb hts iX9_behindUnit_X9 hown hK hI g_y (by decide) rfl rfl 39 (by decide) rfl rfl (hts (.fieldLink RX9 327 "CatLeasesModel" "piled" "I") (List.mem_of_getElem? (i := 2) rfl)) (fun _ h9 => h9) dX9_behindUnit_149 (fun v22 e_v22 i_v22 => ?_)
          have q23 : u39_23 = v22 := (e_u39_23).trans e_v22.symm
          subst q23
          refine lv_iconst (v := 1) hx hb dX9_behindUnit_152 (by decide) ?_
          refine lv_isub hx hb dX9_behindUnit_153 ?_
          refine h_nm (lo := 0) (hi := 37) (iv_sub i12 kc_1 (by decide) (by decide) (by decide) (by decide)) (fun v24 e_v24 i_v24 => ?_)
          have q25 : v13 = v24 := e_v13.trans e_v24.symm
          subst q25
          refine h_puti hx hb hts iX9_behindUnit_X9 tyX9 tyX9_ok nmX9 hown hK hI g_y (by decide) rfl rfl 39 (by decide) rfl (hts (.fieldLink RX9 327 "CatLeasesModel" "piled" "I") (List.mem_of_getElem? (i := 2) rfl)) (fun _ h9 => h9) rfl .int (by decide +kernel) rfl rfl (iv_w (lo' := 0) (hi' := 90) i_v13 (by decide) (by decide)) rfl dX9_behindUnit_154 (fun M26 H locs e_M26 hI => ?_)
          refine lv_aload_n hx hb dX9_behindUnit_157 rfl (lv_at hl 0 rfl) ?_
          refine h_getr hx hb hts iX9_behindUnit_X9 hown hK hI g_y (by decide) rfl rfl 32 (by decide) rfl 132 rfl (hts (.fieldLink RX9 85 "CatLeasesModel" "eWhat" "[I") (List.mem_of_getElem? (i := 1) rfl)) (fun _ h9 => h9) dX9_behindUnit_158 (fun a27 e_a27 g_a27 => ?_)
          have q28 : a9 = a27 := (e_a9).trans e_a27.symm
          subst q28
          refine lv_aload_n hx hb dX9_behindUnit_161 rfl (lv_at hl 0 rfl) ?_
          refine h_geti (lo := 0) (hi := 90) hx hb hts iX9_behindUnit_X9 hown hK hI g_y (by decide) rfl rfl 39 (by decide) rfl rfl (hts (.fieldLink RX9 327 "CatLeasesModel" "piled" "I") (List.mem_of_getElem? (i := 2) rfl)) (fun _ h9 => h9) dX9_behindUnit_162 (fun v29 e_v29 i_v29 => ?_)
          have q30 : v13 = v29 := ((u2_wr e_M26)).trans e_v29.symm
          subst q30
          refine h_iald (j := v13.toNatClampNeg) (lo := (-2147483648)) (hi := 2147483647) hx hb hK hI g_a9 (by decide) rfl (iv_in (n := 90) i_v13 (by decide) (by decide)) rfl (iv_any _) dX9_behindUnit_165 (fun v31 e_v31 i_v31 => ?_)
          have q32 : v14 = v31 := ((e_v14).trans (u2_st (a := a9) (k := v13.toNatClampNeg) e_M26 (u2_a (so_ne g_a9 g_y (by decide)))).symm).trans e_v31.symm
          subst q32
          refine lv_bipush (v := 7) hx hb dX9_behindUnit_166 (by decide) ?_
          refine lv_icmp_ne (tgt := 191) hx hb dX9_behindUnit_168 (by decide) (fun c33 => ?_) (fun c33 => ?_)
          · have i34 : iv v14 8 8 := iv_neL c33 i17 (by decide) (by decide)
            refine lv_iconst (v := 0) hx hb dX9_behindUnit_191 (by decide) ?_
            have m35 : PI M26 y := (PI_ag hI.2.1 g_y m_PI_23 (hAd.put e_M26 g_y rfl))
            have m36 : PN M M26 y := (PN_ag hI.2.1 g_y m_PN_23 (hAd.put e_M26 g_y rfl))
            have m37 : PC M M26 R y := (PC_ag hI.2.1 g_y m_PC_23 (hAd.put e_M26 g_y rfl))
            exact h_iret hQ hx hb hr hlocks rfl hK hI ⟨rfl, (iv_w (lo' := 0) (hi' := 1) kc_0 (by decide) (by decide)), m35, m36, m37, (fun _ => Or.inl (EX0_end (k := v13) m_EX0_23 (by rw [← (u2_st (a := y) (k := 36) e_M26 (u2_k (by decide)))]; exact (hI.iv1 (a := y) (j := 36) (lo := 0) (hi := 1) (n := 67) g_y rfl (by decide) rfl)) (u2_st (a := y) (k := 36) e_M26 (u2_k (by decide))) (u2_st (a := y) (k := 37) e_M26 (u2_k (by decide))) (u2_row e_M26 (so_ne (hI.2.1.r1 g_y 30 130 (by decide) rfl) g_y (by decide))) (by rw [← (e_u39_23)]; exact (h_dec e_v13 i12 kc_1 (by decide) (by decide))) ((u2_wr e_M26)).symm (by rw [← (show v14 = M_23 (R y 32) v13.toNatClampNeg by rw [e_v14, e_a9])]; exact iv_one i34 (by decide)))), (gm_lt hg9 m0_PI i39 (fun _ => by have h9 := m36.2.2; have h8 := (h_dec e_v13 i12 kc_1 (by decide) (by decide)); have h7 := hb_23; rw [← ((u2_wr e_M26))]; omega))⟩ dX9_behindUnit_192
          · have i38 : iv v14 7 7 := iv_eq1 c33 i17 kc_7
            refine lv_aload_n hx hb dX9_behindUnit_171 rfl (lv_at hl 0 rfl) ?_
            refine lv_dup hx hb dX9_behindUnit_172 rfl ?_
            refine h_geti (lo := (-2147483648)) (hi := 2147483647) hx hb hts iX9_behindUnit_X9 hown hK hI g_y (by decide) rfl rfl 38 (by decide) rfl rfl (hts (.fieldLink RX9 330 "CatLeasesModel" "within" "I") (List.mem_of_getElem? (i := 3) rfl)) (fun _ h9 => h9) dX9_behindUnit_173 (fun v39 e_v39 i_v39 => ?_)
            have q40 : v20 = v39 := ((e_v20).trans (u2_st (a := y) (k := 38) e_M26 (u2_k (by decide))).symm).trans e_v39.symm
            subst q40
            refine lv_iconst (v := 1) hx hb dX9_behindUnit_176 (by decide) ?_
            refine lv_isub hx hb dX9_behindUnit_177 ?_
            refine h_nm (lo := (-1)) (hi := 6) (iv_sub i21 kc_1 (by decide) (by decide) (by decide) (by decide)) (fun v41 e_v41 i_v41 => ?_)
            refine h_puti hx hb hts iX9_behindUnit_X9 tyX9 tyX9_ok nmX9 hown hK hI g_y (by decide) rfl rfl 38 (by decide) rfl (hts (.fieldLink RX9 330 "CatLeasesModel" "within" "I") (List.mem_of_getElem? (i := 3) rfl)) (fun _ h9 => h9) rfl .int (by decide +kernel) rfl rfl (iv_w (lo' := (-2147483648)) (hi' := 2147483647) i_v41 (by decide) (by decide)) rfl dX9_behindUnit_178 (fun M42 H locs e_M42 hI => ?_)
            have m43 : EX0 M42 R y := EX0_close (k := v13) m_EX0_23 ((u2_st (a := y) (k := 36) e_M42 (u2_k (by decide))).trans (u2_st (a := y) (k := 36) e_M26 (u2_k (by decide)))) ((u2_st (a := y) (k := 37) e_M42 (u2_k (by decide))).trans (u2_st (a := y) (k := 37) e_M26 (u2_k (by decide)))) ((u2_st (a := y) (k := 40) e_M42 (u2_k (by decide))).trans (u2_st (a := y) (k := 40) e_M26 (u2_k (by decide)))) ((u2_row e_M42 (so_ne (hI.2.1.r1 g_y 30 130 (by decide) rfl) g_y (by decide))).trans (u2_row e_M26 (so_ne (hI.2.1.r1 g_y 30 130 (by decide) rfl) g_y (by decide)))) ((u2_row e_M42 (so_ne (hI.2.1.r1 g_y 32 132 (by decide) rfl) g_y (by decide))).trans (u2_row e_M26 (so_ne (hI.2.1.r1 g_y 32 132 (by decide) rfl) g_y (by decide)))) ((u2_row e_M42 (so_ne (hI.2.1.r1 g_y 33 133 (by decide) rfl) g_y (by decide))).trans (u2_row e_M26 (so_ne (hI.2.1.r1 g_y 33 133 (by decide) rfl) g_y (by decide)))) (by rw [← (e_u39_23)]; exact (h_dec e_v13 i12 kc_1 (by decide) (by decide))) (((u2_wr e_M26)).trans (u2_st (a := y) (k := 39) e_M42 (u2_k (by decide))).symm).symm (by rw [← (show v14 = M_23 (R y 32) v13.toNatClampNeg by rw [e_v14, e_a9])]; exact c33) (by rw [← ((u2_wr e_M42)), ← e_v20]; exact (h_dec e_v41 i21 kc_1 (by decide) (by decide)))
            refine lv_aload_n hx hb dX9_behindUnit_181 rfl (lv_at hl 0 rfl) ?_
            refine lv_aload_n hx hb dX9_behindUnit_182 rfl (lv_at hl 0 rfl) ?_
            refine lv_bipush (v := 41) hx hb dX9_behindUnit_183 (by decide) ?_
            refine h_goi hI (by decide) (va_runV (As := [.int (41 : Int32)]) (rest := [.ref y]) ⟨hx, hb, hml, hown, hts⟩ (h_isSignHere_X9 l D g σ Z hZ0 M42 N R y g_y (41 : Int32)) (cwV 1 hts gX9_behindUnit_X9_isSignHere rfl rfl rfl (by decide +kernel) ⟨Nat.le_of_ble_eq_true rfl, Nat.le_of_ble_eq_true rfl⟩) (h_preV hZ0 hK hE hI g_y (by decide) rfl) rfl rfl hl.1 rfl (lv_room (Nat.le_of_ble_eq_true rfl)) dX9_behindUnit_185 ⟨Nat.le_of_ble_eq_true rfl, Nat.le_of_ble_eq_true rfl⟩) (fun r44 M45 N46 R47 H locs q48 z_M45 hI => ?_)
            obtain ⟨rfl, rfl, rfl, i_r44, z49, z50⟩ := q48
            have m51 : PI M42 y := (PI_ag hI.2.1 g_y (PI_ag hI.2.1 g_y m_PI_23 (hAd.put e_M26 g_y rfl)) (hAd.put e_M42 g_y rfl))
            refine h_gov hI (by decide) (va_runV (As := [.int r44]) (rest := []) ⟨hx, hb, hml, hown, hts⟩ (h_must_X9 l D g σ Z hZ0 M42 N R y g_y r44 i_r44 m51) (cwV 1 hts gX9_behindUnit_X9_must rfl rfl rfl (by decide +kernel) ⟨Nat.le_of_ble_eq_true rfl, Nat.le_of_ble_eq_true rfl⟩) (h_preV hZ0 hK hE hI g_y (by decide) rfl) rfl rfl hl.1 rfl (lv_room (Nat.le_of_ble_eq_true rfl)) dX9_behindUnit_188 ⟨Nat.le_of_ble_eq_true rfl, Nat.le_of_ble_eq_true rfl⟩) (fun M53 N54 R55 H locs q56 z_M53 hI => ?_)
            obtain ⟨rfl, m57, m58⟩ := q56
            refine lv_iconst (v := 0) hx hb dX9_behindUnit_191 (by decide) ?_
            have m59 : PN M M53 y := (PN_tr (PN_ag hI.2.1 g_y (PN_ag hI.2.1 g_y m_PN_23 (hAd.put e_M26 g_y rfl)) (hAd.put e_M42 g_y rfl)) m58)
            have m60 : PC M M53 R y := (PC_ag hI.2.1 g_y (PC_ag hI.2.1 g_y (PC_ag hI.2.1 g_y m_PC_23 (hAd.put e_M26 g_y rfl)) (hAd.put e_M42 g_y rfl)) (hAd.ag z_M53 (by decide)))
            have m61 : EX0 M53 R y := (EX0_ag hI.2.1 g_y m43 (hAd.ag z_M53 (by decide)))
            exact h_iret hQ hx hb hr hlocks rfl hK hI ⟨rfl, (iv_w (lo' := 0) (hi' := 1) kc_0 (by decide) (by decide)), m57, m59, m60, (fun _ => Or.inr ⟨fun _ => m61, fun h9 => absurd rfl h9⟩), (gm_lt hg9 m0_PI i39 (fun _ => by have h9 := m59.2.2; have h8 := (h_dec e_v13 i12 kc_1 (by decide) (by decide)); have h7 := hb_23; rw [← ((((u2_wr e_M26)).trans (u2_st (a := y) (k := 39) e_M42 (u2_k (by decide))).symm).trans (z_M53 y 9 39 g_y rfl).symm)]; omega))⟩ dX9_behindUnit_192
        · have i62 : iv r3 1 6 := iv_nle1 c18 i_r3 kc_0 (by decide)
          refine lv_aload_n hx hb dX9_behindUnit_108 rfl (lv_at hl 0 rfl) ?_
          refine lv_iload_n hx hb dX9_behindUnit_109 rfl (lv_at hl 1 rfl) ?_
          refine lv_iload_n hx hb dX9_behindUnit_110 rfl (lv_at hl 1 rfl) ?_
          refine lv_iconst (v := 2) hx hb dX9_behindUnit_111 (by decide) ?_
          refine lv_icmp_ne (tgt := 120) hx hb dX9_behindUnit_112 (by decide) (fun c63 => ?_) (fun c63 => ?_)
          · refine lv_iload_n hx hb dX9_behindUnit_120 rfl (lv_at hl 1 rfl) ?_
            refine lv_iconst (v := 1) hx hb dX9_behindUnit_121 (by decide) ?_
            refine lv_icmp_ne (tgt := 130) hx hb dX9_behindUnit_122 (by decide) (fun c64 => ?_) (fun c64 => ?_)
            · have i65 : iv r3 2 6 := iv_neL c64 i62 (by decide) (by decide)
              refine lv_aload_n hx hb dX9_behindUnit_130 rfl (lv_at hl 0 rfl) ?_
              refine lv_aload_n hx hb dX9_behindUnit_131 rfl (lv_at hl 0 rfl) ?_
              refine h_geti (lo := 0) (hi := 1600) hx hb hts iX9_behindUnit_X9 hown hK hI g_y (by decide) rfl rfl 6 (by decide) rfl rfl (hts (.fieldLink RX9 199 "CatLeasesModel" "at" "I") (List.mem_of_getElem? (i := 5) rfl)) (fun _ h9 => h9) dX9_behindUnit_132 (fun v66 e_v66 i_v66 => ?_)
              refine h_goi hI (by decide) (va_runV (As := [.int v66]) (rest := [.int r3, .ref y]) ⟨hx, hb, hml, hown, hts⟩ (h_sign_X9 l D g σ Z hZ0 M_23 N R y g_y v66 (iv_w (lo' := 0) (hi' := 1700) i_v66 (by decide) (by decide))) (cwV 1 hts gX9_behindUnit_X9_sign rfl rfl rfl (by decide +kernel) ⟨Nat.le_of_ble_eq_true rfl, Nat.le_of_ble_eq_true rfl⟩) (h_preV hZ0 hK hE hI g_y (by decide) rfl) rfl rfl hl.1 rfl (lv_room (Nat.le_of_ble_eq_true rfl)) dX9_behindUnit_135 ⟨Nat.le_of_ble_eq_true rfl, Nat.le_of_ble_eq_true rfl⟩) (fun r67 M68 N69 R70 H locs q71 z_M68 hI => ?_)
              obtain ⟨rfl, rfl, rfl, i_r67, z72, z73, z74⟩ := q71
              refine h_gov hI (by decide) (va_runV (As := [.int r3, .int r67]) (rest := []) ⟨hx, hb, hml, hown, hts⟩ (h_pushE_X9 l D g σ Z hZ0 M_23 N R y g_y r3 r67 (iv_39 (e_u39_23) (iv_w (lo' := 0) (hi' := 89) i12 (by decide) (by decide)))) (cwV 2 hts gX9_behindUnit_X9_pushE rfl rfl rfl (by decide +kernel) ⟨Nat.le_of_ble_eq_true rfl, Nat.le_of_ble_eq_true rfl⟩) (h_preV hZ0 hK hE hI g_y (by decide) rfl) rfl rfl hl.1 rfl (lv_room (Nat.le_of_ble_eq_true rfl)) dX9_behindUnit_138 ⟨Nat.le_of_ble_eq_true rfl, Nat.le_of_ble_eq_true rfl⟩) (fun M76 N77 R78 H locs q79 z_M76 hI => ?_)
              obtain ⟨rfl, rfl, z80⟩ := q79
              have m81 : RK M76 R y r3 := (RK_ag hI.2.1 g_y m_RK_23 (hAd.ag z_M76 (by decide)))
              have m82 : EX1 M76 R y := EX0_rank m_EX0_23 (z_M76 y 9 36 g_y rfl) (z_M76 y 9 37 g_y rfl) (z_M76 y 9 38 g_y rfl) (z_M76 y 9 40 g_y rfl) (hAg.row z_M76 (hI.2.1.r1 g_y 30 130 (by decide) rfl) (fun _ => rfl)) z80 (iv_w (lo' := 1) (hi' := 6) i65 (by decide) (by decide)) m81.1 (sg_ok (by rw [z74, e_v66]; exact RK_4 m_RK_23 i65 c63))
              refine lv_aload_n hx hb dX9_behindUnit_141 rfl (lv_at hl 0 rfl) ?_
              have m83 : PI M76 y := (PI_ag hI.2.1 g_y m_PI_23 (hAd.ag z_M76 (by decide)))
              have m84 : PN M M76 y := (PN_ag hI.2.1 g_y m_PN_23 (hAd.ag z_M76 (by decide)))
              refine h_gov hI (by decide) (va_runV (As := []) (rest := []) ⟨hx, hb, hml, hown, hts⟩ (h_goOn_X9 l D g σ Z hZ0 M76 N R y g_y m83) (cwV 0 hts gX9_behindUnit_X9_goOn rfl rfl rfl (by decide +kernel) ⟨Nat.le_of_ble_eq_true rfl, Nat.le_of_ble_eq_true rfl⟩) (h_preV hZ0 hK hE hI g_y (by decide) rfl) rfl rfl hl.1 rfl (lv_room (Nat.le_of_ble_eq_true rfl)) dX9_behindUnit_142 ⟨Nat.le_of_ble_eq_true rfl, Nat.le_of_ble_eq_true rfl⟩) (fun M86 N87 R88 H locs q89 z_M86 hI => ?_)
              obtain ⟨rfl, z90, z91, z92⟩ := q89
              have ng9 : nu M86 y < nu M y := Int.lt_of_lt_of_le (GO_lt z92 (z_M86 y 9 3 g_y rfl) m83 (RK_8 m81 (iv_w (lo' := 1) (hi' := 6) i65 (by decide) (by decide)))) m84.2.2
              refine lv_iconst (v := 1) hx hb dX9_behindUnit_145 (by decide) ?_
              have m93 : PN M M86 y := (PN_tr m84 z91)
              have m94 : PC M M86 R y := (PC_ag hI.2.1 g_y (PC_ag hI.2.1 g_y m_PC_23 (hAd.ag z_M76 (by decide))) (hAd.ag z_M86 (by decide)))
              have m95 : EX1 M86 R y := (EX1_ag hI.2.1 g_y m82 (hAd.ag z_M86 (by decide)))
              exact h_iret hQ hx hb hr hlocks rfl hK hI ⟨rfl, (iv_w (lo' := 0) (hi' := 1) kc_1 (by decide) (by decide)), z90, m93, m94, (fun _ => Or.inr ⟨fun h9 => absurd h9 (by decide), fun _ => m95⟩), (gm_lt hg9 m0_PI i39 (fun _ => by have h9 := ng9; have h8 := (hI.iv1 (a := y) (j := 39) (lo := 0) (hi := 90) (n := 67) g_y rfl (by decide) rfl).2; have h7 := i39.1; omega))⟩ dX9_behindUnit_146
            · have i96 : iv r3 1 1 := iv_eq1 c64 i62 kc_1
              refine lv_bipush (v := 124) hx hb dX9_behindUnit_125 (by decide) ?_
              refine lv_goto (tgt := 138) hx hb dX9_behindUnit_127 (by decide) ?_
              refine h_gov hI (by decide) (va_runV (As := [.int r3, .int (124 : Int32)]) (rest := []) ⟨hx, hb, hml, hown, hts⟩ (h_pushE_X9 l D g σ Z hZ0 M_23 N R y g_y r3 (124 : Int32) (iv_39 (e_u39_23) (iv_w (lo' := 0) (hi' := 89) i12 (by decide) (by decide)))) (cwV 2 hts gX9_behindUnit_X9_pushE rfl rfl rfl (by decide +kernel) ⟨Nat.le_of_ble_eq_true rfl, Nat.le_of_ble_eq_true rfl⟩) (h_preV hZ0 hK hE hI g_y (by decide) rfl) rfl rfl hl.1 rfl (lv_room (Nat.le_of_ble_eq_true rfl)) dX9_behindUnit_138 ⟨Nat.le_of_ble_eq_true rfl, Nat.le_of_ble_eq_true rfl⟩) (fun M98 N99 R100 H locs q101 z_M98 hI => ?_)
              obtain ⟨rfl, rfl, z102⟩ := q101
              have m103 : RK M98 R y r3 := (RK_ag hI.2.1 g_y m_RK_23 (hAd.ag z_M98 (by decide)))
              have m104 : EX1 M98 R y := EX0_rank m_EX0_23 (z_M98 y 9 36 g_y rfl) (z_M98 y 9 37 g_y rfl) (z_M98 y 9 38 g_y rfl) (z_M98 y 9 40 g_y rfl) (hAg.row z_M98 (hI.2.1.r1 g_y 30 130 (by decide) rfl) (fun _ => rfl)) z102 (iv_w (lo' := 1) (hi' := 6) i96 (by decide) (by decide)) m103.1 ⟨by decide, fun h9 => absurd h9.2 (by decide)⟩
              refine lv_aload_n hx hb dX9_behindUnit_141 rfl (lv_at hl 0 rfl) ?_
              have m105 : PI M98 y := (PI_ag hI.2.1 g_y m_PI_23 (hAd.ag z_M98 (by decide)))
              have m106 : PN M M98 y := (PN_ag hI.2.1 g_y m_PN_23 (hAd.ag z_M98 (by decide)))
              refine h_gov hI (by decide) (va_runV (As := []) (rest := []) ⟨hx, hb, hml, hown, hts⟩ (h_goOn_X9 l D g σ Z hZ0 M98 N R y g_y m105) (cwV 0 hts gX9_behindUnit_X9_goOn rfl rfl rfl (by decide +kernel) ⟨Nat.le_of_ble_eq_true rfl, Nat.le_of_ble_eq_true rfl⟩) (h_preV hZ0 hK hE hI g_y (by decide) rfl) rfl rfl hl.1 rfl (lv_room (Nat.le_of_ble_eq_true rfl)) dX9_behindUnit_142 ⟨Nat.le_of_ble_eq_true rfl, Nat.le_of_ble_eq_true rfl⟩) (fun M108 N109 R110 H locs q111 z_M108 hI => ?_)
              obtain ⟨rfl, z112, z113, z114⟩ := q111
              have ng9 : nu M108 y < nu M y := Int.lt_of_lt_of_le (GO_lt z114 (z_M108 y 9 3 g_y rfl) m105 (RK_8 m103 (iv_w (lo' := 1) (hi' := 6) i96 (by decide) (by decide)))) m106.2.2
              refine lv_iconst (v := 1) hx hb dX9_behindUnit_145 (by decide) ?_
              have m115 : PN M M108 y := (PN_tr m106 z113)
              have m116 : PC M M108 R y := (PC_ag hI.2.1 g_y (PC_ag hI.2.1 g_y m_PC_23 (hAd.ag z_M98 (by decide))) (hAd.ag z_M108 (by decide)))
              have m117 : EX1 M108 R y := (EX1_ag hI.2.1 g_y m104 (hAd.ag z_M108 (by decide)))
              exact h_iret hQ hx hb hr hlocks rfl hK hI ⟨rfl, (iv_w (lo' := 0) (hi' := 1) kc_1 (by decide) (by decide)), z112, m115, m116, (fun _ => Or.inr ⟨fun h9 => absurd h9 (by decide), fun _ => m117⟩), (gm_lt hg9 m0_PI i39 (fun _ => by have h9 := ng9; have h8 := (hI.iv1 (a := y) (j := 39) (lo := 0) (hi := 90) (n := 67) g_y rfl (by decide) rfl).2; have h7 := i39.1; omega))⟩ dX9_behindUnit_146
          · have i118 : iv r3 2 2 := iv_eq1 c63 i62 kc_2
            refine lv_bipush (v := 38) hx hb dX9_behindUnit_115 (by decide) ?_
            refine lv_goto (tgt := 138) hx hb dX9_behindUnit_117 (by decide) ?_
            refine h_gov hI (by decide) (va_runV (As := [.int r3, .int (38 : Int32)]) (rest := []) ⟨hx, hb, hml, hown, hts⟩ (h_pushE_X9 l D g σ Z hZ0 M_23 N R y g_y r3 (38 : Int32) (iv_39 (e_u39_23) (iv_w (lo' := 0) (hi' := 89) i12 (by decide) (by decide)))) (cwV 2 hts gX9_behindUnit_X9_pushE rfl rfl rfl (by decide +kernel) ⟨Nat.le_of_ble_eq_true rfl, Nat.le_of_ble_eq_true rfl⟩) (h_preV hZ0 hK hE hI g_y (by decide) rfl) rfl rfl hl.1 rfl (lv_room (Nat.le_of_ble_eq_true rfl)) dX9_behindUnit_138 ⟨Nat.le_of_ble_eq_true rfl, Nat.le_of_ble_eq_true rfl⟩) (fun M120 N121 R122 H locs q123 z_M120 hI => ?_)
            obtain ⟨rfl, rfl, z124⟩ := q123
            have m125 : RK M120 R y r3 := (RK_ag hI.2.1 g_y m_RK_23 (hAd.ag z_M120 (by decide)))
            have m126 : EX1 M120 R y := EX0_rank m_EX0_23 (z_M120 y 9 36 g_y rfl) (z_M120 y 9 37 g_y rfl) (z_M120 y 9 38 g_y rfl) (z_M120 y 9 40 g_y rfl) (hAg.row z_M120 (hI.2.1.r1 g_y 30 130 (by decide) rfl) (fun _ => rfl)) z124 (iv_w (lo' := 1) (hi' := 6) i118 (by decide) (by decide)) m125.1 ⟨by decide, fun h9 => absurd h9.1 (by decide)⟩
            refine lv_aload_n hx hb dX9_behindUnit_141 rfl (lv_at hl 0 rfl) ?_
            have m127 : PI M120 y := (PI_ag hI.2.1 g_y m_PI_23 (hAd.ag z_M120 (by decide)))
            have m128 : PN M M120 y := (PN_ag hI.2.1 g_y m_PN_23 (hAd.ag z_M120 (by decide)))
            refine h_gov hI (by decide) (va_runV (As := []) (rest := []) ⟨hx, hb, hml, hown, hts⟩ (h_goOn_X9 l D g σ Z hZ0 M120 N R y g_y m127) (cwV 0 hts gX9_behindUnit_X9_goOn rfl rfl rfl (by decide +kernel) ⟨Nat.le_of_ble_eq_true rfl, Nat.le_of_ble_eq_true rfl⟩) (h_preV hZ0 hK hE hI g_y (by decide) rfl) rfl rfl hl.1 rfl (lv_room (Nat.le_of_ble_eq_true rfl)) dX9_behindUnit_142 ⟨Nat.le_of_ble_eq_true rfl, Nat.le_of_ble_eq_true rfl⟩) (fun M130 N131 R132 H locs q133 z_M130 hI => ?_)
            obtain ⟨rfl, z134, z135, z136⟩ := q133
            have ng9 : nu M130 y < nu M y := Int.lt_of_lt_of_le (GO_lt z136 (z_M130 y 9 3 g_y rfl) m127 (RK_8 m125 (iv_w (lo' := 1) (hi' := 6) i118 (by decide) (by decide)))) m128.2.2
            refine lv_iconst (v := 1) hx hb dX9_behindUnit_145 (by decide) ?_
            have m137 : PN M M130 y := (PN_tr m128 z135)
            have m138 : PC M M130 R y := (PC_ag hI.2.1 g_y (PC_ag hI.2.1 g_y m_PC_23 (hAd.ag z_M120 (by decide))) (hAd.ag z_M130 (by decide)))
            have m139 : EX1 M130 R y := (EX1_ag hI.2.1 g_y m126 (hAd.ag z_M130 (by decide)))
            exact h_iret hQ hx hb hr hlocks rfl hK hI ⟨rfl, (iv_w (lo' := 0) (hi' := 1) kc_1 (by decide) (by decide)), z134, m137, m138, (fun _ => Or.inr ⟨fun h9 => absurd h9 (by decide), fun _ => m139⟩), (gm_lt hg9 m0_PI i39 (fun _ => by have h9 := ng9; have h8 := (hI.iv1 (a := y) (j := 39) (lo := 0) (hi := 90) (n := 67) g_y rfl (by decide) rfl).2; have h7 := i39.1; omega))⟩ dX9_behindUnit_146
      · have i140 : iv v14 1 6 := iv_nlt2 c16 kc_6 i15 (by decide)
        refine lv_aload_n hx hb dX9_behindUnit_39 rfl (lv_at hl 0 rfl) ?_
        refine h_getr hx hb hts iX9_behindUnit_X9 hown hK hI g_y (by decide) rfl rfl 32 (by decide) rfl 132 rfl (hts (.fieldLink RX9 85 "CatLeasesModel" "eWhat" "[I") (List.mem_of_getElem? (i := 1) rfl)) (fun _ h9 => h9) dX9_behindUnit_40 (fun a141 e_a141 g_a141 => ?_)
        have q142 : a9 = a141 := (e_a9).trans e_a141.symm
        subst q142
        refine lv_aload_n hx hb dX9_behindUnit_43 rfl (lv_at hl 0 rfl) ?_
        refine h_geti (lo := 0) (hi := 90) hx hb hts iX9_behindUnit_X9 hown hK hI g_y (by decide) rfl rfl 39 (by decide) rfl rfl (hts (.fieldLink RX9 327 "CatLeasesModel" "piled" "I") (List.mem_of_getElem? (i := 2) rfl)) (fun _ h9 => h9) dX9_behindUnit_44 (fun v143 e_v143 i_v143 => ?_)
        have q144 : u39_23 = v143 := (e_u39_23).trans e_v143.symm
        subst q144
        refine lv_iconst (v := 1) hx hb dX9_behindUnit_47 (by decide) ?_
        refine lv_isub hx hb dX9_behindUnit_48 ?_
        refine h_nm (lo := 0) (hi := 37) (iv_sub i12 kc_1 (by decide) (by decide) (by decide) (by decide)) (fun v145 e_v145 i_v145 => ?_)
        have q146 : v13 = v145 := e_v13.trans e_v145.symm
        subst q146
        refine h_iald (j := v13.toNatClampNeg) (lo := (-2147483648)) (hi := 2147483647) hx hb hK hI g_a9 (by decide) rfl (iv_in (n := 90) i_v13 (by decide) (by decide)) rfl (iv_any _) dX9_behindUnit_49 (fun v147 e_v147 i_v147 => ?_)
        have q148 : v14 = v147 := (e_v14).trans e_v147.symm
        subst q148
        refine lv_iload_n hx hb dX9_behindUnit_50 rfl (lv_at hl 1 rfl) ?_
        refine lv_icmp_lt (tgt := 104) hx hb dX9_behindUnit_51 (by decide) (fun c149 => ?_) (fun c149 => ?_)
        · have i150 : iv v14 1 5 := iv_lt1 c149 i140 i_r3 (by decide)
          have i151 : iv r3 2 6 := iv_lt2 c149 i140 i_r3 (by decide)
          refine lv_iload_n hx hb dX9_behindUnit_104 rfl (lv_at hl 1 rfl) ?_
          refine lv_if_le (tgt := 147) hx hb dX9_behindUnit_105 (by decide) (fun c152 => ?_) (fun c152 => ?_)
          · exfalso; have h8 := i151; have h9 := kc_0; simp only [iv] at h8 h9; rw [Int32.le_iff_toInt_le] at c152; omega
          · refine lv_aload_n hx hb dX9_behindUnit_108 rfl (lv_at hl 0 rfl) ?_
            refine lv_iload_n hx hb dX9_behindUnit_109 rfl (lv_at hl 1 rfl) ?_
            refine lv_iload_n hx hb dX9_behindUnit_110 rfl (lv_at hl 1 rfl) ?_
            refine lv_iconst (v := 2) hx hb dX9_behindUnit_111 (by decide) ?_
            refine lv_icmp_ne (tgt := 120) hx hb dX9_behindUnit_112 (by decide) (fun c153 => ?_) (fun c153 => ?_)
            · have i154 : iv r3 3 6 := iv_neL c153 i151 (by decide) (by decide)
              refine lv_iload_n hx hb dX9_behindUnit_120 rfl (lv_at hl 1 rfl) ?_
              refine lv_iconst (v := 1) hx hb dX9_behindUnit_121 (by decide) ?_
              refine lv_icmp_ne (tgt := 130) hx hb dX9_behindUnit_122 (by decide) (fun c155 => ?_) (fun c155 => ?_)
              · refine lv_aload_n hx hb dX9_behindUnit_130 rfl (lv_at hl 0 rfl) ?_
                refine lv_aload_n hx hb dX9_behindUnit_131 rfl (lv_at hl 0 rfl) ?_
                refine h_geti (lo := 0) (hi := 1600) hx hb hts iX9_behindUnit_X9 hown hK hI g_y (by decide) rfl rfl 6 (by decide) rfl rfl (hts (.fieldLink RX9 199 "CatLeasesModel" "at" "I") (List.mem_of_getElem? (i := 5) rfl)) (fun _ h9 => h9) dX9_behindUnit_132 (fun v156 e_v156 i_v156 => ?_)
                refine h_goi hI (by decide) (va_runV (As := [.int v156]) (rest := [.int r3, .ref y]) ⟨hx, hb, hml, hown, hts⟩ (h_sign_X9 l D g σ Z hZ0 M_23 N R y g_y v156 (iv_w (lo' := 0) (hi' := 1700) i_v156 (by decide) (by decide))) (cwV 1 hts gX9_behindUnit_X9_sign rfl rfl rfl (by decide +kernel) ⟨Nat.le_of_ble_eq_true rfl, Nat.le_of_ble_eq_true rfl⟩) (h_preV hZ0 hK hE hI g_y (by decide) rfl) rfl rfl hl.1 rfl (lv_room (Nat.le_of_ble_eq_true rfl)) dX9_behindUnit_135 ⟨Nat.le_of_ble_eq_true rfl, Nat.le_of_ble_eq_true rfl⟩) (fun r157 M158 N159 R160 H locs q161 z_M158 hI => ?_)
                obtain ⟨rfl, rfl, rfl, i_r157, z162, z163, z164⟩ := q161
                refine h_gov hI (by decide) (va_runV (As := [.int r3, .int r157]) (rest := []) ⟨hx, hb, hml, hown, hts⟩ (h_pushE_X9 l D g σ Z hZ0 M_23 N R y g_y r3 r157 (iv_39 (e_u39_23) (iv_w (lo' := 0) (hi' := 89) i12 (by decide) (by decide)))) (cwV 2 hts gX9_behindUnit_X9_pushE rfl rfl rfl (by decide +kernel) ⟨Nat.le_of_ble_eq_true rfl, Nat.le_of_ble_eq_true rfl⟩) (h_preV hZ0 hK hE hI g_y (by decide) rfl) rfl rfl hl.1 rfl (lv_room (Nat.le_of_ble_eq_true rfl)) dX9_behindUnit_138 ⟨Nat.le_of_ble_eq_true rfl, Nat.le_of_ble_eq_true rfl⟩) (fun M166 N167 R168 H locs q169 z_M166 hI => ?_)
                obtain ⟨rfl, rfl, z170⟩ := q169
                have m171 : RK M166 R y r3 := (RK_ag hI.2.1 g_y m_RK_23 (hAd.ag z_M166 (by decide)))
                have m172 : EX1 M166 R y := EX0_rank m_EX0_23 (z_M166 y 9 36 g_y rfl) (z_M166 y 9 37 g_y rfl) (z_M166 y 9 38 g_y rfl) (z_M166 y 9 40 g_y rfl) (hAg.row z_M166 (hI.2.1.r1 g_y 30 130 (by decide) rfl) (fun _ => rfl)) z170 (iv_w (lo' := 1) (hi' := 6) i154 (by decide) (by decide)) m171.1 (sg_ok (by rw [z164, e_v156]; exact RK_4 m_RK_23 (iv_w (lo' := 2) (hi' := 6) i154 (by decide) (by decide)) c153))
                refine lv_aload_n hx hb dX9_behindUnit_141 rfl (lv_at hl 0 rfl) ?_
                have m173 : PI M166 y := (PI_ag hI.2.1 g_y m_PI_23 (hAd.ag z_M166 (by decide)))
                have m174 : PN M M166 y := (PN_ag hI.2.1 g_y m_PN_23 (hAd.ag z_M166 (by decide)))
                refine h_gov hI (by decide) (va_runV (As := []) (rest := []) ⟨hx, hb, hml, hown, hts⟩ (h_goOn_X9 l D g σ Z hZ0 M166 N R y g_y m173) (cwV 0 hts gX9_behindUnit_X9_goOn rfl rfl rfl (by decide +kernel) ⟨Nat.le_of_ble_eq_true rfl, Nat.le_of_ble_eq_true rfl⟩) (h_preV hZ0 hK hE hI g_y (by decide) rfl) rfl rfl hl.1 rfl (lv_room (Nat.le_of_ble_eq_true rfl)) dX9_behindUnit_142 ⟨Nat.le_of_ble_eq_true rfl, Nat.le_of_ble_eq_true rfl⟩) (fun M176 N177 R178 H locs q179 z_M176 hI => ?_)
                obtain ⟨rfl, z180, z181, z182⟩ := q179
                have ng9 : nu M176 y < nu M y := Int.lt_of_lt_of_le (GO_lt z182 (z_M176 y 9 3 g_y rfl) m173 (RK_8 m171 (iv_w (lo' := 1) (hi' := 6) i154 (by decide) (by decide)))) m174.2.2
                refine lv_iconst (v := 1) hx hb dX9_behindUnit_145 (by decide) ?_
                have m183 : PN M M176 y := (PN_tr m174 z181)
                have m184 : PC M M176 R y := (PC_ag hI.2.1 g_y (PC_ag hI.2.1 g_y m_PC_23 (hAd.ag z_M166 (by decide))) (hAd.ag z_M176 (by decide)))
                have m185 : EX1 M176 R y := (EX1_ag hI.2.1 g_y m172 (hAd.ag z_M176 (by decide)))
                exact h_iret hQ hx hb hr hlocks rfl hK hI ⟨rfl, (iv_w (lo' := 0) (hi' := 1) kc_1 (by decide) (by decide)), z180, m183, m184, (fun _ => Or.inr ⟨fun h9 => absurd h9 (by decide), fun _ => m185⟩), (gm_lt hg9 m0_PI i39 (fun _ => by have h9 := ng9; have h8 := (hI.iv1 (a := y) (j := 39) (lo := 0) (hi := 90) (n := 67) g_y rfl (by decide) rfl).2; have h7 := i39.1; omega))⟩ dX9_behindUnit_146
              · exact absurd c155 (iv_ne i154 kc_1 (by decide))
            · have i186 : iv r3 2 2 := iv_eq1 c153 i151 kc_2
              refine lv_bipush (v := 38) hx hb dX9_behindUnit_115 (by decide) ?_
              refine lv_goto (tgt := 138) hx hb dX9_behindUnit_117 (by decide) ?_
              refine h_gov hI (by decide) (va_runV (As := [.int r3, .int (38 : Int32)]) (rest := []) ⟨hx, hb, hml, hown, hts⟩ (h_pushE_X9 l D g σ Z hZ0 M_23 N R y g_y r3 (38 : Int32) (iv_39 (e_u39_23) (iv_w (lo' := 0) (hi' := 89) i12 (by decide) (by decide)))) (cwV 2 hts gX9_behindUnit_X9_pushE rfl rfl rfl (by decide +kernel) ⟨Nat.le_of_ble_eq_true rfl, Nat.le_of_ble_eq_true rfl⟩) (h_preV hZ0 hK hE hI g_y (by decide) rfl) rfl rfl hl.1 rfl (lv_room (Nat.le_of_ble_eq_true rfl)) dX9_behindUnit_138 ⟨Nat.le_of_ble_eq_true rfl, Nat.le_of_ble_eq_true rfl⟩) (fun M188 N189 R190 H locs q191 z_M188 hI => ?_)
              obtain ⟨rfl, rfl, z192⟩ := q191
              have m193 : RK M188 R y r3 := (RK_ag hI.2.1 g_y m_RK_23 (hAd.ag z_M188 (by decide)))
              have m194 : EX1 M188 R y := EX0_rank m_EX0_23 (z_M188 y 9 36 g_y rfl) (z_M188 y 9 37 g_y rfl) (z_M188 y 9 38 g_y rfl) (z_M188 y 9 40 g_y rfl) (hAg.row z_M188 (hI.2.1.r1 g_y 30 130 (by decide) rfl) (fun _ => rfl)) z192 (iv_w (lo' := 1) (hi' := 6) i186 (by decide) (by decide)) m193.1 ⟨by decide, fun h9 => absurd h9.1 (by decide)⟩
              refine lv_aload_n hx hb dX9_behindUnit_141 rfl (lv_at hl 0 rfl) ?_
              have m195 : PI M188 y := (PI_ag hI.2.1 g_y m_PI_23 (hAd.ag z_M188 (by decide)))
              have m196 : PN M M188 y := (PN_ag hI.2.1 g_y m_PN_23 (hAd.ag z_M188 (by decide)))
              refine h_gov hI (by decide) (va_runV (As := []) (rest := []) ⟨hx, hb, hml, hown, hts⟩ (h_goOn_X9 l D g σ Z hZ0 M188 N R y g_y m195) (cwV 0 hts gX9_behindUnit_X9_goOn rfl rfl rfl (by decide +kernel) ⟨Nat.le_of_ble_eq_true rfl, Nat.le_of_ble_eq_true rfl⟩) (h_preV hZ0 hK hE hI g_y (by decide) rfl) rfl rfl hl.1 rfl (lv_room (Nat.le_of_ble_eq_true rfl)) dX9_behindUnit_142 ⟨Nat.le_of_ble_eq_true rfl, Nat.le_of_ble_eq_true rfl⟩) (fun M198 N199 R200 H locs q201 z_M198 hI => ?_)
              obtain ⟨rfl, z202, z203, z204⟩ := q201
              have ng9 : nu M198 y < nu M y := Int.lt_of_lt_of_le (GO_lt z204 (z_M198 y 9 3 g_y rfl) m195 (RK_8 m193 (iv_w (lo' := 1) (hi' := 6) i186 (by decide) (by decide)))) m196.2.2
              refine lv_iconst (v := 1) hx hb dX9_behindUnit_145 (by decide) ?_
              have m205 : PN M M198 y := (PN_tr m196 z203)
              have m206 : PC M M198 R y := (PC_ag hI.2.1 g_y (PC_ag hI.2.1 g_y m_PC_23 (hAd.ag z_M188 (by decide))) (hAd.ag z_M198 (by decide)))
              have m207 : EX1 M198 R y := (EX1_ag hI.2.1 g_y m194 (hAd.ag z_M198 (by decide)))
              exact h_iret hQ hx hb hr hlocks rfl hK hI ⟨rfl, (iv_w (lo' := 0) (hi' := 1) kc_1 (by decide) (by decide)), z202, m205, m206, (fun _ => Or.inr ⟨fun h9 => absurd h9 (by decide), fun _ => m207⟩), (gm_lt hg9 m0_PI i39 (fun _ => by have h9 := ng9; have h8 := (hI.iv1 (a := y) (j := 39) (lo := 0) (hi := 90) (n := 67) g_y rfl (by decide) rfl).2; have h7 := i39.1; omega))⟩ dX9_behindUnit_146
        · obtain ⟨v208, e_v208⟩ : ∃ z : Int32, z = M_23 y 38 := ⟨_, rfl⟩
          have i209 : iv v208 0 7 := EX0_w m_EX0_23 e_v208
          refine lv_aload_n hx hb dX9_behindUnit_54 rfl (lv_at hl 0 rfl) ?_
          refine lv_dup hx hb dX9_behindUnit_55 rfl ?_
          refine h_geti (lo := 0) (hi := 90) hx hb hts iX9_behindUnit_X9 hown hK hI g_y (by decide) rfl rfl 39 (by decide) rfl rfl (hts (.fieldLink RX9 327 "CatLeasesModel" "piled" "I") (List.mem_of_getElem? (i := 2) rfl)) (fun _ h9 => h9) dX9_behindUnit_56 (fun v210 e_v210 i_v210 => ?_)
          have q211 : u39_23 = v210 := (e_u39_23).trans e_v210.symm
          subst q211
          refine lv_iconst (v := 1) hx hb dX9_behindUnit_59 (by decide) ?_
          refine lv_isub hx hb dX9_behindUnit_60 ?_
          refine h_nm (lo := 0) (hi := 37) (iv_sub i12 kc_1 (by decide) (by decide) (by decide) (by decide)) (fun v212 e_v212 i_v212 => ?_)
          have q213 : v13 = v212 := e_v13.trans e_v212.symm
          subst q213
          refine h_puti hx hb hts iX9_behindUnit_X9 tyX9 tyX9_ok nmX9 hown hK hI g_y (by decide) rfl rfl 39 (by decide) rfl (hts (.fieldLink RX9 327 "CatLeasesModel" "piled" "I") (List.mem_of_getElem? (i := 2) rfl)) (fun _ h9 => h9) rfl .int (by decide +kernel) rfl rfl (iv_w (lo' := 0) (hi' := 90) i_v13 (by decide) (by decide)) rfl dX9_behindUnit_61 (fun M214 H locs e_M214 hI => ?_)
          refine lv_aload_n hx hb dX9_behindUnit_64 rfl (lv_at hl 0 rfl) ?_
          refine h_getr hx hb hts iX9_behindUnit_X9 hown hK hI g_y (by decide) rfl rfl 32 (by decide) rfl 132 rfl (hts (.fieldLink RX9 85 "CatLeasesModel" "eWhat" "[I") (List.mem_of_getElem? (i := 1) rfl)) (fun _ h9 => h9) dX9_behindUnit_65 (fun a215 e_a215 g_a215 => ?_)
          have q216 : a9 = a215 := (e_a9).trans e_a215.symm
          subst q216
          refine lv_aload_n hx hb dX9_behindUnit_68 rfl (lv_at hl 0 rfl) ?_
          refine h_geti (lo := 0) (hi := 90) hx hb hts iX9_behindUnit_X9 hown hK hI g_y (by decide) rfl rfl 39 (by decide) rfl rfl (hts (.fieldLink RX9 327 "CatLeasesModel" "piled" "I") (List.mem_of_getElem? (i := 2) rfl)) (fun _ h9 => h9) dX9_behindUnit_69 (fun v217 e_v217 i_v217 => ?_)
          have q218 : v13 = v217 := ((u2_wr e_M214)).trans e_v217.symm
          subst q218
          refine h_iald (j := v13.toNatClampNeg) (lo := (-2147483648)) (hi := 2147483647) hx hb hK hI g_a9 (by decide) rfl (iv_in (n := 90) i_v13 (by decide) (by decide)) rfl (iv_any _) dX9_behindUnit_72 (fun v219 e_v219 i_v219 => ?_)
          have q220 : v14 = v219 := ((e_v14).trans (u2_st (a := a9) (k := v13.toNatClampNeg) e_M214 (u2_a (so_ne g_a9 g_y (by decide)))).symm).trans e_v219.symm
          subst q220
          refine lv_iconst (v := 3) hx hb dX9_behindUnit_73 (by decide) ?_
          refine lv_icmp_ne (tgt := 87) hx hb dX9_behindUnit_74 (by decide) (fun c221 => ?_) (fun c221 => ?_)
          · refine lv_aload_n hx hb dX9_behindUnit_87 rfl (lv_at hl 0 rfl) ?_
            refine lv_aload_n hx hb dX9_behindUnit_88 rfl (lv_at hl 0 rfl) ?_
            refine h_getr hx hb hts iX9_behindUnit_X9 hown hK hI g_y (by decide) rfl rfl 33 (by decide) rfl 133 rfl (hts (.fieldLink RX9 88 "CatLeasesModel" "eSign" "[I") (List.mem_of_getElem? (i := 4) rfl)) (fun _ h9 => h9) dX9_behindUnit_89 (fun a222 e_a222 g_a222 => ?_)
            refine lv_aload_n hx hb dX9_behindUnit_92 rfl (lv_at hl 0 rfl) ?_
            refine h_geti (lo := 0) (hi := 90) hx hb hts iX9_behindUnit_X9 hown hK hI g_y (by decide) rfl rfl 39 (by decide) rfl rfl (hts (.fieldLink RX9 327 "CatLeasesModel" "piled" "I") (List.mem_of_getElem? (i := 2) rfl)) (fun _ h9 => h9) dX9_behindUnit_93 (fun v223 e_v223 i_v223 => ?_)
            have q224 : v13 = v223 := ((u2_wr e_M214)).trans e_v223.symm
            subst q224
            refine h_iald (j := v13.toNatClampNeg) (lo := (-2147483648)) (hi := 2147483647) hx hb hK hI g_a222 (by decide) rfl (iv_in (n := 90) i_v13 (by decide) (by decide)) rfl (iv_any _) dX9_behindUnit_96 (fun v225 e_v225 i_v225 => ?_)
            refine lv_iconst (v := 0) hx hb dX9_behindUnit_97 (by decide) ?_
            refine h_gov hI (by decide) (va_runV (As := [.int v225, .int (0 : Int32)]) (rest := []) ⟨hx, hb, hml, hown, hts⟩ (h_emit_X9 l D g σ Z hZ0 M214 N R y g_y v225 (0 : Int32) (EX0_c m_EX0_23 (by rw [← (u2_st (a := y) (k := 36) e_M214 (u2_k (by decide)))]; exact (hI.iv1 (a := y) (j := 36) (lo := 0) (hi := 1) (n := 67) g_y rfl (by decide) rfl)) (u2_st (a := y) (k := 36) e_M214 (u2_k (by decide))) (u2_st (a := y) (k := 37) e_M214 (u2_k (by decide))))) (cwV 2 hts gX9_behindUnit_X9_emit rfl rfl rfl (by decide +kernel) ⟨Nat.le_of_ble_eq_true rfl, Nat.le_of_ble_eq_true rfl⟩) (h_preV hZ0 hK hE hI g_y (by decide) rfl) rfl rfl hl.1 rfl (lv_room (Nat.le_of_ble_eq_true rfl)) dX9_behindUnit_98 ⟨Nat.le_of_ble_eq_true rfl, Nat.le_of_ble_eq_true rfl⟩) (fun M227 N228 R229 H locs q230 z_M227 hI => ?_)
            obtain ⟨rfl, rfl, z231, z232⟩ := q230
            have m233 : EX0 M227 R y := EX0_pop (z := v225) (k := v13) m_EX0_23 ((z_M227 y 9 36 g_y rfl).trans (u2_st (a := y) (k := 36) e_M214 (u2_k (by decide)))) ((z_M227 y 9 40 g_y rfl).trans (u2_st (a := y) (k := 40) e_M214 (u2_k (by decide)))) ((hAg.row z_M227 (hI.2.1.r1 g_y 32 132 (by decide) rfl) (fun _ => rfl)).trans (u2_row e_M214 (so_ne (hI.2.1.r1 g_y 32 132 (by decide) rfl) g_y (by decide)))) ((hAg.row z_M227 (hI.2.1.r1 g_y 33 133 (by decide) rfl) (fun _ => rfl)).trans (u2_row e_M214 (so_ne (hI.2.1.r1 g_y 33 133 (by decide) rfl) g_y (by decide)))) (by rw [← (e_u39_23)]; exact (h_dec e_v13 i12 kc_1 (by decide) (by decide))) (((u2_wr e_M214)).trans (z_M227 y 9 39 g_y rfl).symm).symm (by rw [z231.1, (u2_st (a := y) (k := 37) e_M214 (u2_k (by decide)))]) (fun j => by rw [z231.2 j, (u2_row e_M214 (so_ne (hI.2.1.r1 g_y 30 130 (by decide) rfl) g_y (by decide))), (u2_st (a := y) (k := 37) e_M214 (u2_k (by decide)))]) ((show v225 = M214 (R y 33) v13.toNatClampNeg by rw [e_v225, e_a222]).trans (congrFun (u2_row e_M214 (so_ne (hI.2.1.r1 g_y 33 133 (by decide) rfl) g_y (by decide))) _)) (by rw [← (show v14 = M_23 (R y 32) v13.toNatClampNeg by rw [e_v14, e_a9])]; exact i140) (by rw [if_neg (by rw [← (show v14 = M_23 (R y 32) v13.toNatClampNeg by rw [e_v14, e_a9])]; exact c221), ((z_M227 y 9 38 g_y rfl).trans (u2_st (a := y) (k := 38) e_M214 (u2_k (by decide))))]; omega)
            refine lv_goto (tgt := 23) hx hb dX9_behindUnit_101 (by decide) ?_
            have m234 : PI M227 y := (PI_ag hI.2.1 g_y (PI_ag hI.2.1 g_y m_PI_23 (hAd.put e_M214 g_y rfl)) (hAd.ag z_M227 (by decide)))
            have m235 : PN M M227 y := (PN_ag hI.2.1 g_y (PN_ag hI.2.1 g_y m_PN_23 (hAd.put e_M214 g_y rfl)) (hAd.ag z_M227 (by decide)))
            have m236 : PC M M227 R y := (PC_tr (PC_ag hI.2.1 g_y m_PC_23 (hAd.put e_M214 g_y rfl)) z232)
            have m237 : RK M227 R y r3 := (RK_ag hI.2.1 g_y (RK_ag hI.2.1 g_y m_RK_23 (hAd.put e_M214 g_y rfl)) (hAd.ag z_M227 (by decide)))
            exact ih23 M227 v13 H locs ls hI hl (((k0_23).trans (u2_st (a := y) (k := 4) e_M214 (u2_k (by decide))).symm).trans (z_M227 y 9 4 g_y rfl).symm) m234 m235 m236 m233 m237 (((u2_wr e_M214)).trans (z_M227 y 9 39 g_y rfl).symm) (iv_w (lo' := 0) (hi' := 38) i_v13 (by decide) (by decide)) (by have h9 := (h_dec e_v13 i12 kc_1 (by decide) (by decide)); have h8 := hb_23; omega) (by have h9 := (h_dec e_v13 i12 kc_1 (by decide) (by decide)); omega)
          · have i238 : iv v14 3 3 := iv_eq1 c221 i140 kc_3
            refine lv_aload_n hx hb dX9_behindUnit_77 rfl (lv_at hl 0 rfl) ?_
            refine lv_dup hx hb dX9_behindUnit_78 rfl ?_
            refine h_geti (lo := (-2147483648)) (hi := 2147483647) hx hb hts iX9_behindUnit_X9 hown hK hI g_y (by decide) rfl rfl 38 (by decide) rfl rfl (hts (.fieldLink RX9 330 "CatLeasesModel" "within" "I") (List.mem_of_getElem? (i := 3) rfl)) (fun _ h9 => h9) dX9_behindUnit_79 (fun v239 e_v239 i_v239 => ?_)
            have q240 : v208 = v239 := ((e_v208).trans (u2_st (a := y) (k := 38) e_M214 (u2_k (by decide))).symm).trans e_v239.symm
            subst q240
            refine lv_iconst (v := 1) hx hb dX9_behindUnit_82 (by decide) ?_
            refine lv_isub hx hb dX9_behindUnit_83 ?_
            refine h_nm (lo := (-1)) (hi := 6) (iv_sub i209 kc_1 (by decide) (by decide) (by decide) (by decide)) (fun v241 e_v241 i_v241 => ?_)
            refine h_puti hx hb hts iX9_behindUnit_X9 tyX9 tyX9_ok nmX9 hown hK hI g_y (by decide) rfl rfl 38 (by decide) rfl (hts (.fieldLink RX9 330 "CatLeasesModel" "within" "I") (List.mem_of_getElem? (i := 3) rfl)) (fun _ h9 => h9) rfl .int (by decide +kernel) rfl rfl (iv_w (lo' := (-2147483648)) (hi' := 2147483647) i_v241 (by decide) (by decide)) rfl dX9_behindUnit_84 (fun M242 H locs e_M242 hI => ?_)
            refine lv_aload_n hx hb dX9_behindUnit_87 rfl (lv_at hl 0 rfl) ?_
            refine lv_aload_n hx hb dX9_behindUnit_88 rfl (lv_at hl 0 rfl) ?_
            refine h_getr hx hb hts iX9_behindUnit_X9 hown hK hI g_y (by decide) rfl rfl 33 (by decide) rfl 133 rfl (hts (.fieldLink RX9 88 "CatLeasesModel" "eSign" "[I") (List.mem_of_getElem? (i := 4) rfl)) (fun _ h9 => h9) dX9_behindUnit_89 (fun a243 e_a243 g_a243 => ?_)
            refine lv_aload_n hx hb dX9_behindUnit_92 rfl (lv_at hl 0 rfl) ?_
            refine h_geti (lo := 0) (hi := 90) hx hb hts iX9_behindUnit_X9 hown hK hI g_y (by decide) rfl rfl 39 (by decide) rfl rfl (hts (.fieldLink RX9 327 "CatLeasesModel" "piled" "I") (List.mem_of_getElem? (i := 2) rfl)) (fun _ h9 => h9) dX9_behindUnit_93 (fun v244 e_v244 i_v244 => ?_)
            have q245 : v13 = v244 := (((u2_wr e_M214)).trans (u2_st (a := y) (k := 39) e_M242 (u2_k (by decide))).symm).trans e_v244.symm
            subst q245
            refine h_iald (j := v13.toNatClampNeg) (lo := (-2147483648)) (hi := 2147483647) hx hb hK hI g_a243 (by decide) rfl (iv_in (n := 90) i_v13 (by decide) (by decide)) rfl (iv_any _) dX9_behindUnit_96 (fun v246 e_v246 i_v246 => ?_)
            refine lv_iconst (v := 0) hx hb dX9_behindUnit_97 (by decide) ?_
            refine h_gov hI (by decide) (va_runV (As := [.int v246, .int (0 : Int32)]) (rest := []) ⟨hx, hb, hml, hown, hts⟩ (h_emit_X9 l D g σ Z hZ0 M242 N R y g_y v246 (0 : Int32) (EX0_c m_EX0_23 (by rw [← ((u2_st (a := y) (k := 36) e_M242 (u2_k (by decide))).trans (u2_st (a := y) (k := 36) e_M214 (u2_k (by decide))))]; exact (hI.iv1 (a := y) (j := 36) (lo := 0) (hi := 1) (n := 67) g_y rfl (by decide) rfl)) ((u2_st (a := y) (k := 36) e_M242 (u2_k (by decide))).trans (u2_st (a := y) (k := 36) e_M214 (u2_k (by decide)))) ((u2_st (a := y) (k := 37) e_M242 (u2_k (by decide))).trans (u2_st (a := y) (k := 37) e_M214 (u2_k (by decide)))))) (cwV 2 hts gX9_behindUnit_X9_emit rfl rfl rfl (by decide +kernel) ⟨Nat.le_of_ble_eq_true rfl, Nat.le_of_ble_eq_true rfl⟩) (h_preV hZ0 hK hE hI g_y (by decide) rfl) rfl rfl hl.1 rfl (lv_room (Nat.le_of_ble_eq_true rfl)) dX9_behindUnit_98 ⟨Nat.le_of_ble_eq_true rfl, Nat.le_of_ble_eq_true rfl⟩) (fun M248 N249 R250 H locs q251 z_M248 hI => ?_)
            obtain ⟨rfl, rfl, z252, z253⟩ := q251
            have m254 : EX0 M248 R y := EX0_pop (z := v246) (k := v13) m_EX0_23 ((z_M248 y 9 36 g_y rfl).trans ((u2_st (a := y) (k := 36) e_M242 (u2_k (by decide))).trans (u2_st (a := y) (k := 36) e_M214 (u2_k (by decide))))) ((z_M248 y 9 40 g_y rfl).trans ((u2_st (a := y) (k := 40) e_M242 (u2_k (by decide))).trans (u2_st (a := y) (k := 40) e_M214 (u2_k (by decide))))) ((hAg.row z_M248 (hI.2.1.r1 g_y 32 132 (by decide) rfl) (fun _ => rfl)).trans ((u2_row e_M242 (so_ne (hI.2.1.r1 g_y 32 132 (by decide) rfl) g_y (by decide))).trans (u2_row e_M214 (so_ne (hI.2.1.r1 g_y 32 132 (by decide) rfl) g_y (by decide))))) ((hAg.row z_M248 (hI.2.1.r1 g_y 33 133 (by decide) rfl) (fun _ => rfl)).trans ((u2_row e_M242 (so_ne (hI.2.1.r1 g_y 33 133 (by decide) rfl) g_y (by decide))).trans (u2_row e_M214 (so_ne (hI.2.1.r1 g_y 33 133 (by decide) rfl) g_y (by decide))))) (by rw [← (e_u39_23)]; exact (h_dec e_v13 i12 kc_1 (by decide) (by decide))) ((((u2_wr e_M214)).trans (u2_st (a := y) (k := 39) e_M242 (u2_k (by decide))).symm).trans (z_M248 y 9 39 g_y rfl).symm).symm (by rw [z252.1, ((u2_st (a := y) (k := 37) e_M242 (u2_k (by decide))).trans (u2_st (a := y) (k := 37) e_M214 (u2_k (by decide))))]) (fun j => by rw [z252.2 j, ((u2_row e_M242 (so_ne (hI.2.1.r1 g_y 30 130 (by decide) rfl) g_y (by decide))).trans (u2_row e_M214 (so_ne (hI.2.1.r1 g_y 30 130 (by decide) rfl) g_y (by decide)))), ((u2_st (a := y) (k := 37) e_M242 (u2_k (by decide))).trans (u2_st (a := y) (k := 37) e_M214 (u2_k (by decide))))]) ((show v246 = M242 (R y 33) v13.toNatClampNeg by rw [e_v246, e_a243]).trans (congrFun ((u2_row e_M242 (so_ne (hI.2.1.r1 g_y 33 133 (by decide) rfl) g_y (by decide))).trans (u2_row e_M214 (so_ne (hI.2.1.r1 g_y 33 133 (by decide) rfl) g_y (by decide)))) _)) (by rw [← (show v14 = M_23 (R y 32) v13.toNatClampNeg by rw [e_v14, e_a9])]; exact (iv_w (lo' := 1) (hi' := 6) i238 (by decide) (by decide))) (by rw [if_pos (by rw [← (show v14 = M_23 (R y 32) v13.toNatClampNeg by rw [e_v14, e_a9])]; exact c221), ← (((u2_wr e_M242)).trans (z_M248 y 9 38 g_y rfl).symm), ← e_v208]; have h9 := (h_dec e_v241 i209 kc_1 (by decide) (by decide)); omega)
            refine lv_goto (tgt := 23) hx hb dX9_behindUnit_101 (by decide) ?_
            have m255 : PI M248 y := (PI_ag hI.2.1 g_y (PI_ag hI.2.1 g_y (PI_ag hI.2.1 g_y m_PI_23 (hAd.put e_M214 g_y rfl)) (hAd.put e_M242 g_y rfl)) (hAd.ag z_M248 (by decide)))
            have m256 : PN M M248 y := (PN_ag hI.2.1 g_y (PN_ag hI.2.1 g_y (PN_ag hI.2.1 g_y m_PN_23 (hAd.put e_M214 g_y rfl)) (hAd.put e_M242 g_y rfl)) (hAd.ag z_M248 (by decide)))
            have m257 : PC M M248 R y := (PC_tr (PC_ag hI.2.1 g_y (PC_ag hI.2.1 g_y m_PC_23 (hAd.put e_M214 g_y rfl)) (hAd.put e_M242 g_y rfl)) z253)
            have m258 : RK M248 R y r3 := (RK_ag hI.2.1 g_y (RK_ag hI.2.1 g_y (RK_ag hI.2.1 g_y m_RK_23 (hAd.put e_M214 g_y rfl)) (hAd.put e_M242 g_y rfl)) (hAd.ag z_M248 (by decide)))
            exact ih23 M248 v13 H locs ls hI hl ((((k0_23).trans (u2_st (a := y) (k := 4) e_M214 (u2_k (by decide))).symm).trans (u2_st (a := y) (k := 4) e_M242 (u2_k (by decide))).symm).trans (z_M248 y 9 4 g_y rfl).symm) m255 m256 m257 m254 m258 ((((u2_wr e_M214)).trans (u2_st (a := y) (k := 39) e_M242 (u2_k (by decide))).symm).trans (z_M248 y 9 39 g_y rfl).symm) (iv_w (lo' := 0) (hi' := 38) i_v13 (by decide) (by decide)) (by have h9 := (h_dec e_v13 i12 kc_1 (by decide) (by decide)); have h8 := hb_23; omega) (by have h9 := (h_dec e_v13 i12 kc_1 (by decide) (by decide)); omega)
  refine lv_icmp_ne (tgt := 23) hx hb dX9_behindUnit_7 (by decide) (fun c259 => ?_) (fun c259 => ?_)
  · exact J23 39 M v1 H locs ls hI (lv_sub hl [1, 0] rfl) (e_v2) m0_PI PN_rf PC_rf m0_EX0 z8 (e_v1) (iv_w (lo' := 0) (hi' := 38) ip9 (by decide) (by decide)) (by rw [(e_v1)]; exact Int.le_refl _) (by have h9 := ip9; simp only [iv] at h9; omega)
  · have i260 : iv r3 4 4 := iv_eq1 c259 i_r3 kc_4
    refine lv_aload_n hx hb dX9_behindUnit_10 rfl (lv_at hl 1 rfl) ?_
    refine h_goi hI (by decide) (va_runV (As := []) (rest := []) ⟨hx, hb, hml, hown, hts⟩ (h_isCompared_X9 l D g σ Z hZ0 M N R y g_y m0_EX0) (cwV 0 hts gX9_behindUnit_X9_isCompared rfl rfl rfl (by decide +kernel) ⟨Nat.le_of_ble_eq_true rfl, Nat.le_of_ble_eq_true rfl⟩) (h_preV hZ0 hK hE hI g_y (by decide) rfl) rfl rfl hl.1 rfl (lv_room (Nat.le_of_ble_eq_true rfl)) dX9_behindUnit_11 ⟨Nat.le_of_ble_eq_true rfl, Nat.le_of_ble_eq_true rfl⟩) (fun r261 M262 N263 R264 H locs q265 z_M262 hI => ?_)
    obtain ⟨rfl, rfl, rfl, i_r261⟩ := q265
    refine lv_if_eq (tgt := 23) hx hb dX9_behindUnit_14 (by decide) (fun c266 => ?_) (fun c266 => ?_)
    · have i267 : iv r261 0 0 := iv_eq1 c266 i_r261 kc_0
      exact J23 39 M v1 H locs ls hI (lv_sub hl [1, 0] rfl) (e_v2) m0_PI PN_rf PC_rf m0_EX0 z8 (e_v1) (iv_w (lo' := 0) (hi' := 38) ip9 (by decide) (by decide)) (by rw [(e_v1)]; exact Int.le_refl _) (by have h9 := ip9; simp only [iv] at h9; omega)
    · have i268 : iv r261 1 1 := iv_neL c266 i_r261 (by decide) (by decide)
      refine lv_aload_n hx hb dX9_behindUnit_17 rfl (lv_at hl 1 rfl) ?_
      refine h_gov hI (by decide) (va_runV (As := []) (rest := []) ⟨hx, hb, hml, hown, hts⟩ (h_misplaced_X9 l D g σ Z hZ0 M N R y g_y m0_PI) (cwV 0 hts gX9_behindUnit_X9_misplaced rfl rfl rfl (by decide +kernel) ⟨Nat.le_of_ble_eq_true rfl, Nat.le_of_ble_eq_true rfl⟩) (h_preV hZ0 hK hE hI g_y (by decide) rfl) rfl rfl hl.1 rfl (lv_room (Nat.le_of_ble_eq_true rfl)) dX9_behindUnit_18 ⟨Nat.le_of_ble_eq_true rfl, Nat.le_of_ble_eq_true rfl⟩) (fun M270 N271 R272 H locs q273 z_M270 hI => ?_)
      obtain ⟨rfl, rfl, m274, m275, z276⟩ := q273
      obtain ⟨v277, e_v277⟩ : ∃ z : Int32, z = M270 y 4 := ⟨_, rfl⟩
      have i_v277 : iv v277 1 5 := by rw [e_v277]; exact z276
      refine lv_iconst (v := 1) hx hb dX9_behindUnit_21 (by decide) ?_
      have m278 : PN M M270 y := (PN_tr PN_rf m275)
      have m279 : PC M M270 R y := (PC_ag hI.2.1 g_y PC_rf (hAd.ag z_M270 (by decide)))
      exact h_iret hQ hx hb hr hlocks rfl hK hI ⟨rfl, (iv_w (lo' := 0) (hi' := 1) kc_1 (by decide) (by decide)), m274, m278, m279, (fun h9 => gd_no (e_v277) i_v277 h9), (gm_lt hg9 m0_PI i39 (fun h9 => gd_no (e_v277) i_v277 h9))⟩ dX9_behindUnit_22
