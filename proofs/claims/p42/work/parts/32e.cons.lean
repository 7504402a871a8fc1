abbrev e_h_layLet_X9 : List (Nat × Nat) := [(9, 41), (9, 42), (9, 43), (9, 44), (134, 999), (155, 999)]
set_option maxHeartbeats 4000000 in
set_option maxRecDepth 100000 in
theorem h_layLet_X9 (l : Launch) (D : va_G) (g : Nat → ClassId) (σ : Nat → Option Nat) (Z : State → Heap → Prop) (hZ0 : hZ σ Z) (M : hM) (N : hN) (R : hR) (y : Nat) (g_y : σ y = some 9) (m0_CW : CW M R y) : Met l yX9_layLet wsX9_layLet ({ frames := 5, cells := 0, slots := 0, locals := 114 }) (va_Pc [.ref y] (hPre D g σ Z M N R)) (hQi D g σ e_h_layLet_X9 M (fun (r : Int32) (M1 : hM) (N1 : hN) (R1 : hR) => N = N1 ∧ R = R1)) 0 0 (hA σ) := by
  refine h_head (cc := cX9_layLet) (maxL := 7) (ret := (some .int)) (by decide) rfl (Nat.le_of_ble_eq_true rfl) e_h_layLet_X9 ?_
  intro p e s m below meth c ls Q ar hQ hx hb hr hlocks hml hown hts hK hE H locs hI hl
  have hown : s.vm.findClass RX9 = some m.cls := hown
  have hl : lv_has ls 7 [(0, .ref y)] := hl
  refine lv_iconst (v := 1) hx hb dX9_layLet_0 (by decide) ?_
  refine lv_aload_n hx hb dX9_layLet_1 rfl (lv_at hl 0 rfl) ?_
  refine h_goi hI (by decide) (va_runV (As := []) (rest := [.int (1 : Int32)]) ⟨hx, hb, hml, hown, hts⟩ (h_chambers_X9 l D g σ Z hZ0 M N R y g_y) (cwV 0 hts gX9_layLet_X9_chambers rfl rfl rfl (by decide +kernel) ⟨Nat.le_of_ble_eq_true rfl, Nat.le_of_ble_eq_true rfl⟩) (h_preV hZ0 hK hE hI g_y (by decide) rfl) rfl rfl hl.1 rfl (lv_room (Nat.le_of_ble_eq_true rfl)) dX9_layLet_2 ⟨Nat.le_of_ble_eq_true rfl, Nat.le_of_ble_eq_true rfl⟩) (fun r1 M2 N3 R4 H locs q5 z_M2 hI => ?_)
  obtain ⟨rfl, rfl, rfl, i_r1, z6⟩ := q5
  refine lv_ishl hx hb dX9_layLet_5 ?_
  refine h_nm (lo := 1) (hi := 256) (iv_shl1 8 i_r1 (by decide) (by decide) (by decide) (by decide) (by decide)) (fun v7 e_v7 i_v7 => ?_)
  refine lv_istore_n (lv' := [(1, .int v7), (0, .ref y)]) hx hb dX9_layLet_6 rfl hl (by decide) rfl (fun ls hl => ?_)
  refine lv_iconst (v := 0) hx hb dX9_layLet_7 (by decide) ?_
  have J9 : ∀ (n : Nat) (M_9 : hM) (v2_9 : Int32) (H : Heap) (locs : List Loc) (ls : Array Slot), kI D g σ e_h_layLet_X9 M s.heap M_9 N R H locs → lv_has ls 7 [(0, .ref y), (1, .int v7), (2, .int v2_9)] → CW M_9 R y → iv v2_9 0 256 → 257 ≤ v2_9.toInt + (n : Int) → W p l e (headSpec wsX9_layLet ({ frames := 5, cells := 0, slots := 0, locals := 114 })).room s m ar below meth c H locs 0 0 Q (F0 m 9 ls []) := by
    intro n
    induction n with
    | zero => intro M_9 v2_9 H locs ls hI hl m_CW_9 i_v2_9 hn; exfalso; have hz := i_v2_9; simp only [iv] at hz; omega
    | succ n ih9 =>
      intro M_9 v2_9 H locs ls hI hl m_CW_9 i_v2_9 hn9
      refine lv_iload_n hx hb dX9_layLet_9 rfl (lv_at hl 2 rfl) ?_
      refine lv_iload_n hx hb dX9_layLet_10 rfl (lv_at hl 1 rfl) ?_
      refine lv_icmp_ge (tgt := 36) hx hb dX9_layLet_11 (by decide) (fun c8 => ?_) (fun c8 => ?_)
      · have i9 : iv v2_9 1 256 := iv_le2 c8 i_v7 i_v2_9 (by decide)
        refine lv_aload_n hx hb dX9_layLet_36 rfl (lv_at hl 0 rfl) ?_
        refine h_goi hI (by decide) (va_runV (As := []) (rest := []) ⟨hx, hb, hml, hown, hts⟩ (h_many_X9 l D g σ Z hZ0 M_9 N R y g_y) (cwV 0 hts gX9_layLet_X9_many rfl rfl rfl (by decide +kernel) ⟨Nat.le_of_ble_eq_true rfl, Nat.le_of_ble_eq_true rfl⟩) (h_preV hZ0 hK hE hI g_y (by decide) rfl) rfl rfl hl.1 rfl (lv_room (Nat.le_of_ble_eq_true rfl)) dX9_layLet_37 ⟨Nat.le_of_ble_eq_true rfl, Nat.le_of_ble_eq_true rfl⟩) (fun r10 M11 N12 R13 H locs q14 z_M11 hI => ?_)
        obtain ⟨rfl, rfl, rfl, i_r10, z15⟩ := q14
        refine lv_iconst (v := 1) hx hb dX9_layLet_40 (by decide) ?_
        refine lv_isub hx hb dX9_layLet_41 ?_
        refine h_nm (lo := (-1)) (hi := 6) (iv_sub i_r10 kc_1 (by decide) (by decide) (by decide) (by decide)) (fun v16 e_v16 i_v16 => ?_)
        have J43 : ∀ (n : Nat) (M_43 : hM) (v2_43 : Int32) (H : Heap) (locs : List Loc) (ls : Array Slot), kI D g σ e_h_layLet_X9 M s.heap M_43 N R H locs → lv_has ls 7 [(0, .ref y), (1, .int v7), (2, .int v2_43)] → CW M_43 R y → iv v2_43 (-1) 6 → v2_43.toInt ≤ (-2) + (n : Int) → W p l e (headSpec wsX9_layLet ({ frames := 5, cells := 0, slots := 0, locals := 114 })).room s m ar below meth c H locs 0 0 Q (F0 m 43 ls []) := by
          intro n
          induction n with
          | zero => intro M_43 v2_43 H locs ls hI hl m_CW_43 i_v2_43 hn; exfalso; have hz := i_v2_43; simp only [iv] at hz; omega
          | succ n ih43 =>
            intro M_43 v2_43 H locs ls hI hl m_CW_43 i_v2_43 hn43
            refine lv_iload_n hx hb dX9_layLet_43 rfl (lv_at hl 2 rfl) ?_
            refine lv_if_lt (tgt := 205) hx hb dX9_layLet_44 (by decide) (fun c17 => ?_) (fun c17 => ?_)
            · have i18 : iv v2_43 (-1) (-1) := iv_lt1 c17 i_v2_43 kc_0 (by decide)
              refine lv_aload_n hx hb dX9_layLet_205 rfl (lv_at hl 0 rfl) ?_
              refine h_getr hx hb hts iX9_layLet_X9 hown hK hI g_y (by decide) rfl rfl 55 (by decide) rfl 155 rfl (hts (.fieldLink RX9 115 "CatLeasesModel" "letFrom" "[I") (List.mem_of_getElem? (i := 1) rfl)) (fun _ h9 => h9) dX9_layLet_206 (fun a19 e_a19 g_a19 => ?_)
              refine lv_iconst (v := 0) hx hb dX9_layLet_209 (by decide) ?_
              refine h_iald (j := 0) (lo := (-2147483648)) (hi := 2147483647) hx hb hK hI g_a19 (by decide) rfl (iv_in (n := 2048) kc_0 (by decide) (by decide)) (by decide) (iv_any _) dX9_layLet_210 (fun v20 e_v20 i_v20 => ?_)
              exact h_iret hQ hx hb hr hlocks rfl hK hI ⟨rfl, rfl⟩ dX9_layLet_211
            · have i21 : iv v2_43 0 6 := iv_nlt1 c17 i_v2_43 kc_0 (by decide)
              refine lv_iconst (v := 0) hx hb dX9_layLet_47 (by decide) ?_
              have J49 : ∀ (n : Nat) (M_49 : hM) (v3_49 : Int32) (H : Heap) (locs : List Loc) (ls : Array Slot), kI D g σ e_h_layLet_X9 M s.heap M_49 N R H locs → lv_has ls 7 [(0, .ref y), (1, .int v7), (2, .int v2_43), (3, .int v3_49)] → CW M_49 R y → iv v3_49 0 256 → 257 ≤ v3_49.toInt + (n : Int) → W p l e (headSpec wsX9_layLet ({ frames := 5, cells := 0, slots := 0, locals := 114 })).room s m ar below meth c H locs 0 0 Q (F0 m 49 ls []) := by
                intro n
                induction n with
                | zero => intro M_49 v3_49 H locs ls hI hl m_CW_49 i_v3_49 hn; exfalso; have hz := i_v3_49; simp only [iv] at hz; omega
                | succ n ih49 =>
                  intro M_49 v3_49 H locs ls hI hl m_CW_49 i_v3_49 hn49
                  refine lv_iload_n hx hb dX9_layLet_49 rfl (lv_at hl 3 rfl) ?_
                  refine lv_iload_n hx hb dX9_layLet_50 rfl (lv_at hl 1 rfl) ?_
                  refine lv_icmp_ge (tgt := 86) hx hb dX9_layLet_51 (by decide) (fun c22 => ?_) (fun c22 => ?_)
                  · have i23 : iv v3_49 1 256 := iv_le2 c22 i_v7 i_v3_49 (by decide)
                    refine lv_iconst (v := 0) hx hb dX9_layLet_86 (by decide) ?_
                    have J88 : ∀ (n : Nat) (M_88 : hM) (v3_88 : Int32) (H : Heap) (locs : List Loc) (ls : Array Slot), kI D g σ e_h_layLet_X9 M s.heap M_88 N R H locs → lv_has ls 7 [(0, .ref y), (1, .int v7), (2, .int v2_43), (3, .int v3_88)] → CW M_88 R y → iv v3_88 0 8 → 9 ≤ v3_88.toInt + (n : Int) → W p l e (headSpec wsX9_layLet ({ frames := 5, cells := 0, slots := 0, locals := 114 })).room s m ar below meth c H locs 0 0 Q (F0 m 88 ls []) := by
                      intro n
                      induction n with
                      | zero => intro M_88 v3_88 H locs ls hI hl m_CW_88 i_v3_88 hn; exfalso; have hz := i_v3_88; simp only [iv] at hz; omega
                      | succ n ih88 =>
                        intro M_88 v3_88 H locs ls hI hl m_CW_88 i_v3_88 hn88
                        refine lv_iload_n hx hb dX9_layLet_88 rfl (lv_at hl 3 rfl) ?_
                        refine lv_aload_n hx hb dX9_layLet_89 rfl (lv_at hl 0 rfl) ?_
                        refine h_goi hI (by decide) (va_runV (As := []) (rest := [.int v3_88]) ⟨hx, hb, hml, hown, hts⟩ (h_chambers_X9 l D g σ Z hZ0 M_88 N R y g_y) (cwV 0 hts gX9_layLet_X9_chambers rfl rfl rfl (by decide +kernel) ⟨Nat.le_of_ble_eq_true rfl, Nat.le_of_ble_eq_true rfl⟩) (h_preV hZ0 hK hE hI g_y (by decide) rfl) rfl rfl hl.1 rfl (lv_room (Nat.le_of_ble_eq_true rfl)) dX9_layLet_90 ⟨Nat.le_of_ble_eq_true rfl, Nat.le_of_ble_eq_true rfl⟩) (fun r24 M25 N26 R27 H locs q28 z_M25 hI => ?_)
                        obtain ⟨rfl, rfl, rfl, i_r24, z29⟩ := q28
                        refine lv_icmp_ge (tgt := 199) hx hb dX9_layLet_93 (by decide) (fun c30 => ?_) (fun c30 => ?_)
                        · obtain ⟨v31, e_v31⟩ : ∃ z : Int32, z = v2_43 + Int32.ofInt (-1) := ⟨_, rfl⟩
                          have i_v31 : iv v31 (-1) 5 := by rw [e_v31]; exact iv_add i21 (ki_m1) (by decide) (by decide) (by decide) (by decide)
                          refine lv_iinc (v := v31) (lv' := [(2, .int v31), (0, .ref y), (1, .int v7), (3, .int v3_88)]) hx hb dX9_layLet_199 hl (k := 2) rfl e_v31.symm (by decide) rfl (fun ls hl => ?_)
                          refine lv_goto (tgt := 43) hx hb dX9_layLet_202 (by decide) ?_
                          exact ih43 M_88 v31 H locs ls hI (lv_sub hl [1, 2, 0] rfl) m_CW_88 (iv_w (lo' := (-1)) (hi' := 6) i_v31 (by decide) (by decide)) (by have h9 := (h_inc e_v31 i21 ki_m1 (by decide) (by decide)); omega)
                        · have i32 : iv r24 1 8 := iv_nle1 c30 i_r24 i_v3_88 (by decide)
                          have i33 : iv v3_88 0 7 := iv_nle2 c30 i_r24 i_v3_88 (by decide)
                          refine lv_aload_n hx hb dX9_layLet_96 rfl (lv_at hl 0 rfl) ?_
                          refine lv_iload_n hx hb dX9_layLet_97 rfl (lv_at hl 2 rfl) ?_
                          refine lv_iload_n hx hb dX9_layLet_98 rfl (lv_at hl 3 rfl) ?_
                          refine h_goi hI (by decide) (va_runV (As := [.int v2_43, .int v3_88]) (rest := []) ⟨hx, hb, hml, hown, hts⟩ (h_letIn_X9 l D g σ Z hZ0 M_88 N R y g_y v2_43 i21 v3_88 i33 m_CW_88) (cwV 2 hts gX9_layLet_X9_letIn rfl rfl rfl (by decide +kernel) ⟨Nat.le_of_ble_eq_true rfl, Nat.le_of_ble_eq_true rfl⟩) (h_preV hZ0 hK hE hI g_y (by decide) rfl) rfl rfl hl.1 rfl (lv_room (Nat.le_of_ble_eq_true rfl)) dX9_layLet_99 ⟨Nat.le_of_ble_eq_true rfl, Nat.le_of_ble_eq_true rfl⟩) (fun r34 M35 N36 R37 H locs q38 z_M35 hI => ?_)
                          obtain ⟨rfl, rfl, i_r34⟩ := q38
                          refine lv_istore (lv' := [(4, .int r34), (0, .ref y), (1, .int v7), (2, .int v2_43), (3, .int v3_88)]) hx hb dX9_layLet_102 hl (by decide) rfl (fun ls hl => ?_)
                          refine lv_iconst (v := 0) hx hb dX9_layLet_104 (by decide) ?_
                          have J107 : ∀ (n : Nat) (M_107 : hM) (v5_107 : Int32) (H : Heap) (locs : List Loc) (ls : Array Slot), kI D g σ e_h_layLet_X9 M s.heap M_107 N R H locs → lv_has ls 7 [(0, .ref y), (1, .int v7), (2, .int v2_43), (3, .int v3_88), (4, .int r34), (5, .int v5_107)] → CW M_107 R y → iv v5_107 0 256 → 257 ≤ v5_107.toInt + (n : Int) → W p l e (headSpec wsX9_layLet ({ frames := 5, cells := 0, slots := 0, locals := 114 })).room s m ar below meth c H locs 0 0 Q (F0 m 107 ls []) := by
                            intro n
                            induction n with
                            | zero => intro M_107 v5_107 H locs ls hI hl m_CW_107 i_v5_107 hn; exfalso; have hz := i_v5_107; simp only [iv] at hz; omega
                            | succ n ih107 =>
                              intro M_107 v5_107 H locs ls hI hl m_CW_107 i_v5_107 hn107
                              refine lv_iload hx hb dX9_layLet_107 (lv_at hl 5 rfl) ?_
                              refine lv_iload_n hx hb dX9_layLet_109 rfl (lv_at hl 1 rfl) ?_
                              have J193 : ∀ (H : Heap) (locs : List Loc) (ls : Array Slot), kI D g σ e_h_layLet_X9 M s.heap M_107 N R H locs → lv_has ls 7 [(0, .ref y), (1, .int v7), (2, .int v2_43), (3, .int v3_88)] → W p l e (headSpec wsX9_layLet ({ frames := 5, cells := 0, slots := 0, locals := 114 })).room s m ar below meth c H locs 0 0 Q (F0 m 193 ls []) := by
                                intro H locs ls hI hl
                                obtain ⟨v39, e_v39⟩ : ∃ z : Int32, z = v3_88 + Int32.ofInt 1 := ⟨_, rfl⟩
                                have i_v39 : iv v39 1 8 := by rw [e_v39]; exact iv_add i33 (ki_1) (by decide) (by decide) (by decide) (by decide)
                                refine lv_iinc (v := v39) (lv' := [(3, .int v39), (0, .ref y), (1, .int v7), (2, .int v2_43)]) hx hb dX9_layLet_193 hl (k := 3) rfl e_v39.symm (by decide) rfl (fun ls hl => ?_)
                                refine lv_goto (tgt := 88) hx hb dX9_layLet_196 (by decide) ?_
                                exact ih88 M_107 v39 H locs ls hI (lv_sub hl [1, 2, 3, 0] rfl) m_CW_107 (iv_w (lo' := 0) (hi' := 8) i_v39 (by decide) (by decide)) (by have h9 := (h_inc e_v39 i33 ki_1 (by decide) (by decide)); omega)
                              refine lv_icmp_ge (tgt := 193) hx hb dX9_layLet_110 (by decide) (fun c40 => ?_) (fun c40 => ?_)
                              · have i41 : iv v5_107 1 256 := iv_le2 c40 i_v7 i_v5_107 (by decide)
                                exact J193 H locs ls hI (lv_sub hl [0, 1, 2, 3] rfl)
                              · have i42 : iv v5_107 0 255 := iv_nle2 c40 i_v7 i_v5_107 (by decide)
                                refine lv_iload hx hb dX9_layLet_113 (lv_at hl 4 rfl) ?_
                                refine lv_if_lt (tgt := 193) hx hb dX9_layLet_115 (by decide) (fun c43 => ?_) (fun c43 => ?_)
                                · have i44 : iv r34 (-1) (-1) := iv_lt1 c43 i_r34 kc_0 (by decide)
                                  exact J193 H locs ls hI (lv_sub hl [0, 1, 2, 3] rfl)
                                · have i45 : iv r34 0 109999 := iv_nlt1 c43 i_r34 kc_0 (by decide)
                                  refine lv_iload hx hb dX9_layLet_118 (lv_at hl 5 rfl) ?_
                                  refine lv_iload_n hx hb dX9_layLet_120 rfl (lv_at hl 3 rfl) ?_
                                  refine h_goi hI (by decide) (va_runS (As := [.int v5_107, .int v3_88]) (rest := []) ⟨hx, hb, hml, hown, hts⟩ (h_bit_X9 l D g σ Z hZ0 M_107 N R v5_107 v3_88) (va_cwS 2 hts gX9_layLet_X9_bit rfl rfl rfl (by decide +kernel) ⟨Nat.le_of_ble_eq_true rfl, Nat.le_of_ble_eq_true rfl⟩) (h_preS hZ0 hK hE hI) rfl rfl hl.1 rfl (lv_room (Nat.le_of_ble_eq_true rfl)) dX9_layLet_121 ⟨Nat.le_of_ble_eq_true rfl, Nat.le_of_ble_eq_true rfl⟩) (fun r46 M47 N48 R49 H locs q50 z_M47 hI => ?_)
                                  obtain ⟨rfl, rfl, rfl, i_r46, z51⟩ := q50
                                  have J187 : ∀ (M_187 : hM) (H : Heap) (locs : List Loc) (ls : Array Slot), kI D g σ e_h_layLet_X9 M s.heap M_187 N R H locs → lv_has ls 7 [(0, .ref y), (1, .int v7), (2, .int v2_43), (3, .int v3_88), (4, .int r34), (5, .int v5_107)] → CW M_187 R y → W p l e (headSpec wsX9_layLet ({ frames := 5, cells := 0, slots := 0, locals := 114 })).room s m ar below meth c H locs 0 0 Q (F0 m 187 ls []) := by
                                    intro M_187 H locs ls hI hl m_CW_187
                                    obtain ⟨v52, e_v52⟩ : ∃ z : Int32, z = v5_107 + Int32.ofInt 1 := ⟨_, rfl⟩
                                    have i_v52 : iv v52 1 256 := by rw [e_v52]; exact iv_add i42 (ki_1) (by decide) (by decide) (by decide) (by decide)
                                    refine lv_iinc (v := v52) (lv' := [(5, .int v52), (0, .ref y), (1, .int v7), (2, .int v2_43), (3, .int v3_88), (4, .int r34)]) hx hb dX9_layLet_187 hl (k := 5) rfl e_v52.symm (by decide) rfl (fun ls hl => ?_)
                                    refine lv_goto (tgt := 107) hx hb dX9_layLet_190 (by decide) ?_
                                    exact ih107 M_187 v52 H locs ls hI (lv_sub hl [1, 2, 3, 4, 5, 0] rfl) m_CW_187 (iv_w (lo' := 0) (hi' := 256) i_v52 (by decide) (by decide)) (by have h9 := (h_inc e_v52 i42 ki_1 (by decide) (by decide)); omega)
                                  refine lv_if_eq (tgt := 130) hx hb dX9_layLet_124 (by decide) (fun c53 => ?_) (fun c53 => ?_)
                                  · have i54 : iv r46 0 0 := iv_eq1 c53 i_r46 kc_0
                                    refine lv_iload hx hb dX9_layLet_130 (lv_at hl 4 rfl) ?_
                                    refine lv_aload_n hx hb dX9_layLet_132 rfl (lv_at hl 0 rfl) ?_
                                    refine h_getr hx hb hts iX9_layLet_X9 hown hK hI g_y (by decide) rfl rfl 55 (by decide) rfl 155 rfl (hts (.fieldLink RX9 115 "CatLeasesModel" "letFrom" "[I") (List.mem_of_getElem? (i := 1) rfl)) (fun _ h9 => h9) dX9_layLet_133 (fun a55 e_a55 g_a55 => ?_)
                                    refine lv_sipush (v := 256) hx hb dX9_layLet_136 (by decide) ?_
                                    refine lv_iload_n hx hb dX9_layLet_139 rfl (lv_at hl 2 rfl) ?_
                                    refine lv_iconst (v := 1) hx hb dX9_layLet_140 (by decide) ?_
                                    refine lv_iadd hx hb dX9_layLet_141 ?_
                                    refine h_nm (lo := 1) (hi := 7) (iv_add i21 kc_1 (by decide) (by decide) (by decide) (by decide)) (fun v56 e_v56 i_v56 => ?_)
                                    refine lv_imul hx hb dX9_layLet_142 ?_
                                    refine h_nm (lo := 256) (hi := 1792) (iv_mul kc_256 i_v56 (by decide) (by decide) (by decide) (by decide) (by decide)) (fun v57 e_v57 i_v57 => ?_)
                                    refine lv_iload hx hb dX9_layLet_143 (lv_at hl 5 rfl) ?_
                                    refine lv_iconst (v := 1) hx hb dX9_layLet_145 (by decide) ?_
                                    refine lv_iload_n hx hb dX9_layLet_146 rfl (lv_at hl 3 rfl) ?_
                                    refine lv_ishl hx hb dX9_layLet_147 ?_
                                    refine h_nm (lo := 1) (hi := 128) (iv_shl1 7 i33 (by decide) (by decide) (by decide) (by decide) (by decide)) (fun v58 e_v58 i_v58 => ?_)
                                    refine lv_ior hx hb dX9_layLet_148 ?_
                                    refine h_nm (lo := 0) (hi := 255) (iv_or 8 i42 i_v58 (by decide) (by decide) (by decide) (by decide) (by decide) (by decide)) (fun v59 e_v59 i_v59 => ?_)
                                    refine lv_iadd hx hb dX9_layLet_149 ?_
                                    refine h_nm (lo := 256) (hi := 2047) (iv_add i_v57 i_v59 (by decide) (by decide) (by decide) (by decide)) (fun v60 e_v60 i_v60 => ?_)
                                    refine h_iald (j := v60.toNatClampNeg) (lo := (-2147483648)) (hi := 2147483647) hx hb hK hI g_a55 (by decide) rfl (iv_in (n := 2048) i_v60 (by decide) (by decide)) rfl (iv_any _) dX9_layLet_150 (fun v61 e_v61 i_v61 => ?_)
                                    refine lv_iadd hx hb dX9_layLet_151 ?_
                                    refine h_nm (lo := (-2147483648)) (hi := 2147483647) (iv_any _) (fun v62 e_v62 i_v62 => ?_)
                                    refine lv_istore (lv' := [(6, .int v62), (0, .ref y), (1, .int v7), (2, .int v2_43), (3, .int v3_88), (4, .int r34), (5, .int v5_107)]) hx hb dX9_layLet_152 hl (by decide) rfl (fun ls hl => ?_)
                                    refine lv_iload hx hb dX9_layLet_154 (lv_at hl 0 rfl) ?_
                                    refine lv_aload_n hx hb dX9_layLet_156 rfl (lv_at hl 1 rfl) ?_
                                    refine h_getr hx hb hts iX9_layLet_X9 hown hK hI g_y (by decide) rfl rfl 55 (by decide) rfl 155 rfl (hts (.fieldLink RX9 115 "CatLeasesModel" "letFrom" "[I") (List.mem_of_getElem? (i := 1) rfl)) (fun _ h9 => h9) dX9_layLet_157 (fun a63 e_a63 g_a63 => ?_)
                                    have q64 : a55 = a63 := (e_a55).trans e_a63.symm
                                    subst q64
                                    refine lv_sipush (v := 256) hx hb dX9_layLet_160 (by decide) ?_
                                    refine lv_iload_n hx hb dX9_layLet_163 rfl (lv_at hl 3 rfl) ?_
                                    refine lv_imul hx hb dX9_layLet_164 ?_
                                    refine h_nm (lo := 0) (hi := 1536) (iv_mul kc_256 i21 (by decide) (by decide) (by decide) (by decide) (by decide)) (fun v65 e_v65 i_v65 => ?_)
                                    refine lv_iload hx hb dX9_layLet_165 (lv_at hl 6 rfl) ?_
                                    refine lv_iadd hx hb dX9_layLet_167 ?_
                                    refine h_nm (lo := 0) (hi := 1791) (iv_add i_v65 i42 (by decide) (by decide) (by decide) (by decide)) (fun v66 e_v66 i_v66 => ?_)
                                    refine h_iald (j := v66.toNatClampNeg) (lo := (-2147483648)) (hi := 2147483647) hx hb hK hI g_a55 (by decide) rfl (iv_in (n := 2048) i_v66 (by decide) (by decide)) rfl (iv_any _) dX9_layLet_168 (fun v67 e_v67 i_v67 => ?_)
                                    refine lv_icmp_le (tgt := 187) hx hb dX9_layLet_169 (by decide) (fun c68 => ?_) (fun c68 => ?_)
                                    · exact J187 M_107 H locs ls hI (lv_sub hl [1, 2, 3, 4, 5, 6] rfl) m_CW_107
                                    · have i69 : iv v62 (-2147483647) 2147483647 := iv_nle1 c68 i_v62 i_v67 (by decide)
                                      have i70 : iv v67 (-2147483648) 2147483646 := iv_nle2 c68 i_v62 i_v67 (by decide)
                                      refine lv_aload_n hx hb dX9_layLet_172 rfl (lv_at hl 1 rfl) ?_
                                      refine h_getr hx hb hts iX9_layLet_X9 hown hK hI g_y (by decide) rfl rfl 55 (by decide) rfl 155 rfl (hts (.fieldLink RX9 115 "CatLeasesModel" "letFrom" "[I") (List.mem_of_getElem? (i := 1) rfl)) (fun _ h9 => h9) dX9_layLet_173 (fun a71 e_a71 g_a71 => ?_)
                                      have q72 : a55 = a71 := (e_a55).trans e_a71.symm
                                      subst q72
                                      refine lv_sipush (v := 256) hx hb dX9_layLet_176 (by decide) ?_
                                      refine lv_iload_n hx hb dX9_layLet_179 rfl (lv_at hl 3 rfl) ?_
                                      refine lv_imul hx hb dX9_layLet_180 ?_
                                      refine h_nm (lo := 0) (hi := 1536) (iv_mul kc_256 i21 (by decide) (by decide) (by decide) (by decide) (by decide)) (fun v73 e_v73 i_v73 => ?_)
                                      refine lv_iload hx hb dX9_layLet_181 (lv_at hl 6 rfl) ?_
                                      refine lv_iadd hx hb dX9_layLet_183 ?_
                                      refine h_nm (lo := 0) (hi := 1791) (iv_add i_v73 i42 (by decide) (by decide) (by decide) (by decide)) (fun v74 e_v74 i_v74 => ?_)
                                      refine lv_iload hx hb dX9_layLet_184 (lv_at hl 0 rfl) ?_
                                      refine h_iast (j := v74.toNatClampNeg) hx hb hK hI g_a55 (by decide) rfl (iv_in (n := 2048) i_v74 (by decide) (by decide)) rfl (iv_any _) rfl dX9_layLet_186 (fun M75 H locs e_M75 hI => ?_)
                                      have m76 : CW M75 R y := (CW_ag hI.2.1 g_y m_CW_107 (hAd.put e_M75 g_a55 rfl))
                                      exact J187 M75 H locs ls hI (lv_sub hl [1, 2, 3, 4, 5, 6] rfl) m76
                                  · have i77 : iv r46 1 1 := iv_neL c53 i_r46 (by decide) (by decide)
                                    refine lv_goto (tgt := 187) hx hb dX9_layLet_127 (by decide) ?_
                                    exact J187 M_107 H locs ls hI hl m_CW_107
                          refine lv_istore (lv' := [(5, .int (0 : Int32)), (4, .int r34), (0, .ref y), (1, .int v7), (2, .int v2_43), (3, .int v3_88)]) hx hb dX9_layLet_105 hl (by decide) rfl (fun ls hl => ?_)
                          have m78 : CW M35 R y := (CW_ag hI.2.1 g_y m_CW_88 (hAd.ag z_M35 (by decide)))
                          exact J107 257 M35 (0 : Int32) H locs ls hI (lv_sub hl [2, 3, 4, 5, 1, 0] rfl) m78 (iv_w (lo' := 0) (hi' := 256) kc_0 (by decide) (by decide)) (by have h9 := kc_0; simp only [iv] at h9; omega)
                    refine lv_istore_n (lv' := [(3, .int (0 : Int32)), (0, .ref y), (1, .int v7), (2, .int v2_43)]) hx hb dX9_layLet_87 rfl hl (by decide) rfl (fun ls hl => ?_)
                    exact J88 9 M_49 (0 : Int32) H locs ls hI (lv_sub hl [1, 2, 3, 0] rfl) m_CW_49 (iv_w (lo' := 0) (hi' := 8) kc_0 (by decide) (by decide)) (by have h9 := kc_0; simp only [iv] at h9; omega)
                  · have i79 : iv v3_49 0 255 := iv_nle2 c22 i_v7 i_v3_49 (by decide)
                    refine lv_aload_n hx hb dX9_layLet_54 rfl (lv_at hl 0 rfl) ?_
                    refine h_getr hx hb hts iX9_layLet_X9 hown hK hI g_y (by decide) rfl rfl 55 (by decide) rfl 155 rfl (hts (.fieldLink RX9 115 "CatLeasesModel" "letFrom" "[I") (List.mem_of_getElem? (i := 1) rfl)) (fun _ h9 => h9) dX9_layLet_55 (fun a80 e_a80 g_a80 => ?_)
                    refine lv_sipush (v := 256) hx hb dX9_layLet_58 (by decide) ?_
                    refine lv_iload_n hx hb dX9_layLet_61 rfl (lv_at hl 2 rfl) ?_
                    refine lv_imul hx hb dX9_layLet_62 ?_
                    refine h_nm (lo := 0) (hi := 1536) (iv_mul kc_256 i21 (by decide) (by decide) (by decide) (by decide) (by decide)) (fun v81 e_v81 i_v81 => ?_)
                    refine lv_iload_n hx hb dX9_layLet_63 rfl (lv_at hl 3 rfl) ?_
                    refine lv_iadd hx hb dX9_layLet_64 ?_
                    refine h_nm (lo := 0) (hi := 1791) (iv_add i_v81 i79 (by decide) (by decide) (by decide) (by decide)) (fun v82 e_v82 i_v82 => ?_)
                    refine lv_aload_n hx hb dX9_layLet_65 rfl (lv_at hl 0 rfl) ?_
                    refine h_getr hx hb hts iX9_layLet_X9 hown hK hI g_y (by decide) rfl rfl 55 (by decide) rfl 155 rfl (hts (.fieldLink RX9 115 "CatLeasesModel" "letFrom" "[I") (List.mem_of_getElem? (i := 1) rfl)) (fun _ h9 => h9) dX9_layLet_66 (fun a83 e_a83 g_a83 => ?_)
                    have q84 : a80 = a83 := (e_a80).trans e_a83.symm
                    subst q84
                    refine lv_sipush (v := 256) hx hb dX9_layLet_69 (by decide) ?_
                    refine lv_iload_n hx hb dX9_layLet_72 rfl (lv_at hl 2 rfl) ?_
                    refine lv_iconst (v := 1) hx hb dX9_layLet_73 (by decide) ?_
                    refine lv_iadd hx hb dX9_layLet_74 ?_
                    refine h_nm (lo := 1) (hi := 7) (iv_add i21 kc_1 (by decide) (by decide) (by decide) (by decide)) (fun v85 e_v85 i_v85 => ?_)
                    refine lv_imul hx hb dX9_layLet_75 ?_
                    refine h_nm (lo := 256) (hi := 1792) (iv_mul kc_256 i_v85 (by decide) (by decide) (by decide) (by decide) (by decide)) (fun v86 e_v86 i_v86 => ?_)
                    refine lv_iload_n hx hb dX9_layLet_76 rfl (lv_at hl 3 rfl) ?_
                    refine lv_iadd hx hb dX9_layLet_77 ?_
                    refine h_nm (lo := 256) (hi := 2047) (iv_add i_v86 i79 (by decide) (by decide) (by decide) (by decide)) (fun v87 e_v87 i_v87 => ?_)
                    refine h_iald (j := v87.toNatClampNeg) (lo := (-2147483648)) (hi := 2147483647) hx hb hK hI g_a80 (by decide) rfl (iv_in (n := 2048) i_v87 (by decide) (by decide)) rfl (iv_any _) dX9_layLet_78 (fun v88 e_v88 i_v88 => ?_)
                    refine h_iast (j := v82.toNatClampNeg) hx hb hK hI g_a80 (by decide) rfl (iv_in (n := 2048) i_v82 (by decide) (by decide)) rfl (iv_any _) rfl dX9_layLet_79 (fun M89 H locs e_M89 hI => ?_)
                    obtain ⟨v90, e_v90⟩ : ∃ z : Int32, z = v3_49 + Int32.ofInt 1 := ⟨_, rfl⟩
                    have i_v90 : iv v90 1 256 := by rw [e_v90]; exact iv_add i79 (ki_1) (by decide) (by decide) (by decide) (by decide)
                    refine lv_iinc (v := v90) (lv' := [(3, .int v90), (0, .ref y), (1, .int v7), (2, .int v2_43)]) hx hb dX9_layLet_80 hl (k := 3) rfl e_v90.symm (by decide) rfl (fun ls hl => ?_)
                    refine lv_goto (tgt := 49) hx hb dX9_layLet_83 (by decide) ?_
                    have m91 : CW M89 R y := (CW_ag hI.2.1 g_y m_CW_49 (hAd.put e_M89 g_a80 rfl))
                    exact ih49 M89 v90 H locs ls hI (lv_sub hl [1, 2, 3, 0] rfl) m91 (iv_w (lo' := 0) (hi' := 256) i_v90 (by decide) (by decide)) (by have h9 := (h_inc e_v90 i79 ki_1 (by decide) (by decide)); omega)
              refine lv_istore_n (lv' := [(3, .int (0 : Int32)), (0, .ref y), (1, .int v7), (2, .int v2_43)]) hx hb dX9_layLet_48 rfl hl (by decide) rfl (fun ls hl => ?_)
              exact J49 257 M_43 (0 : Int32) H locs ls hI (lv_sub hl [1, 2, 3, 0] rfl) m_CW_43 (iv_w (lo' := 0) (hi' := 256) kc_0 (by decide) (by decide)) (by have h9 := kc_0; simp only [iv] at h9; omega)
        refine lv_istore_n (lv' := [(2, .int v16), (0, .ref y), (1, .int v7)]) hx hb dX9_layLet_42 rfl hl (by decide) rfl (fun ls hl => ?_)
        exact J43 8 M_9 v16 H locs ls hI (lv_sub hl [1, 2, 0] rfl) m_CW_9 i_v16 (by have h9 := i_v16; simp only [iv] at h9; omega)
      · have i92 : iv v2_9 0 255 := iv_nle2 c8 i_v7 i_v2_9 (by decide)
        refine lv_aload_n hx hb dX9_layLet_14 rfl (lv_at hl 0 rfl) ?_
        refine h_getr hx hb hts iX9_layLet_X9 hown hK hI g_y (by decide) rfl rfl 55 (by decide) rfl 155 rfl (hts (.fieldLink RX9 115 "CatLeasesModel" "letFrom" "[I") (List.mem_of_getElem? (i := 1) rfl)) (fun _ h9 => h9) dX9_layLet_15 (fun a93 e_a93 g_a93 => ?_)
        refine lv_sipush (v := 256) hx hb dX9_layLet_18 (by decide) ?_
        refine lv_aload_n hx hb dX9_layLet_21 rfl (lv_at hl 0 rfl) ?_
        refine h_goi hI (by decide) (va_runV (As := []) (rest := [.int (256 : Int32), .ref a93]) ⟨hx, hb, hml, hown, hts⟩ (h_many_X9 l D g σ Z hZ0 M_9 N R y g_y) (cwV 0 hts gX9_layLet_X9_many rfl rfl rfl (by decide +kernel) ⟨Nat.le_of_ble_eq_true rfl, Nat.le_of_ble_eq_true rfl⟩) (h_preV hZ0 hK hE hI g_y (by decide) rfl) rfl rfl hl.1 rfl (lv_room (Nat.le_of_ble_eq_true rfl)) dX9_layLet_22 ⟨Nat.le_of_ble_eq_true rfl, Nat.le_of_ble_eq_true rfl⟩) (fun r94 M95 N96 R97 H locs q98 z_M95 hI => ?_)
        obtain ⟨rfl, rfl, rfl, i_r94, z99⟩ := q98
        refine lv_imul hx hb dX9_layLet_25 ?_
        refine h_nm (lo := 0) (hi := 1792) (iv_mul kc_256 i_r94 (by decide) (by decide) (by decide) (by decide) (by decide)) (fun v100 e_v100 i_v100 => ?_)
        refine lv_iload_n hx hb dX9_layLet_26 rfl (lv_at hl 2 rfl) ?_
        refine lv_iadd hx hb dX9_layLet_27 ?_
        refine h_nm (lo := 0) (hi := 2047) (iv_add i_v100 i92 (by decide) (by decide) (by decide) (by decide)) (fun v101 e_v101 i_v101 => ?_)
        refine lv_iconst (v := 0) hx hb dX9_layLet_28 (by decide) ?_
        refine h_iast (j := v101.toNatClampNeg) hx hb hK hI g_a93 (by decide) rfl (iv_in (n := 2048) i_v101 (by decide) (by decide)) rfl (iv_any _) rfl dX9_layLet_29 (fun M102 H locs e_M102 hI => ?_)
        obtain ⟨v103, e_v103⟩ : ∃ z : Int32, z = v2_9 + Int32.ofInt 1 := ⟨_, rfl⟩
        have i_v103 : iv v103 1 256 := by rw [e_v103]; exact iv_add i92 (ki_1) (by decide) (by decide) (by decide) (by decide)
        refine lv_iinc (v := v103) (lv' := [(2, .int v103), (0, .ref y), (1, .int v7)]) hx hb dX9_layLet_30 hl (k := 2) rfl e_v103.symm (by decide) rfl (fun ls hl => ?_)
        refine lv_goto (tgt := 9) hx hb dX9_layLet_33 (by decide) ?_
        have m104 : CW M102 R y := (CW_ag hI.2.1 g_y m_CW_9 (hAd.put e_M102 g_a93 rfl))
        exact ih9 M102 v103 H locs ls hI (lv_sub hl [1, 2, 0] rfl) m104 (iv_w (lo' := 0) (hi' := 256) i_v103 (by decide) (by decide)) (by have h9 := (h_inc e_v103 i92 ki_1 (by decide) (by decide)); omega)
  refine lv_istore_n (lv' := [(2, .int (0 : Int32)), (1, .int v7), (0, .ref y)]) hx hb dX9_layLet_8 rfl hl (by decide) rfl (fun ls hl => ?_)
  exact J9 257 M (0 : Int32) H locs ls hI (lv_sub hl [2, 1, 0] rfl) m0_CW (iv_w (lo' := 0) (hi' := 256) kc_0 (by decide) (by decide)) (by have h9 := kc_0; simp only [iv] at h9; omega)
abbrev e_h_letting_X9 : List (Nat × Nat) := [(9, 41), (9, 42), (9, 43), (9, 44), (9, 54), (134, 999), (153, 999), (155, 999)]
set_option maxHeartbeats 4000000 in
set_option maxRecDepth 100000 in
theorem h_letting_X9 (l : Launch) (D : va_G) (g : Nat → ClassId) (σ : Nat → Option Nat) (Z : State → Heap → Prop) (hZ0 : hZ σ Z) (M : hM) (N : hN) (R : hR) (y : Nat) (g_y : σ y = some 9) (m0_CW : CW M R y) : Met l yX9_letting wsX9_letting ({ frames := 6, cells := 0, slots := 0, locals := 140 }) (va_Pc [.ref y] (hPre D g σ Z M N R)) (hQi D g σ e_h_letting_X9 M (fun (r : Int32) (M1 : hM) (N1 : hN) (R1 : hR) => N = N1 ∧ R = R1)) 0 0 (hA σ) := by
  refine h_head (cc := cX9_letting) (maxL := 5) (ret := (some .int)) (by decide) rfl (Nat.le_of_ble_eq_true rfl) e_h_letting_X9 ?_
  intro p e s m below meth c ls Q ar hQ hx hb hr hlocks hml hown hts hK hE H locs hI hl
  have hown : s.vm.findClass RX9 = some m.cls := hown
  have hl : lv_has ls 5 [(0, .ref y)] := hl
  refine lv_aload_n hx hb dX9_letting_0 rfl (lv_at hl 0 rfl) ?_
  refine h_goi hI (by decide) (va_runV (As := []) (rest := []) ⟨hx, hb, hml, hown, hts⟩ (h_layLet_X9 l D g σ Z hZ0 M N R y g_y m0_CW) (cwV 0 hts gX9_letting_X9_layLet rfl rfl rfl (by decide +kernel) ⟨Nat.le_of_ble_eq_true rfl, Nat.le_of_ble_eq_true rfl⟩) (h_preV hZ0 hK hE hI g_y (by decide) rfl) rfl rfl hl.1 rfl (lv_room (Nat.le_of_ble_eq_true rfl)) dX9_letting_1 ⟨Nat.le_of_ble_eq_true rfl, Nat.le_of_ble_eq_true rfl⟩) (fun r1 M2 N3 R4 H locs q5 z_M2 hI => ?_)
  obtain ⟨rfl, rfl⟩ := q5
  refine lv_istore_n (lv' := [(1, .int r1), (0, .ref y)]) hx hb dX9_letting_4 rfl hl (by decide) rfl (fun ls hl => ?_)
  refine lv_iconst (v := 0) hx hb dX9_letting_5 (by decide) ?_
  refine lv_istore_n (lv' := [(2, .int (0 : Int32)), (1, .int r1), (0, .ref y)]) hx hb dX9_letting_6 rfl hl (by decide) rfl (fun ls hl => ?_)
  refine lv_iconst (v := 0) hx hb dX9_letting_7 (by decide) ?_
  have J9 : ∀ (n : Nat) (M_9 : hM) (v2_9 : Int32) (v3_9 : Int32) (H : Heap) (locs : List Loc) (ls : Array Slot), kI D g σ e_h_letting_X9 M s.heap M_9 N R H locs → lv_has ls 5 [(0, .ref y), (1, .int r1), (2, .int v2_9), (3, .int v3_9)] → CW M_9 R y → iv v2_9 0 255 → iv v3_9 0 7 → 8 ≤ v3_9.toInt + (n : Int) → W p l e (headSpec wsX9_letting ({ frames := 6, cells := 0, slots := 0, locals := 140 })).room s m ar below meth c H locs 0 0 Q (F0 m 9 ls []) := by
    intro n
    induction n with
    | zero => intro M_9 v2_9 v3_9 H locs ls hI hl m_CW_9 i_v2_9 i_v3_9 hn; exfalso; have hz := i_v3_9; simp only [iv] at hz; omega
    | succ n ih9 =>
      intro M_9 v2_9 v3_9 H locs ls hI hl m_CW_9 i_v2_9 i_v3_9 hn9
      refine lv_iload_n hx hb dX9_letting_9 rfl (lv_at hl 3 rfl) ?_
      refine lv_aload_n hx hb dX9_letting_10 rfl (lv_at hl 0 rfl) ?_
      refine h_goi hI (by decide) (va_runV (As := []) (rest := [.int v3_9]) ⟨hx, hb, hml, hown, hts⟩ (h_many_X9 l D g σ Z hZ0 M_9 N R y g_y) (cwV 0 hts gX9_letting_X9_many rfl rfl rfl (by decide +kernel) ⟨Nat.le_of_ble_eq_true rfl, Nat.le_of_ble_eq_true rfl⟩) (h_preV hZ0 hK hE hI g_y (by decide) rfl) rfl rfl hl.1 rfl (lv_room (Nat.le_of_ble_eq_true rfl)) dX9_letting_11 ⟨Nat.le_of_ble_eq_true rfl, Nat.le_of_ble_eq_true rfl⟩) (fun r6 M7 N8 R9 H locs q10 z_M7 hI => ?_)
      obtain ⟨rfl, rfl, rfl, i_r6, z11⟩ := q10
      refine lv_icmp_ge (tgt := 139) hx hb dX9_letting_14 (by decide) (fun c12 => ?_) (fun c12 => ?_)
      · refine lv_aload_n hx hb dX9_letting_139 rfl (lv_at hl 0 rfl) ?_
        refine lv_aload_n hx hb dX9_letting_140 rfl (lv_at hl 0 rfl) ?_
        refine h_goi hI (by decide) (va_runV (As := []) (rest := [.ref y]) ⟨hx, hb, hml, hown, hts⟩ (h_many_X9 l D g σ Z hZ0 M_9 N R y g_y) (cwV 0 hts gX9_letting_X9_many rfl rfl rfl (by decide +kernel) ⟨Nat.le_of_ble_eq_true rfl, Nat.le_of_ble_eq_true rfl⟩) (h_preV hZ0 hK hE hI g_y (by decide) rfl) rfl rfl hl.1 rfl (lv_room (Nat.le_of_ble_eq_true rfl)) dX9_letting_141 ⟨Nat.le_of_ble_eq_true rfl, Nat.le_of_ble_eq_true rfl⟩) (fun r13 M14 N15 R16 H locs q17 z_M14 hI => ?_)
        obtain ⟨rfl, rfl, rfl, i_r13, z18⟩ := q17
        refine h_puti hx hb hts iX9_letting_X9 tyX9 tyX9_ok nmX9 hown hK hI g_y (by decide) rfl rfl 54 (by decide) rfl (hts (.fieldLink RX9 407 "CatLeasesModel" "laid" "I") (List.mem_of_getElem? (i := 3) rfl)) (fun _ h9 => h9) rfl .int (by decide +kernel) rfl rfl i_r13 rfl dX9_letting_144 (fun M19 H locs e_M19 hI => ?_)
        refine lv_iload_n hx hb dX9_letting_147 rfl (lv_at hl 1 rfl) ?_
        refine lv_ldcw (v := 100000) hx hb hown (hts (.constant RX9 512 (100000)) (List.mem_of_getElem? (i := 4) rfl)) dX9_letting_148 ?_
        refine lv_idiv hx hb dX9_letting_151 (by decide) ?_
        refine h_nm (lo := (-2147483648)) (hi := 2147483647) (iv_any _) (fun v20 e_v20 i_v20 => ?_)
        exact h_iret hQ hx hb hr hlocks rfl hK hI ⟨rfl, rfl⟩ dX9_letting_152
      · have i21 : iv r6 1 7 := iv_nle1 c12 i_r6 i_v3_9 (by decide)
        have i22 : iv v3_9 0 6 := iv_nle2 c12 i_r6 i_v3_9 (by decide)
        refine lv_iconst (v := 0) hx hb dX9_letting_17 (by decide) ?_
        have J20 : ∀ (n : Nat) (M_20 : hM) (v4_20 : Int32) (H : Heap) (locs : List Loc) (ls : Array Slot), kI D g σ e_h_letting_X9 M s.heap M_20 N R H locs → lv_has ls 5 [(0, .ref y), (1, .int r1), (2, .int v2_9), (3, .int v3_9), (4, .int v4_20)] → CW M_20 R y → iv v4_20 0 8 → 9 ≤ v4_20.toInt + (n : Int) → W p l e (headSpec wsX9_letting ({ frames := 6, cells := 0, slots := 0, locals := 140 })).room s m ar below meth c H locs 0 0 Q (F0 m 20 ls []) := by
          intro n
          induction n with
          | zero => intro M_20 v4_20 H locs ls hI hl m_CW_20 i_v4_20 hn; exfalso; have hz := i_v4_20; simp only [iv] at hz; omega
          | succ n ih20 =>
            intro M_20 v4_20 H locs ls hI hl m_CW_20 i_v4_20 hn20
            refine lv_iload hx hb dX9_letting_20 (lv_at hl 4 rfl) ?_
            refine lv_aload_n hx hb dX9_letting_22 rfl (lv_at hl 0 rfl) ?_
            refine h_goi hI (by decide) (va_runV (As := []) (rest := [.int v4_20]) ⟨hx, hb, hml, hown, hts⟩ (h_chambers_X9 l D g σ Z hZ0 M_20 N R y g_y) (cwV 0 hts gX9_letting_X9_chambers rfl rfl rfl (by decide +kernel) ⟨Nat.le_of_ble_eq_true rfl, Nat.le_of_ble_eq_true rfl⟩) (h_preV hZ0 hK hE hI g_y (by decide) rfl) rfl rfl hl.1 rfl (lv_room (Nat.le_of_ble_eq_true rfl)) dX9_letting_23 ⟨Nat.le_of_ble_eq_true rfl, Nat.le_of_ble_eq_true rfl⟩) (fun r23 M24 N25 R26 H locs q27 z_M24 hI => ?_)
            obtain ⟨rfl, rfl, rfl, i_r23, z28⟩ := q27
            have J96 : ∀ (M_96 : hM) (H : Heap) (locs : List Loc) (ls : Array Slot), kI D g σ e_h_letting_X9 M s.heap M_96 N R H locs → lv_has ls 5 [(0, .ref y), (1, .int r1), (2, .int v2_9), (3, .int v3_9), (4, .int v4_20)] → CW M_96 R y → W p l e (headSpec wsX9_letting ({ frames := 6, cells := 0, slots := 0, locals := 140 })).room s m ar below meth c H locs 0 0 Q (F0 m 96 ls []) := by
              intro M_96 H locs ls hI hl m_CW_96
              refine lv_aload_n hx hb dX9_letting_96 rfl (lv_at hl 0 rfl) ?_
              refine h_getr hx hb hts iX9_letting_X9 hown hK hI g_y (by decide) rfl rfl 53 (by decide) rfl 153 rfl (hts (.fieldLink RX9 112 "CatLeasesModel" "laidRow" "[I") (List.mem_of_getElem? (i := 2) rfl)) (fun _ h9 => h9) dX9_letting_97 (fun a29 e_a29 g_a29 => ?_)
              refine lv_iload_n hx hb dX9_letting_100 rfl (lv_at hl 3 rfl) ?_
              refine lv_iload hx hb dX9_letting_101 (lv_at hl 4 rfl) ?_
              refine lv_aload_n hx hb dX9_letting_103 rfl (lv_at hl 0 rfl) ?_
              refine h_goi hI (by decide) (va_runV (As := []) (rest := [.int v4_20, .int v3_9, .ref a29]) ⟨hx, hb, hml, hown, hts⟩ (h_chambers_X9 l D g σ Z hZ0 M_96 N R y g_y) (cwV 0 hts gX9_letting_X9_chambers rfl rfl rfl (by decide +kernel) ⟨Nat.le_of_ble_eq_true rfl, Nat.le_of_ble_eq_true rfl⟩) (h_preV hZ0 hK hE hI g_y (by decide) rfl) rfl rfl hl.1 rfl (lv_room (Nat.le_of_ble_eq_true rfl)) dX9_letting_104 ⟨Nat.le_of_ble_eq_true rfl, Nat.le_of_ble_eq_true rfl⟩) (fun r30 M31 N32 R33 H locs q34 z_M31 hI => ?_)
              obtain ⟨rfl, rfl, rfl, i_r30, z35⟩ := q34
              have J116 : ∀ (t2_116 : Int32) (H : Heap) (locs : List Loc) (ls : Array Slot), kI D g σ e_h_letting_X9 M s.heap M_96 N R H locs → lv_has ls 5 [(0, .ref y), (1, .int r1), (2, .int v2_9), (3, .int v3_9), (4, .int v4_20)] → iv t2_116 (-1) 7 → W p l e (headSpec wsX9_letting ({ frames := 6, cells := 0, slots := 0, locals := 140 })).room s m ar below meth c H locs 0 0 Q (F0 m 116 ls [.int t2_116, .int v3_9, .ref a29]) := by
                intro t2_116 H locs ls hI hl i_t2_116
                refine h_iast (j := v3_9.toNatClampNeg) hx hb hK hI g_a29 (by decide) rfl (iv_in (n := 7) i22 (by decide) (by decide)) rfl (iv_any _) rfl dX9_letting_116 (fun M36 H locs e_M36 hI => ?_)
                refine lv_iload hx hb dX9_letting_117 (lv_at hl 4 rfl) ?_
                refine lv_aload_n hx hb dX9_letting_119 rfl (lv_at hl 0 rfl) ?_
                refine h_goi hI (by decide) (va_runV (As := []) (rest := [.int v4_20]) ⟨hx, hb, hml, hown, hts⟩ (h_chambers_X9 l D g σ Z hZ0 M36 N R y g_y) (cwV 0 hts gX9_letting_X9_chambers rfl rfl rfl (by decide +kernel) ⟨Nat.le_of_ble_eq_true rfl, Nat.le_of_ble_eq_true rfl⟩) (h_preV hZ0 hK hE hI g_y (by decide) rfl) rfl rfl hl.1 rfl (lv_room (Nat.le_of_ble_eq_true rfl)) dX9_letting_120 ⟨Nat.le_of_ble_eq_true rfl, Nat.le_of_ble_eq_true rfl⟩) (fun r37 M38 N39 R40 H locs q41 z_M38 hI => ?_)
                obtain ⟨rfl, rfl, rfl, i_r37, z42⟩ := q41
                have J133 : ∀ (v2_133 : Int32) (H : Heap) (locs : List Loc) (ls : Array Slot), kI D g σ e_h_letting_X9 M s.heap M36 N R H locs → lv_has ls 5 [(0, .ref y), (1, .int r1), (2, .int v2_133), (3, .int v3_9)] → iv v2_133 0 255 → W p l e (headSpec wsX9_letting ({ frames := 6, cells := 0, slots := 0, locals := 140 })).room s m ar below meth c H locs 0 0 Q (F0 m 133 ls []) := by
                  intro v2_133 H locs ls hI hl i_v2_133
                  obtain ⟨v43, e_v43⟩ : ∃ z : Int32, z = v3_9 + Int32.ofInt 1 := ⟨_, rfl⟩
                  have i_v43 : iv v43 1 7 := by rw [e_v43]; exact iv_add i22 (ki_1) (by decide) (by decide) (by decide) (by decide)
                  refine lv_iinc (v := v43) (lv' := [(3, .int v43), (0, .ref y), (1, .int r1), (2, .int v2_133)]) hx hb dX9_letting_133 hl (k := 3) rfl e_v43.symm (by decide) rfl (fun ls hl => ?_)
                  refine lv_goto (tgt := 9) hx hb dX9_letting_136 (by decide) ?_
                  have m44 : CW M36 R y := (CW_ag hI.2.1 g_y m_CW_96 (hAd.put e_M36 g_a29 rfl))
                  exact ih9 M36 v2_133 v43 H locs ls hI (lv_sub hl [1, 2, 3, 0] rfl) m44 i_v2_133 (iv_w (lo' := 0) (hi' := 7) i_v43 (by decide) (by decide)) (by have h9 := (h_inc e_v43 i22 ki_1 (by decide) (by decide)); omega)
                refine lv_icmp_ge (tgt := 133) hx hb dX9_letting_123 (by decide) (fun c45 => ?_) (fun c45 => ?_)
                · exact J133 v2_9 H locs ls hI (lv_sub hl [0, 1, 2, 3] rfl) i_v2_9
                · have i46 : iv r37 1 8 := iv_nle1 c45 i_r37 i_v4_20 (by decide)
                  have i47 : iv v4_20 0 7 := iv_nle2 c45 i_r37 i_v4_20 (by decide)
                  refine lv_iload_n hx hb dX9_letting_126 rfl (lv_at hl 2 rfl) ?_
                  refine lv_iconst (v := 1) hx hb dX9_letting_127 (by decide) ?_
                  refine lv_iload hx hb dX9_letting_128 (lv_at hl 4 rfl) ?_
                  refine lv_ishl hx hb dX9_letting_130 ?_
                  refine h_nm (lo := 1) (hi := 128) (iv_shl1 7 i47 (by decide) (by decide) (by decide) (by decide) (by decide)) (fun v48 e_v48 i_v48 => ?_)
                  refine lv_ior hx hb dX9_letting_131 ?_
                  refine h_nm (lo := 0) (hi := 255) (iv_or 8 i_v2_9 i_v48 (by decide) (by decide) (by decide) (by decide) (by decide) (by decide)) (fun v49 e_v49 i_v49 => ?_)
                  refine lv_istore_n (lv' := [(2, .int v49), (0, .ref y), (1, .int r1), (3, .int v3_9), (4, .int v4_20)]) hx hb dX9_letting_132 rfl hl (by decide) rfl (fun ls hl => ?_)
                  exact J133 v49 H locs ls hI (lv_sub hl [1, 2, 0, 3] rfl) i_v49
              refine lv_icmp_ge (tgt := 115) hx hb dX9_letting_107 (by decide) (fun c50 => ?_) (fun c50 => ?_)
              · refine lv_iconst (v := (-1)) hx hb dX9_letting_115 (by decide) ?_
                exact J116 (-1 : Int32) H locs ls hI hl (iv_w (lo' := (-1)) (hi' := 7) kc_m1 (by decide) (by decide))
              · have i51 : iv r30 1 8 := iv_nle1 c50 i_r30 i_v4_20 (by decide)
                have i52 : iv v4_20 0 7 := iv_nle2 c50 i_r30 i_v4_20 (by decide)
                refine lv_iload hx hb dX9_letting_110 (lv_at hl 4 rfl) ?_
                refine lv_goto (tgt := 116) hx hb dX9_letting_112 (by decide) ?_
                exact J116 v4_20 H locs ls hI hl (iv_w (lo' := (-1)) (hi' := 7) i52 (by decide) (by decide))
            refine lv_icmp_ge (tgt := 96) hx hb dX9_letting_26 (by decide) (fun c53 => ?_) (fun c53 => ?_)
            · exact J96 M_20 H locs ls hI hl m_CW_20
            · have i54 : iv r23 1 8 := iv_nle1 c53 i_r23 i_v4_20 (by decide)
              have i55 : iv v4_20 0 7 := iv_nle2 c53 i_r23 i_v4_20 (by decide)
              refine lv_iload_n hx hb dX9_letting_29 rfl (lv_at hl 2 rfl) ?_
              refine lv_iload hx hb dX9_letting_30 (lv_at hl 4 rfl) ?_
              refine h_goi hI (by decide) (va_runS (As := [.int v2_9, .int v4_20]) (rest := []) ⟨hx, hb, hml, hown, hts⟩ (h_bit_X9 l D g σ Z hZ0 M_20 N R v2_9 v4_20) (va_cwS 2 hts gX9_letting_X9_bit rfl rfl rfl (by decide +kernel) ⟨Nat.le_of_ble_eq_true rfl, Nat.le_of_ble_eq_true rfl⟩) (h_preS hZ0 hK hE hI) rfl rfl hl.1 rfl (lv_room (Nat.le_of_ble_eq_true rfl)) dX9_letting_32 ⟨Nat.le_of_ble_eq_true rfl, Nat.le_of_ble_eq_true rfl⟩) (fun r56 M57 N58 R59 H locs q60 z_M57 hI => ?_)
              obtain ⟨rfl, rfl, rfl, i_r56, z61⟩ := q60
              have J90 : ∀ (M_90 : hM) (H : Heap) (locs : List Loc) (ls : Array Slot), kI D g σ e_h_letting_X9 M s.heap M_90 N R H locs → lv_has ls 5 [(0, .ref y), (1, .int r1), (2, .int v2_9), (3, .int v3_9), (4, .int v4_20)] → CW M_90 R y → W p l e (headSpec wsX9_letting ({ frames := 6, cells := 0, slots := 0, locals := 140 })).room s m ar below meth c H locs 0 0 Q (F0 m 90 ls []) := by
                intro M_90 H locs ls hI hl m_CW_90
                obtain ⟨v62, e_v62⟩ : ∃ z : Int32, z = v4_20 + Int32.ofInt 1 := ⟨_, rfl⟩
                have i_v62 : iv v62 1 8 := by rw [e_v62]; exact iv_add i55 (ki_1) (by decide) (by decide) (by decide) (by decide)
                refine lv_iinc (v := v62) (lv' := [(4, .int v62), (0, .ref y), (1, .int r1), (2, .int v2_9), (3, .int v3_9)]) hx hb dX9_letting_90 hl (k := 4) rfl e_v62.symm (by decide) rfl (fun ls hl => ?_)
                refine lv_goto (tgt := 20) hx hb dX9_letting_93 (by decide) ?_
                exact ih20 M_90 v62 H locs ls hI (lv_sub hl [1, 2, 3, 4, 0] rfl) m_CW_90 (iv_w (lo' := 0) (hi' := 8) i_v62 (by decide) (by decide)) (by have h9 := (h_inc e_v62 i55 ki_1 (by decide) (by decide)); omega)
              refine lv_if_ne (tgt := 90) hx hb dX9_letting_35 (by decide) (fun c63 => ?_) (fun c63 => ?_)
              · have i64 : iv r56 1 1 := iv_neL c63 i_r56 (by decide) (by decide)
                exact J90 M_20 H locs ls hI hl m_CW_20
              · have i65 : iv r56 0 0 := iv_eq1 c63 i_r56 kc_0
                refine lv_aload_n hx hb dX9_letting_38 rfl (lv_at hl 0 rfl) ?_
                refine lv_iload_n hx hb dX9_letting_39 rfl (lv_at hl 3 rfl) ?_
                refine lv_iload hx hb dX9_letting_40 (lv_at hl 4 rfl) ?_
                refine h_goi hI (by decide) (va_runV (As := [.int v3_9, .int v4_20]) (rest := []) ⟨hx, hb, hml, hown, hts⟩ (h_letIn_X9 l D g σ Z hZ0 M_20 N R y g_y v3_9 i22 v4_20 i55 m_CW_20) (cwV 2 hts gX9_letting_X9_letIn rfl rfl rfl (by decide +kernel) ⟨Nat.le_of_ble_eq_true rfl, Nat.le_of_ble_eq_true rfl⟩) (h_preV hZ0 hK hE hI g_y (by decide) rfl) rfl rfl hl.1 rfl (lv_room (Nat.le_of_ble_eq_true rfl)) dX9_letting_42 ⟨Nat.le_of_ble_eq_true rfl, Nat.le_of_ble_eq_true rfl⟩) (fun r66 M67 N68 R69 H locs q70 z_M67 hI => ?_)
                obtain ⟨rfl, rfl, i_r66⟩ := q70
                refine lv_if_lt (tgt := 90) hx hb dX9_letting_45 (by decide) (fun c71 => ?_) (fun c71 => ?_)
                · have i72 : iv r66 (-1) (-1) := iv_lt1 c71 i_r66 kc_0 (by decide)
                  have m73 : CW M67 R y := (CW_ag hI.2.1 g_y m_CW_20 (hAd.ag z_M67 (by decide)))
                  exact J90 M67 H locs ls hI hl m73
                · have i74 : iv r66 0 109999 := iv_nlt1 c71 i_r66 kc_0 (by decide)
                  refine lv_aload_n hx hb dX9_letting_48 rfl (lv_at hl 0 rfl) ?_
                  refine lv_iload_n hx hb dX9_letting_49 rfl (lv_at hl 3 rfl) ?_
                  refine lv_iload hx hb dX9_letting_50 (lv_at hl 4 rfl) ?_
                  have m75 : CW M67 R y := (CW_ag hI.2.1 g_y m_CW_20 (hAd.ag z_M67 (by decide)))
                  refine h_goi hI (by decide) (va_runV (As := [.int v3_9, .int v4_20]) (rest := []) ⟨hx, hb, hml, hown, hts⟩ (h_letIn_X9 l D g σ Z hZ0 M67 N R y g_y v3_9 i22 v4_20 i55 m75) (cwV 2 hts gX9_letting_X9_letIn rfl rfl rfl (by decide +kernel) ⟨Nat.le_of_ble_eq_true rfl, Nat.le_of_ble_eq_true rfl⟩) (h_preV hZ0 hK hE hI g_y (by decide) rfl) rfl rfl hl.1 rfl (lv_room (Nat.le_of_ble_eq_true rfl)) dX9_letting_52 ⟨Nat.le_of_ble_eq_true rfl, Nat.le_of_ble_eq_true rfl⟩) (fun r76 M77 N78 R79 H locs q80 z_M77 hI => ?_)
                  obtain ⟨rfl, rfl, i_r76⟩ := q80
                  refine lv_aload_n hx hb dX9_letting_55 rfl (lv_at hl 0 rfl) ?_
                  refine h_getr hx hb hts iX9_letting_X9 hown hK hI g_y (by decide) rfl rfl 55 (by decide) rfl 155 rfl (hts (.fieldLink RX9 115 "CatLeasesModel" "letFrom" "[I") (List.mem_of_getElem? (i := 1) rfl)) (fun _ h9 => h9) dX9_letting_56 (fun a81 e_a81 g_a81 => ?_)
                  refine lv_sipush (v := 256) hx hb dX9_letting_59 (by decide) ?_
                  refine lv_iload_n hx hb dX9_letting_62 rfl (lv_at hl 3 rfl) ?_
                  refine lv_iconst (v := 1) hx hb dX9_letting_63 (by decide) ?_
                  refine lv_iadd hx hb dX9_letting_64 ?_
                  refine h_nm (lo := 1) (hi := 7) (iv_add i22 kc_1 (by decide) (by decide) (by decide) (by decide)) (fun v82 e_v82 i_v82 => ?_)
                  refine lv_imul hx hb dX9_letting_65 ?_
                  refine h_nm (lo := 256) (hi := 1792) (iv_mul kc_256 i_v82 (by decide) (by decide) (by decide) (by decide) (by decide)) (fun v83 e_v83 i_v83 => ?_)
                  refine lv_iload_n hx hb dX9_letting_66 rfl (lv_at hl 2 rfl) ?_
                  refine lv_iconst (v := 1) hx hb dX9_letting_67 (by decide) ?_
                  refine lv_iload hx hb dX9_letting_68 (lv_at hl 4 rfl) ?_
                  refine lv_ishl hx hb dX9_letting_70 ?_
                  refine h_nm (lo := 1) (hi := 128) (iv_shl1 7 i55 (by decide) (by decide) (by decide) (by decide) (by decide)) (fun v84 e_v84 i_v84 => ?_)
                  refine lv_ior hx hb dX9_letting_71 ?_
                  refine h_nm (lo := 0) (hi := 255) (iv_or 8 i_v2_9 i_v84 (by decide) (by decide) (by decide) (by decide) (by decide) (by decide)) (fun v85 e_v85 i_v85 => ?_)
                  refine lv_iadd hx hb dX9_letting_72 ?_
                  refine h_nm (lo := 256) (hi := 2047) (iv_add i_v83 i_v85 (by decide) (by decide) (by decide) (by decide)) (fun v86 e_v86 i_v86 => ?_)
                  refine h_iald (j := v86.toNatClampNeg) (lo := (-2147483648)) (hi := 2147483647) hx hb hK hI g_a81 (by decide) rfl (iv_in (n := 2048) i_v86 (by decide) (by decide)) rfl (iv_any _) dX9_letting_73 (fun v87 e_v87 i_v87 => ?_)
                  refine lv_iadd hx hb dX9_letting_74 ?_
                  refine h_nm (lo := (-2147483648)) (hi := 2147483647) (iv_any _) (fun v88 e_v88 i_v88 => ?_)
                  refine lv_aload_n hx hb dX9_letting_75 rfl (lv_at hl 0 rfl) ?_
                  refine h_getr hx hb hts iX9_letting_X9 hown hK hI g_y (by decide) rfl rfl 55 (by decide) rfl 155 rfl (hts (.fieldLink RX9 115 "CatLeasesModel" "letFrom" "[I") (List.mem_of_getElem? (i := 1) rfl)) (fun _ h9 => h9) dX9_letting_76 (fun a89 e_a89 g_a89 => ?_)
                  have q90 : a81 = a89 := (e_a81).trans e_a89.symm
                  subst q90
                  refine lv_sipush (v := 256) hx hb dX9_letting_79 (by decide) ?_
                  refine lv_iload_n hx hb dX9_letting_82 rfl (lv_at hl 3 rfl) ?_
                  refine lv_imul hx hb dX9_letting_83 ?_
                  refine h_nm (lo := 0) (hi := 1536) (iv_mul kc_256 i22 (by decide) (by decide) (by decide) (by decide) (by decide)) (fun v91 e_v91 i_v91 => ?_)
                  refine lv_iload_n hx hb dX9_letting_84 rfl (lv_at hl 2 rfl) ?_
                  refine lv_iadd hx hb dX9_letting_85 ?_
                  refine h_nm (lo := 0) (hi := 1791) (iv_add i_v91 i_v2_9 (by decide) (by decide) (by decide) (by decide)) (fun v92 e_v92 i_v92 => ?_)
                  refine h_iald (j := v92.toNatClampNeg) (lo := (-2147483648)) (hi := 2147483647) hx hb hK hI g_a81 (by decide) rfl (iv_in (n := 2048) i_v92 (by decide) (by decide)) rfl (iv_any _) dX9_letting_86 (fun v93 e_v93 i_v93 => ?_)
                  refine lv_icmp_ge (tgt := 96) hx hb dX9_letting_87 (by decide) (fun c94 => ?_) (fun c94 => ?_)
                  · have m95 : CW M77 R y := (CW_ag hI.2.1 g_y m75 (hAd.ag z_M77 (by decide)))
                    exact J96 M77 H locs ls hI hl m95
                  · have i96 : iv v93 (-2147483647) 2147483647 := iv_nle1 c94 i_v93 i_v88 (by decide)
                    have i97 : iv v88 (-2147483648) 2147483646 := iv_nle2 c94 i_v93 i_v88 (by decide)
                    have m98 : CW M77 R y := (CW_ag hI.2.1 g_y m75 (hAd.ag z_M77 (by decide)))
                    exact J90 M77 H locs ls hI hl m98
        refine lv_istore (lv' := [(4, .int (0 : Int32)), (0, .ref y), (1, .int r1), (2, .int v2_9), (3, .int v3_9)]) hx hb dX9_letting_18 hl (by decide) rfl (fun ls hl => ?_)
        exact J20 9 M_9 (0 : Int32) H locs ls hI (lv_sub hl [1, 2, 3, 4, 0] rfl) m_CW_9 (iv_w (lo' := 0) (hi' := 8) kc_0 (by decide) (by decide)) (by have h9 := kc_0; simp only [iv] at h9; omega)
  refine lv_istore_n (lv' := [(3, .int (0 : Int32)), (2, .int (0 : Int32)), (1, .int r1), (0, .ref y)]) hx hb dX9_letting_8 rfl hl (by decide) rfl (fun ls hl => ?_)
  have m99 : CW M2 R y := (CW_ag hI.2.1 g_y m0_CW (hAd.ag z_M2 (by decide)))
  exact J9 8 M2 (0 : Int32) (0 : Int32) H locs ls hI (lv_sub hl [3, 2, 1, 0] rfl) m99 (iv_w (lo' := 0) (hi' := 255) kc_0 (by decide) (by decide)) (iv_w (lo' := 0) (hi' := 7) kc_0 (by decide) (by decide)) (by have h9 := kc_0; simp only [iv] at h9; omega)
abbrev e_h_pleasure_X9 : List (Nat × Nat) := [(9, 41), (9, 42), (9, 43), (9, 44), (134, 999), (155, 999)]
set_option maxHeartbeats 4000000 in
set_option maxRecDepth 100000 in
theorem h_pleasure_X9 (l : Launch) (D : va_G) (g : Nat → ClassId) (σ : Nat → Option Nat) (Z : State → Heap → Prop) (hZ0 : hZ σ Z) (M : hM) (N : hN) (R : hR) (y : Nat) (g_y : σ y = some 9) (m0_CW : CW M R y) : Met l yX9_pleasure wsX9_pleasure ({ frames := 6, cells := 0, slots := 0, locals := 140 }) (va_Pc [.ref y] (hPre D g σ Z M N R)) (hQi D g σ e_h_pleasure_X9 M (fun (r : Int32) (M1 : hM) (N1 : hN) (R1 : hR) => N = N1 ∧ R = R1)) 0 0 (hA σ) := by
  refine h_head (cc := cX9_pleasure) (maxL := 1) (ret := (some .int)) (by decide) rfl (Nat.le_of_ble_eq_true rfl) e_h_pleasure_X9 ?_
  intro p e s m below meth c ls Q ar hQ hx hb hr hlocks hml hown hts hK hE H locs hI hl
  have hown : s.vm.findClass RX9 = some m.cls := hown
  have hl : lv_has ls 1 [(0, .ref y)] := hl
  refine lv_aload_n hx hb dX9_pleasure_0 rfl (lv_at hl 0 rfl) ?_
  refine h_goi hI (by decide) (va_runV (As := []) (rest := []) ⟨hx, hb, hml, hown, hts⟩ (h_layLet_X9 l D g σ Z hZ0 M N R y g_y m0_CW) (cwV 0 hts gX9_pleasure_X9_layLet rfl rfl rfl (by decide +kernel) ⟨Nat.le_of_ble_eq_true rfl, Nat.le_of_ble_eq_true rfl⟩) (h_preV hZ0 hK hE hI g_y (by decide) rfl) rfl rfl hl.1 rfl (lv_room (Nat.le_of_ble_eq_true rfl)) dX9_pleasure_1 ⟨Nat.le_of_ble_eq_true rfl, Nat.le_of_ble_eq_true rfl⟩) (fun r1 M2 N3 R4 H locs q5 z_M2 hI => ?_)
  obtain ⟨rfl, rfl⟩ := q5
  refine lv_ldcw (v := 100000) hx hb hown (hts (.constant RX9 512 (100000)) (List.mem_of_getElem? (i := 1) rfl)) dX9_pleasure_4 ?_
  refine lv_irem hx hb dX9_pleasure_7 (by decide) ?_
  refine h_nm (lo := (-2147483648)) (hi := 2147483647) (iv_any _) (fun v6 e_v6 i_v6 => ?_)
  exact h_iret hQ hx hb hr hlocks rfl hK hI ⟨rfl, rfl⟩ dX9_pleasure_8
abbrev e_h_swaps_X9 : List (Nat × Nat) := [(9, 41), (9, 42), (9, 43), (9, 44), (134, 999)]
set_option maxHeartbeats 4000000 in
set_option maxRecDepth 100000 in
theorem h_swaps_X9 (l : Launch) (D : va_G) (g : Nat → ClassId) (σ : Nat → Option Nat) (Z : State → Heap → Prop) (hZ0 : hZ σ Z) (M : hM) (N : hN) (R : hR) (y : Nat) (g_y : σ y = some 9) (p1 : Int32) (m0_CW : CW M R y) : Met l yX9_swaps wsX9_swaps ({ frames := 5, cells := 0, slots := 0, locals := 112 }) (va_Pc [.ref y, .int p1] (hPre D g σ Z M N R)) (hQi D g σ e_h_swaps_X9 M (fun (r : Int32) (M1 : hM) (N1 : hN) (R1 : hR) => N = N1 ∧ R = R1)) 0 0 (hA σ) := by
  refine h_head (cc := cX9_swaps) (maxL := 6) (ret := (some .int)) (by decide) rfl (Nat.le_of_ble_eq_true rfl) e_h_swaps_X9 ?_
  intro p e s m below meth c ls Q ar hQ hx hb hr hlocks hml hown hts hK hE H locs hI hl
  have hown : s.vm.findClass RX9 = some m.cls := hown
  have hl : lv_has ls 6 [(0, .ref y), (1, .int p1)] := hl
  refine lv_iload_n hx hb dX9_swaps_0 rfl (lv_at hl 1 rfl) ?_
  refine lv_iconst (v := 0) hx hb dX9_swaps_1 (by decide) ?_
  refine lv_iconst (v := 2) hx hb dX9_swaps_2 (by decide) ?_
  refine h_goi hI (by decide) (va_runS (As := [.int p1, .int (0 : Int32), .int (2 : Int32)]) (rest := []) ⟨hx, hb, hml, hown, hts⟩ (h_isIn_X9 l D g σ Z hZ0 M N R p1 (0 : Int32) (2 : Int32)) (va_cwS 3 hts gX9_swaps_X9_isIn rfl rfl rfl (by decide +kernel) ⟨Nat.le_of_ble_eq_true rfl, Nat.le_of_ble_eq_true rfl⟩) (h_preS hZ0 hK hE hI) rfl rfl hl.1 rfl (lv_room (Nat.le_of_ble_eq_true rfl)) dX9_swaps_3 ⟨Nat.le_of_ble_eq_true rfl, Nat.le_of_ble_eq_true rfl⟩) (fun r1 M2 N3 R4 H locs q5 z_M2 hI => ?_)
  obtain ⟨rfl, rfl, rfl, i_r1, z6⟩ := q5
  refine lv_if_ne (tgt := 11) hx hb dX9_swaps_6 (by decide) (fun c7 => ?_) (fun c7 => ?_)
  · have i8 : iv p1 0 2 := (fun h9 => iv_isin (z6 h9) kc_0 kc_2) c7
    have i9 : iv r1 1 1 := iv_neL c7 i_r1 (by decide) (by decide)
    refine lv_iconst (v := 0) hx hb dX9_swaps_11 (by decide) ?_
    refine lv_istore_n (lv' := [(2, .int (0 : Int32)), (0, .ref y), (1, .int p1)]) hx hb dX9_swaps_12 rfl hl (by decide) rfl (fun ls hl => ?_)
    refine lv_iconst (v := (-1)) hx hb dX9_swaps_13 (by decide) ?_
    refine lv_istore_n (lv' := [(3, .int (-1 : Int32)), (2, .int (0 : Int32)), (0, .ref y), (1, .int p1)]) hx hb dX9_swaps_14 rfl hl (by decide) rfl (fun ls hl => ?_)
    refine lv_iconst (v := 0) hx hb dX9_swaps_15 (by decide) ?_
    have J18 : ∀ (n : Nat) (M_18 : hM) (v2_18 : Int32) (v3_18 : Int32) (v4_18 : Int32) (H : Heap) (locs : List Loc) (ls : Array Slot), kI D g σ e_h_swaps_X9 M s.heap M_18 N R H locs → lv_has ls 6 [(0, .ref y), (1, .int p1), (2, .int v2_18), (3, .int v3_18), (4, .int v4_18)] → CW M_18 R y → iv v3_18 (-1) 48 → iv v4_18 0 7 → 8 ≤ v4_18.toInt + (n : Int) → W p l e (headSpec wsX9_swaps ({ frames := 5, cells := 0, slots := 0, locals := 112 })).room s m ar below meth c H locs 0 0 Q (F0 m 18 ls []) := by
      intro n
      induction n with
      | zero => intro M_18 v2_18 v3_18 v4_18 H locs ls hI hl m_CW_18 i_v3_18 i_v4_18 hn; exfalso; have hz := i_v4_18; simp only [iv] at hz; omega
      | succ n ih18 =>
        intro M_18 v2_18 v3_18 v4_18 H locs ls hI hl m_CW_18 i_v3_18 i_v4_18 hn18
        refine lv_iload hx hb dX9_swaps_18 (lv_at hl 4 rfl) ?_
        refine lv_aload_n hx hb dX9_swaps_20 rfl (lv_at hl 0 rfl) ?_
        refine h_goi hI (by decide) (va_runV (As := []) (rest := [.int v4_18]) ⟨hx, hb, hml, hown, hts⟩ (h_many_X9 l D g σ Z hZ0 M_18 N R y g_y) (cwV 0 hts gX9_swaps_X9_many rfl rfl rfl (by decide +kernel) ⟨Nat.le_of_ble_eq_true rfl, Nat.le_of_ble_eq_true rfl⟩) (h_preV hZ0 hK hE hI g_y (by decide) rfl) rfl rfl hl.1 rfl (lv_room (Nat.le_of_ble_eq_true rfl)) dX9_swaps_21 ⟨Nat.le_of_ble_eq_true rfl, Nat.le_of_ble_eq_true rfl⟩) (fun r10 M11 N12 R13 H locs q14 z_M11 hI => ?_)
        obtain ⟨rfl, rfl, rfl, i_r10, z15⟩ := q14
        refine lv_icmp_ge (tgt := 148) hx hb dX9_swaps_24 (by decide) (fun c16 => ?_) (fun c16 => ?_)
        · refine lv_iload_n hx hb dX9_swaps_148 rfl (lv_at hl 1 rfl) ?_
          refine lv_if_ne (tgt := 156) hx hb dX9_swaps_149 (by decide) (fun c17 => ?_) (fun c17 => ?_)
          · have i18 : iv p1 1 2 := iv_neL c17 i8 (by decide) (by decide)
            refine lv_iload_n hx hb dX9_swaps_156 rfl (lv_at hl 2 rfl) ?_
            refine lv_if_ne (tgt := 164) hx hb dX9_swaps_157 (by decide) (fun c19 => ?_) (fun c19 => ?_)
            · refine lv_iload_n hx hb dX9_swaps_164 rfl (lv_at hl 1 rfl) ?_
              refine lv_iconst (v := 1) hx hb dX9_swaps_165 (by decide) ?_
              refine lv_icmp_ne (tgt := 176) hx hb dX9_swaps_166 (by decide) (fun c20 => ?_) (fun c20 => ?_)
              · have i21 : iv p1 2 2 := iv_neL c20 i18 (by decide) (by decide)
                refine lv_iload_n hx hb dX9_swaps_176 rfl (lv_at hl 3 rfl) ?_
                refine lv_bipush (v := 7) hx hb dX9_swaps_177 (by decide) ?_
                refine lv_irem hx hb dX9_swaps_179 (by decide) ?_
                refine h_nm (lo := (-2147483648)) (hi := 2147483647) (iv_any _) (fun v22 e_v22 i_v22 => ?_)
                exact h_iret hQ hx hb hr hlocks rfl hK hI ⟨rfl, rfl⟩ dX9_swaps_180
              · have i23 : iv p1 1 1 := iv_eq1 c20 i18 kc_1
                refine lv_iload_n hx hb dX9_swaps_169 rfl (lv_at hl 3 rfl) ?_
                refine lv_bipush (v := 7) hx hb dX9_swaps_170 (by decide) ?_
                refine lv_idiv hx hb dX9_swaps_172 (by decide) ?_
                refine h_nm (lo := (-2147483648)) (hi := 2147483647) (iv_any _) (fun v24 e_v24 i_v24 => ?_)
                refine lv_goto (tgt := 180) hx hb dX9_swaps_173 (by decide) ?_
                exact h_iret hQ hx hb hr hlocks rfl hK hI ⟨rfl, rfl⟩ dX9_swaps_180
            · have i25 : iv v2_18 0 0 := iv_eq1 c19 (iv_any v2_18) kc_0
              refine lv_iconst (v := (-1)) hx hb dX9_swaps_160 (by decide) ?_
              refine lv_goto (tgt := 180) hx hb dX9_swaps_161 (by decide) ?_
              exact h_iret hQ hx hb hr hlocks rfl hK hI ⟨rfl, rfl⟩ dX9_swaps_180
          · have i26 : iv p1 0 0 := iv_eq1 c17 i8 kc_0
            refine lv_iload_n hx hb dX9_swaps_152 rfl (lv_at hl 2 rfl) ?_
            refine lv_goto (tgt := 180) hx hb dX9_swaps_153 (by decide) ?_
            exact h_iret hQ hx hb hr hlocks rfl hK hI ⟨rfl, rfl⟩ dX9_swaps_180
        · have i27 : iv r10 1 7 := iv_nle1 c16 i_r10 i_v4_18 (by decide)
          have i28 : iv v4_18 0 6 := iv_nle2 c16 i_r10 i_v4_18 (by decide)
          refine lv_iload hx hb dX9_swaps_27 (lv_at hl 4 rfl) ?_
          refine lv_iconst (v := 1) hx hb dX9_swaps_29 (by decide) ?_
          refine lv_iadd hx hb dX9_swaps_30 ?_
          refine h_nm (lo := 1) (hi := 7) (iv_add i28 kc_1 (by decide) (by decide) (by decide) (by decide)) (fun v29 e_v29 i_v29 => ?_)
          have J33 : ∀ (n : Nat) (M_33 : hM) (v2_33 : Int32) (v3_33 : Int32) (v5_33 : Int32) (H : Heap) (locs : List Loc) (ls : Array Slot), kI D g σ e_h_swaps_X9 M s.heap M_33 N R H locs → lv_has ls 6 [(0, .ref y), (1, .int p1), (2, .int v2_33), (3, .int v3_33), (4, .int v4_18), (5, .int v5_33)] → CW M_33 R y → iv v3_33 (-1) 48 → iv v5_33 1 7 → 8 ≤ v5_33.toInt + (n : Int) → W p l e (headSpec wsX9_swaps ({ frames := 5, cells := 0, slots := 0, locals := 112 })).room s m ar below meth c H locs 0 0 Q (F0 m 33 ls []) := by
            intro n
            induction n with
            | zero => intro M_33 v2_33 v3_33 v5_33 H locs ls hI hl m_CW_33 i_v3_33 i_v5_33 hn; exfalso; have hz := i_v5_33; simp only [iv] at hz; omega
            | succ n ih33 =>
              intro M_33 v2_33 v3_33 v5_33 H locs ls hI hl m_CW_33 i_v3_33 i_v5_33 hn33
              refine lv_iload hx hb dX9_swaps_33 (lv_at hl 5 rfl) ?_
              refine lv_aload_n hx hb dX9_swaps_35 rfl (lv_at hl 0 rfl) ?_
              refine h_goi hI (by decide) (va_runV (As := []) (rest := [.int v5_33]) ⟨hx, hb, hml, hown, hts⟩ (h_many_X9 l D g σ Z hZ0 M_33 N R y g_y) (cwV 0 hts gX9_swaps_X9_many rfl rfl rfl (by decide +kernel) ⟨Nat.le_of_ble_eq_true rfl, Nat.le_of_ble_eq_true rfl⟩) (h_preV hZ0 hK hE hI g_y (by decide) rfl) rfl rfl hl.1 rfl (lv_room (Nat.le_of_ble_eq_true rfl)) dX9_swaps_36 ⟨Nat.le_of_ble_eq_true rfl, Nat.le_of_ble_eq_true rfl⟩) (fun r30 M31 N32 R33 H locs q34 z_M31 hI => ?_)
              obtain ⟨rfl, rfl, rfl, i_r30, z35⟩ := q34
              refine lv_icmp_ge (tgt := 142) hx hb dX9_swaps_39 (by decide) (fun c36 => ?_) (fun c36 => ?_)
              · obtain ⟨v37, e_v37⟩ : ∃ z : Int32, z = v4_18 + Int32.ofInt 1 := ⟨_, rfl⟩
                have i_v37 : iv v37 1 7 := by rw [e_v37]; exact iv_add i28 (ki_1) (by decide) (by decide) (by decide) (by decide)
                refine lv_iinc (v := v37) (lv' := [(4, .int v37), (0, .ref y), (1, .int p1), (2, .int v2_33), (3, .int v3_33), (5, .int v5_33)]) hx hb dX9_swaps_142 hl (k := 4) rfl e_v37.symm (by decide) rfl (fun ls hl => ?_)
                refine lv_goto (tgt := 18) hx hb dX9_swaps_145 (by decide) ?_
                exact ih18 M_33 v2_33 v3_33 v37 H locs ls hI (lv_sub hl [1, 2, 3, 4, 0] rfl) m_CW_33 i_v3_33 (iv_w (lo' := 0) (hi' := 7) i_v37 (by decide) (by decide)) (by have h9 := (h_inc e_v37 i28 ki_1 (by decide) (by decide)); omega)
              · have i38 : iv r30 2 7 := iv_nle1 c36 i_r30 i_v5_33 (by decide)
                have i39 : iv v5_33 1 6 := iv_nle2 c36 i_r30 i_v5_33 (by decide)
                refine lv_aload_n hx hb dX9_swaps_42 rfl (lv_at hl 0 rfl) ?_
                refine lv_iload hx hb dX9_swaps_43 (lv_at hl 4 rfl) ?_
                refine h_goi hI (by decide) (va_runV (As := [.int v4_18]) (rest := []) ⟨hx, hb, hml, hown, hts⟩ (h_isAtHome_X9 l D g σ Z hZ0 M_33 N R y g_y v4_18) (cwV 1 hts gX9_swaps_X9_isAtHome rfl rfl rfl (by decide +kernel) ⟨Nat.le_of_ble_eq_true rfl, Nat.le_of_ble_eq_true rfl⟩) (h_preV hZ0 hK hE hI g_y (by decide) rfl) rfl rfl hl.1 rfl (lv_room (Nat.le_of_ble_eq_true rfl)) dX9_swaps_45 ⟨Nat.le_of_ble_eq_true rfl, Nat.le_of_ble_eq_true rfl⟩) (fun r40 M41 N42 R43 H locs q44 z_M41 hI => ?_)
                obtain ⟨rfl, rfl, rfl, i_r40, z45, z46⟩ := q44
                have J136 : ∀ (M_136 : hM) (v2_136 : Int32) (v3_136 : Int32) (H : Heap) (locs : List Loc) (ls : Array Slot), kI D g σ e_h_swaps_X9 M s.heap M_136 N R H locs → lv_has ls 6 [(0, .ref y), (1, .int p1), (2, .int v2_136), (3, .int v3_136), (4, .int v4_18), (5, .int v5_33)] → CW M_136 R y → iv v3_136 (-1) 48 → W p l e (headSpec wsX9_swaps ({ frames := 5, cells := 0, slots := 0, locals := 112 })).room s m ar below meth c H locs 0 0 Q (F0 m 136 ls []) := by
                  intro M_136 v2_136 v3_136 H locs ls hI hl m_CW_136 i_v3_136
                  obtain ⟨v47, e_v47⟩ : ∃ z : Int32, z = v5_33 + Int32.ofInt 1 := ⟨_, rfl⟩
                  have i_v47 : iv v47 2 7 := by rw [e_v47]; exact iv_add i39 (ki_1) (by decide) (by decide) (by decide) (by decide)
                  refine lv_iinc (v := v47) (lv' := [(5, .int v47), (0, .ref y), (1, .int p1), (2, .int v2_136), (3, .int v3_136), (4, .int v4_18)]) hx hb dX9_swaps_136 hl (k := 5) rfl e_v47.symm (by decide) rfl (fun ls hl => ?_)
                  refine lv_goto (tgt := 33) hx hb dX9_swaps_139 (by decide) ?_
                  exact ih33 M_136 v2_136 v3_136 v47 H locs ls hI (lv_sub hl [1, 2, 3, 4, 5, 0] rfl) m_CW_136 i_v3_136 (iv_w (lo' := 1) (hi' := 7) i_v47 (by decide) (by decide)) (by have h9 := (h_inc e_v47 i39 ki_1 (by decide) (by decide)); omega)
                refine lv_if_eq (tgt := 136) hx hb dX9_swaps_48 (by decide) (fun c48 => ?_) (fun c48 => ?_)
                · have i49 : iv r40 0 0 := iv_eq1 c48 i_r40 kc_0
                  exact J136 M_33 v2_33 v3_33 H locs ls hI hl m_CW_33 i_v3_33
                · have i50 := z46 c48
                  have i51 : iv r40 1 1 := iv_neL c48 i_r40 (by decide) (by decide)
                  refine lv_aload_n hx hb dX9_swaps_51 rfl (lv_at hl 0 rfl) ?_
                  refine lv_iload hx hb dX9_swaps_52 (lv_at hl 5 rfl) ?_
                  refine h_goi hI (by decide) (va_runV (As := [.int v5_33]) (rest := []) ⟨hx, hb, hml, hown, hts⟩ (h_isAtHome_X9 l D g σ Z hZ0 M_33 N R y g_y v5_33) (cwV 1 hts gX9_swaps_X9_isAtHome rfl rfl rfl (by decide +kernel) ⟨Nat.le_of_ble_eq_true rfl, Nat.le_of_ble_eq_true rfl⟩) (h_preV hZ0 hK hE hI g_y (by decide) rfl) rfl rfl hl.1 rfl (lv_room (Nat.le_of_ble_eq_true rfl)) dX9_swaps_54 ⟨Nat.le_of_ble_eq_true rfl, Nat.le_of_ble_eq_true rfl⟩) (fun r52 M53 N54 R55 H locs q56 z_M53 hI => ?_)
                  obtain ⟨rfl, rfl, rfl, i_r52, z57, z58⟩ := q56
                  refine lv_if_ne (tgt := 63) hx hb dX9_swaps_57 (by decide) (fun c59 => ?_) (fun c59 => ?_)
                  · have i60 : iv v5_33 0 6 := z57 c59
                    have i61 := z58 c59
                    have i62 : iv r52 1 1 := iv_neL c59 i_r52 (by decide) (by decide)
                    refine lv_aload_n hx hb dX9_swaps_63 rfl (lv_at hl 0 rfl) ?_
                    refine lv_iload hx hb dX9_swaps_64 (lv_at hl 4 rfl) ?_
                    refine lv_aload_n hx hb dX9_swaps_66 rfl (lv_at hl 0 rfl) ?_
                    refine h_getr hx hb hts iX9_swaps_X9 hown hK hI g_y (by decide) rfl rfl 45 (by decide) rfl 145 rfl (hts (.fieldLink RX9 94 "CatLeasesModel" "all" "[I") (List.mem_of_getElem? (i := 1) rfl)) (fun _ h9 => h9) dX9_swaps_67 (fun a63 e_a63 g_a63 => ?_)
                    refine lv_iconst (v := 0) hx hb dX9_swaps_70 (by decide) ?_
                    refine lv_iload hx hb dX9_swaps_71 (lv_at hl 5 rfl) ?_
                    refine lv_iadd hx hb dX9_swaps_73 ?_
                    refine k_top (v := v5_33) (Int32.zero_add _) ?_
                    refine h_iald (j := v5_33.toNatClampNeg) (lo := (-1)) (hi := 7) hx hb hK hI g_a63 (by decide) rfl (iv_in (n := 39) i60 (by decide) (by decide)) rfl (hI.iv2 (n := 39) (c := 0) (d := 7) g_a63 rfl (in_lt (iv_in (n := 39) i60 (by decide) (by decide))) (iv_nat1 i60 (by decide)) (iv_nat2 i60 (by decide) (by decide)) (by decide)) dX9_swaps_74 (fun v64 e_v64 i_v64 => ?_)
                    have i65 : iv v64 0 7 := by rw [e_v64, e_a63]; exact i61.1
                    have i66 : iv (M_33 (R y 45) ((14 : Int32) + v64).toNatClampNeg) 0 5 := by rw [e_v64, e_a63]; exact i61.2
                    refine lv_iconst (v := 0) hx hb dX9_swaps_75 (by decide) ?_
                    refine h_goi hI (by decide) (va_runV (As := [.int v4_18, .int v64, .int (0 : Int32)]) (rest := []) ⟨hx, hb, hml, hown, hts⟩ (h_likingBy_X9 l D g σ Z hZ0 M_33 N R y g_y v4_18 i28 v64 i65 (0 : Int32) m_CW_33 i66) (cwV 3 hts gX9_swaps_X9_likingBy rfl rfl rfl (by decide +kernel) ⟨Nat.le_of_ble_eq_true rfl, Nat.le_of_ble_eq_true rfl⟩) (h_preV hZ0 hK hE hI g_y (by decide) rfl) rfl rfl hl.1 rfl (lv_room (Nat.le_of_ble_eq_true rfl)) dX9_swaps_76 ⟨Nat.le_of_ble_eq_true rfl, Nat.le_of_ble_eq_true rfl⟩) (fun r67 M68 N69 R70 H locs q71 z_M68 hI => ?_)
                    obtain ⟨rfl, rfl⟩ := q71
                    refine lv_aload_n hx hb dX9_swaps_79 rfl (lv_at hl 0 rfl) ?_
                    refine lv_iload hx hb dX9_swaps_80 (lv_at hl 4 rfl) ?_
                    have i72 : iv (M68 (R y 45) v4_18.toNatClampNeg) 0 7 := by rw [(hAg.row z_M68 (hI.2.1.r1 g_y 45 145 (by decide) rfl) (fun _ => rfl))]; exact i50.1
                    have m73 : CW M68 R y := (CW_ag hI.2.1 g_y m_CW_33 (hAd.ag z_M68 (by decide)))
                    refine h_goi hI (by decide) (va_runV (As := [.int v4_18]) (rest := [.int r67]) ⟨hx, hb, hml, hown, hts⟩ (h_likingNow_X9 l D g σ Z hZ0 M68 N R y g_y v4_18 i28 m73 i72 (by rw [(hAg.row z_M68 (hI.2.1.r1 g_y 45 145 (by decide) rfl) (fun _ => rfl))]; exact i50.2)) (cwV 1 hts gX9_swaps_X9_likingNow rfl rfl rfl (by decide +kernel) ⟨Nat.le_of_ble_eq_true rfl, Nat.le_of_ble_eq_true rfl⟩) (h_preV hZ0 hK hE hI g_y (by decide) rfl) rfl rfl hl.1 rfl (lv_room (Nat.le_of_ble_eq_true rfl)) dX9_swaps_82 ⟨Nat.le_of_ble_eq_true rfl, Nat.le_of_ble_eq_true rfl⟩) (fun r74 M75 N76 R77 H locs q78 z_M75 hI => ?_)
                    obtain ⟨rfl, rfl⟩ := q78
                    refine lv_icmp_le (tgt := 136) hx hb dX9_swaps_85 (by decide) (fun c79 => ?_) (fun c79 => ?_)
                    · have m80 : CW M75 R y := (CW_ag hI.2.1 g_y m73 (hAd.ag z_M75 (by decide)))
                      exact J136 M75 v2_33 v3_33 H locs ls hI hl m80 i_v3_33
                    · have i81 : iv r67 (-2147483647) 2147483647 := iv_nle1 c79 (iv_any r67) (iv_any r74) (by decide)
                      have i82 : iv r74 (-2147483648) 2147483646 := iv_nle2 c79 (iv_any r67) (iv_any r74) (by decide)
                      refine lv_aload_n hx hb dX9_swaps_88 rfl (lv_at hl 0 rfl) ?_
                      refine lv_iload hx hb dX9_swaps_89 (lv_at hl 5 rfl) ?_
                      refine lv_aload_n hx hb dX9_swaps_91 rfl (lv_at hl 0 rfl) ?_
                      refine h_getr hx hb hts iX9_swaps_X9 hown hK hI g_y (by decide) rfl rfl 45 (by decide) rfl 145 rfl (hts (.fieldLink RX9 94 "CatLeasesModel" "all" "[I") (List.mem_of_getElem? (i := 1) rfl)) (fun _ h9 => h9) dX9_swaps_92 (fun a83 e_a83 g_a83 => ?_)
                      have q84 : a63 = a83 := (e_a63).trans e_a83.symm
                      subst q84
                      refine lv_iconst (v := 0) hx hb dX9_swaps_95 (by decide) ?_
                      refine lv_iload hx hb dX9_swaps_96 (lv_at hl 4 rfl) ?_
                      refine lv_iadd hx hb dX9_swaps_98 ?_
                      refine k_top (v := v4_18) (Int32.zero_add _) ?_
                      refine h_iald (j := v4_18.toNatClampNeg) (lo := (-1)) (hi := 7) hx hb hK hI g_a63 (by decide) rfl (iv_in (n := 39) i28 (by decide) (by decide)) rfl (hI.iv2 (n := 39) (c := 0) (d := 7) g_a63 rfl (in_lt (iv_in (n := 39) i28 (by decide) (by decide))) (iv_nat1 i28 (by decide)) (iv_nat2 i28 (by decide) (by decide)) (by decide)) dX9_swaps_99 (fun v85 e_v85 i_v85 => ?_)
                      have i86 : iv (M75 (R y 45) v4_18.toNatClampNeg) 0 7 := by rw [(hAg.row z_M75 (hI.2.1.r1 g_y 45 145 (by decide) rfl) (fun _ => rfl))]; exact i72
                      have i87 : iv v85 0 7 := by rw [e_v85, e_a63]; exact i86
                      have i88 : iv (M75 (R y 45) ((14 : Int32) + v85).toNatClampNeg) 0 5 := by rw [e_v85, e_a63, (hAg.row z_M75 (hI.2.1.r1 g_y 45 145 (by decide) rfl) (fun _ => rfl)), (hAg.row z_M68 (hI.2.1.r1 g_y 45 145 (by decide) rfl) (fun _ => rfl))]; exact i50.2
                      refine lv_iconst (v := 0) hx hb dX9_swaps_100 (by decide) ?_
                      have m89 : CW M75 R y := (CW_ag hI.2.1 g_y m73 (hAd.ag z_M75 (by decide)))
                      refine h_goi hI (by decide) (va_runV (As := [.int v5_33, .int v85, .int (0 : Int32)]) (rest := []) ⟨hx, hb, hml, hown, hts⟩ (h_likingBy_X9 l D g σ Z hZ0 M75 N R y g_y v5_33 i60 v85 i87 (0 : Int32) m89 i88) (cwV 3 hts gX9_swaps_X9_likingBy rfl rfl rfl (by decide +kernel) ⟨Nat.le_of_ble_eq_true rfl, Nat.le_of_ble_eq_true rfl⟩) (h_preV hZ0 hK hE hI g_y (by decide) rfl) rfl rfl hl.1 rfl (lv_room (Nat.le_of_ble_eq_true rfl)) dX9_swaps_101 ⟨Nat.le_of_ble_eq_true rfl, Nat.le_of_ble_eq_true rfl⟩) (fun r90 M91 N92 R93 H locs q94 z_M91 hI => ?_)
                      obtain ⟨rfl, rfl⟩ := q94
                      refine lv_aload_n hx hb dX9_swaps_104 rfl (lv_at hl 0 rfl) ?_
                      refine lv_iload hx hb dX9_swaps_105 (lv_at hl 5 rfl) ?_
                      have i95 : iv (M91 (R y 45) v5_33.toNatClampNeg) 0 7 := by rw [(hAg.row z_M91 (hI.2.1.r1 g_y 45 145 (by decide) rfl) (fun _ => rfl)), (hAg.row z_M75 (hI.2.1.r1 g_y 45 145 (by decide) rfl) (fun _ => rfl)), (hAg.row z_M68 (hI.2.1.r1 g_y 45 145 (by decide) rfl) (fun _ => rfl))]; exact i61.1
                      have m96 : CW M91 R y := (CW_ag hI.2.1 g_y m89 (hAd.ag z_M91 (by decide)))
                      refine h_goi hI (by decide) (va_runV (As := [.int v5_33]) (rest := [.int r90]) ⟨hx, hb, hml, hown, hts⟩ (h_likingNow_X9 l D g σ Z hZ0 M91 N R y g_y v5_33 i60 m96 i95 (by rw [(hAg.row z_M91 (hI.2.1.r1 g_y 45 145 (by decide) rfl) (fun _ => rfl)), (hAg.row z_M75 (hI.2.1.r1 g_y 45 145 (by decide) rfl) (fun _ => rfl)), (hAg.row z_M68 (hI.2.1.r1 g_y 45 145 (by decide) rfl) (fun _ => rfl))]; exact i61.2)) (cwV 1 hts gX9_swaps_X9_likingNow rfl rfl rfl (by decide +kernel) ⟨Nat.le_of_ble_eq_true rfl, Nat.le_of_ble_eq_true rfl⟩) (h_preV hZ0 hK hE hI g_y (by decide) rfl) rfl rfl hl.1 rfl (lv_room (Nat.le_of_ble_eq_true rfl)) dX9_swaps_107 ⟨Nat.le_of_ble_eq_true rfl, Nat.le_of_ble_eq_true rfl⟩) (fun r97 M98 N99 R100 H locs q101 z_M98 hI => ?_)
                      obtain ⟨rfl, rfl⟩ := q101
                      refine lv_icmp_gt (tgt := 116) hx hb dX9_swaps_110 (by decide) (fun c102 => ?_) (fun c102 => ?_)
                      · have i103 : iv r97 (-2147483648) 2147483646 := iv_lt1 c102 (iv_any r97) (iv_any r90) (by decide)
                        have i104 : iv r90 (-2147483647) 2147483647 := iv_lt2 c102 (iv_any r97) (iv_any r90) (by decide)
                        refine lv_iload_n hx hb dX9_swaps_116 rfl (lv_at hl 2 rfl) ?_
                        have J132 : ∀ (t0_132 : Int32) (H : Heap) (locs : List Loc) (ls : Array Slot), kI D g σ e_h_swaps_X9 M s.heap M98 N R H locs → lv_has ls 6 [(0, .ref y), (1, .int p1), (2, .int v2_33), (4, .int v4_18), (5, .int v5_33)] → iv t0_132 (-1) 48 → W p l e (headSpec wsX9_swaps ({ frames := 5, cells := 0, slots := 0, locals := 112 })).room s m ar below meth c H locs 0 0 Q (F0 m 132 ls [.int t0_132]) := by
                          intro t0_132 H locs ls hI hl i_t0_132
                          refine lv_istore_n (lv' := [(3, .int t0_132), (0, .ref y), (1, .int p1), (2, .int v2_33), (4, .int v4_18), (5, .int v5_33)]) hx hb dX9_swaps_132 rfl hl (by decide) rfl (fun ls hl => ?_)
                          obtain ⟨v105, e_v105⟩ : ∃ z : Int32, z = v2_33 + Int32.ofInt 1 := ⟨_, rfl⟩
                          refine lv_iinc (v := v105) (lv' := [(2, .int v105), (3, .int t0_132), (0, .ref y), (1, .int p1), (4, .int v4_18), (5, .int v5_33)]) hx hb dX9_swaps_133 hl (k := 3) rfl e_v105.symm (by decide) rfl (fun ls hl => ?_)
                          have m106 : CW M98 R y := (CW_ag hI.2.1 g_y m96 (hAd.ag z_M98 (by decide)))
                          exact J136 M98 v105 t0_132 H locs ls hI (lv_sub hl [2, 3, 0, 1, 4, 5] rfl) m106 i_t0_132
                        refine lv_if_ne (tgt := 131) hx hb dX9_swaps_117 (by decide) (fun c107 => ?_) (fun c107 => ?_)
                        · refine lv_iload_n hx hb dX9_swaps_131 rfl (lv_at hl 3 rfl) ?_
                          exact J132 v3_33 H locs ls hI (lv_sub hl [0, 1, 2, 4, 5] rfl) i_v3_33
                        · have i108 : iv v2_33 0 0 := iv_eq1 c107 (iv_any v2_33) kc_0
                          refine lv_bipush (v := 7) hx hb dX9_swaps_120 (by decide) ?_
                          refine lv_iload hx hb dX9_swaps_122 (lv_at hl 4 rfl) ?_
                          refine lv_imul hx hb dX9_swaps_124 ?_
                          refine h_nm (lo := 0) (hi := 42) (iv_mul kc_7 i28 (by decide) (by decide) (by decide) (by decide) (by decide)) (fun v109 e_v109 i_v109 => ?_)
                          refine lv_iload hx hb dX9_swaps_125 (lv_at hl 5 rfl) ?_
                          refine lv_iadd hx hb dX9_swaps_127 ?_
                          refine h_nm (lo := 0) (hi := 48) (iv_add i_v109 i60 (by decide) (by decide) (by decide) (by decide)) (fun v110 e_v110 i_v110 => ?_)
                          refine lv_goto (tgt := 132) hx hb dX9_swaps_128 (by decide) ?_
                          exact J132 v110 H locs ls hI (lv_sub hl [0, 1, 2, 4, 5] rfl) (iv_w (lo' := (-1)) (hi' := 48) i_v110 (by decide) (by decide))
                      · refine lv_goto (tgt := 136) hx hb dX9_swaps_113 (by decide) ?_
                        have m111 : CW M98 R y := (CW_ag hI.2.1 g_y m96 (hAd.ag z_M98 (by decide)))
                        exact J136 M98 v2_33 v3_33 H locs ls hI hl m111 i_v3_33
                  · have i112 : iv r52 0 0 := iv_eq1 c59 i_r52 kc_0
                    refine lv_goto (tgt := 136) hx hb dX9_swaps_60 (by decide) ?_
                    exact J136 M_33 v2_33 v3_33 H locs ls hI hl m_CW_33 i_v3_33
          refine lv_istore (lv' := [(5, .int v29), (0, .ref y), (1, .int p1), (2, .int v2_18), (3, .int v3_18), (4, .int v4_18)]) hx hb dX9_swaps_31 hl (by decide) rfl (fun ls hl => ?_)
          exact J33 7 M_18 v2_18 v3_18 v29 H locs ls hI (lv_sub hl [1, 2, 3, 4, 5, 0] rfl) m_CW_18 i_v3_18 i_v29 (by have h9 := i_v29; simp only [iv] at h9; omega)
    refine lv_istore (lv' := [(4, .int (0 : Int32)), (3, .int (-1 : Int32)), (2, .int (0 : Int32)), (0, .ref y), (1, .int p1)]) hx hb dX9_swaps_16 hl (by decide) rfl (fun ls hl => ?_)
    exact J18 8 M (0 : Int32) (-1 : Int32) (0 : Int32) H locs ls hI (lv_sub hl [3, 4, 2, 1, 0] rfl) m0_CW (iv_w (lo' := (-1)) (hi' := 48) kc_m1 (by decide) (by decide)) (iv_w (lo' := 0) (hi' := 7) kc_0 (by decide) (by decide)) (by have h9 := kc_0; simp only [iv] at h9; omega)
  · have i113 : iv r1 0 0 := iv_eq1 c7 i_r1 kc_0
    refine lv_iconst (v := (-1)) hx hb dX9_swaps_9 (by decide) ?_
    exact h_iret hQ hx hb hr hlocks rfl hK hI ⟨rfl, rfl⟩ dX9_swaps_10
abbrev e_h_isLikedWith_X9 : List (Nat × Nat) := [(9, 41), (9, 42), (9, 43), (9, 44), (134, 999), (145, 999)]
set_option maxHeartbeats 4000000 in
set_option maxRecDepth 100000 in
theorem h_isLikedWith_X9 (l : Launch) (D : va_G) (g : Nat → ClassId) (σ : Nat → Option Nat) (Z : State → Heap → Prop) (hZ0 : hZ σ Z) (M : hM) (N : hN) (R : hR) (y : Nat) (g_y : σ y = some 9) (p1 : Int32) (h_p1 : iv p1 22 35) (p2 : Int32) (p3 : Int32) (h_p3 : iv p3 0 6) (m0_CW : CW M R y) (k_0 : iv (M (R y 45) p3.toNatClampNeg) 0 7) (kn_0 : iv (M (R y 45) ((14 : Int32) + M (R y 45) p3.toNatClampNeg).toNatClampNeg) 0 5) : Met l yX9_isLikedWith wsX9_isLikedWith ({ frames := 5, cells := 0, slots := 0, locals := 112 }) (va_Pc [.ref y, .int p1, .int p2, .int p3] (hPre D g σ Z M N R)) (hQi D g σ e_h_isLikedWith_X9 M (fun (r : Int32) (M1 : hM) (N1 : hN) (R1 : hR) => N = N1 ∧ R = R1 ∧ iv r 0 1 ∧ (KV M R y → KV M1 R y) ∧ (M1 (R y 45) = M (R y 45)))) 0 0 (hA σ) := by
  refine h_head (cc := cX9_isLikedWith) (maxL := 6) (ret := (some .boolean)) (by decide) rfl (Nat.le_of_ble_eq_true rfl) e_h_isLikedWith_X9 ?_
  intro p e s m below meth c ls Q ar hQ hx hb hr hlocks hml hown hts hK hE H locs hI hl
  have hown : s.vm.findClass RX9 = some m.cls := hown
  have hl : lv_has ls 6 [(0, .ref y), (1, .int p1), (2, .int p2), (3, .int p3)] := hl
  refine lv_aload_n hx hb dX9_isLikedWith_0 rfl (lv_at hl 0 rfl) ?_
  refine h_getr hx hb hts iX9_isLikedWith_X9 hown hK hI g_y (by decide) rfl rfl 45 (by decide) rfl 145 rfl (hts (.fieldLink RX9 94 "CatLeasesModel" "all" "[I") (List.mem_of_getElem? (i := 1) rfl)) (fun _ h9 => h9) dX9_isLikedWith_1 (fun a1 e_a1 g_a1 => ?_)
  refine lv_iload_n hx hb dX9_isLikedWith_4 rfl (lv_at hl 1 rfl) ?_
  refine h_iald (j := p1.toNatClampNeg) (lo := (-2147483648)) (hi := 2147483647) hx hb hK hI g_a1 (by decide) rfl (iv_in (n := 39) h_p1 (by decide) (by decide)) rfl (iv_any _) dX9_isLikedWith_5 (fun v2 e_v2 i_v2 => ?_)
  refine lv_istore (lv' := [(4, .int v2), (0, .ref y), (1, .int p1), (2, .int p2), (3, .int p3)]) hx hb dX9_isLikedWith_6 hl (by decide) rfl (fun ls hl => ?_)
  refine lv_aload_n hx hb dX9_isLikedWith_8 rfl (lv_at hl 1 rfl) ?_
  refine h_getr hx hb hts iX9_isLikedWith_X9 hown hK hI g_y (by decide) rfl rfl 45 (by decide) rfl 145 rfl (hts (.fieldLink RX9 94 "CatLeasesModel" "all" "[I") (List.mem_of_getElem? (i := 1) rfl)) (fun _ h9 => h9) dX9_isLikedWith_9 (fun a3 e_a3 g_a3 => ?_)
  have q4 : a1 = a3 := (e_a1).trans e_a3.symm
  subst q4
  refine lv_iload_n hx hb dX9_isLikedWith_12 rfl (lv_at hl 2 rfl) ?_
  refine lv_iload_n hx hb dX9_isLikedWith_13 rfl (lv_at hl 3 rfl) ?_
  refine h_iast (j := p1.toNatClampNeg) hx hb hK hI g_a1 (by decide) rfl (iv_in (n := 39) h_p1 (by decide) (by decide)) rfl (iv_posA (so := 145) (c := 22) (d := 36) (iv_nat1 h_p1 (by decide)) (iv_nat2 h_p1 (by decide) (by decide)) (by decide)) rfl dX9_isLikedWith_14 (fun M5 H locs e_M5 hI => ?_)
  refine lv_aload_n hx hb dX9_isLikedWith_15 rfl (lv_at hl 1 rfl) ?_
  refine lv_iload_n hx hb dX9_isLikedWith_16 rfl (lv_at hl 4 rfl) ?_
  have i6 : iv (M5 (R y 45) p3.toNatClampNeg) 0 7 := by rw [(u2_elc (b := R y 45) e_M5 (el_ne h_p3 h_p1 (by decide) (by decide) (by decide)))]; exact k_0
  have m7 : CW M5 R y := (CW_ag hI.2.1 g_y m0_CW (hAd.put e_M5 g_a1 rfl))
  refine h_goi hI (by decide) (va_runV (As := [.int p3]) (rest := []) ⟨hx, hb, hml, hown, hts⟩ (h_likingNow_X9 l D g σ Z hZ0 M5 N R y g_y p3 h_p3 m7 i6 (by rw [(u2_elc (b := R y 45) e_M5 (el_ne h_p3 h_p1 (by decide) (by decide) (by decide))), (u2_elc (b := R y 45) e_M5 (el_ne (iv_add (lo := 14) (hi := 21) kc_14 k_0 (by decide) (by decide) (by decide) (by decide)) h_p1 (by decide) (by decide) (by decide)))]; exact kn_0)) (cwV 1 hts gX9_isLikedWith_X9_likingNow rfl rfl rfl (by decide +kernel) ⟨Nat.le_of_ble_eq_true rfl, Nat.le_of_ble_eq_true rfl⟩) (h_preV hZ0 hK hE hI g_y (by decide) rfl) rfl rfl hl.1 rfl (lv_room (Nat.le_of_ble_eq_true rfl)) dX9_isLikedWith_17 ⟨Nat.le_of_ble_eq_true rfl, Nat.le_of_ble_eq_true rfl⟩) (fun r8 M9 N10 R11 H locs q12 z_M9 hI => ?_)
  obtain ⟨rfl, rfl⟩ := q12
  have J28 : ∀ (t0_28 : Int32) (H : Heap) (locs : List Loc) (ls : Array Slot), kI D g σ e_h_isLikedWith_X9 M s.heap M9 N R H locs → lv_has ls 6 [(0, .ref y), (1, .int p1), (4, .int v2)] → iv t0_28 0 1 → W p l e (headSpec wsX9_isLikedWith ({ frames := 5, cells := 0, slots := 0, locals := 112 })).room s m ar below meth c H locs 0 0 Q (F0 m 28 ls [.int t0_28]) := by
    intro t0_28 H locs ls hI hl i_t0_28
    refine lv_istore (lv' := [(5, .int t0_28), (0, .ref y), (1, .int p1), (4, .int v2)]) hx hb dX9_isLikedWith_28 hl (by decide) rfl (fun ls hl => ?_)
    refine lv_aload_n hx hb dX9_isLikedWith_30 rfl (lv_at hl 1 rfl) ?_
    refine h_getr hx hb hts iX9_isLikedWith_X9 hown hK hI g_y (by decide) rfl rfl 45 (by decide) rfl 145 rfl (hts (.fieldLink RX9 94 "CatLeasesModel" "all" "[I") (List.mem_of_getElem? (i := 1) rfl)) (fun _ h9 => h9) dX9_isLikedWith_31 (fun a13 e_a13 g_a13 => ?_)
    have q14 : a1 = a13 := (e_a1).trans e_a13.symm
    subst q14
    refine lv_iload_n hx hb dX9_isLikedWith_34 rfl (lv_at hl 2 rfl) ?_
    refine lv_iload hx hb dX9_isLikedWith_35 (lv_at hl 3 rfl) ?_
    refine h_iast (j := p1.toNatClampNeg) hx hb hK hI g_a1 (by decide) rfl (iv_in (n := 39) h_p1 (by decide) (by decide)) rfl (iv_posA (so := 145) (c := 22) (d := 36) (iv_nat1 h_p1 (by decide)) (iv_nat2 h_p1 (by decide) (by decide)) (by decide)) rfl dX9_isLikedWith_37 (fun M15 H locs e_M15 hI => ?_)
    refine lv_iload hx hb dX9_isLikedWith_38 (lv_at hl 0 rfl) ?_
    have m16 : KV M R y → KV M15 R y := (fun h9 => KV_off hI.2.1 g_y ((fun h9 => KV_ag hI.2.1 g_y ((fun h9 => KV_off hI.2.1 g_y ((fun h9 => h9) h9) e_M5 g_a1 (Or.inr (iv_nat1 h_p1 (by decide)))) h9) (hAd.ag z_M9 (by decide))) h9) e_M15 g_a1 (Or.inr (iv_nat1 h_p1 (by decide))))
    exact h_iret hQ hx hb hr hlocks (nar_z i_t0_28) hK hI ⟨rfl, rfl, i_t0_28, m16, (by have h9 := row_restore e_M5 (hAg.row z_M9 g_a1 (fun _ => rfl)) e_M15 e_v2; rw [e_a1] at h9; exact h9)⟩ dX9_isLikedWith_40
  refine lv_if_le (tgt := 27) hx hb dX9_isLikedWith_20 (by decide) (fun c17 => ?_) (fun c17 => ?_)
  · have i18 : iv r8 (-2147483648) 0 := iv_le1 c17 (iv_any r8) kc_0 (by decide)
    refine lv_iconst (v := 0) hx hb dX9_isLikedWith_27 (by decide) ?_
    exact J28 (0 : Int32) H locs ls hI (lv_sub hl [1, 2, 0] rfl) (iv_w (lo' := 0) (hi' := 1) kc_0 (by decide) (by decide))
  · have i19 : iv r8 1 2147483647 := iv_nle1 c17 (iv_any r8) kc_0 (by decide)
    refine lv_iconst (v := 1) hx hb dX9_isLikedWith_23 (by decide) ?_
    refine lv_goto (tgt := 28) hx hb dX9_isLikedWith_24 (by decide) ?_
    exact J28 (1 : Int32) H locs ls hI (lv_sub hl [1, 2, 0] rfl) (iv_w (lo' := 0) (hi' := 1) kc_1 (by decide) (by decide))
abbrev e_h_pay_X9 : List (Nat × Nat) := [(9, 41), (9, 42), (9, 43), (9, 44), (134, 999), (145, 999)]
set_option maxHeartbeats 4000000 in
set_option maxRecDepth 100000 in
theorem h_pay_X9 (l : Launch) (D : va_G) (g : Nat → ClassId) (σ : Nat → Option Nat) (Z : State → Heap → Prop) (hZ0 : hZ σ Z) (M : hM) (N : hN) (R : hR) (y : Nat) (g_y : σ y = some 9) (p1 : Int32) (m0_CW : CW M R y) : Met l yX9_pay wsX9_pay ({ frames := 6, cells := 0, slots := 0, locals := 137 }) (va_Pc [.ref y, .int p1] (hPre D g σ Z M N R)) (hQi D g σ e_h_pay_X9 M (fun (r : Int32) (M1 : hM) (N1 : hN) (R1 : hR) => N = N1 ∧ R = R1 ∧ iv r (-1) 99 ∧ (KV M R y → KV M1 R y))) 0 0 (hA σ) := by
  refine h_head (cc := cX9_pay) (maxL := 3) (ret := (some .int)) (by decide) rfl (Nat.le_of_ble_eq_true rfl) e_h_pay_X9 ?_
  intro p e s m below meth c ls Q ar hQ hx hb hr hlocks hml hown hts hK hE H locs hI hl
  have hown : s.vm.findClass RX9 = some m.cls := hown
  have hl : lv_has ls 3 [(0, .ref y), (1, .int p1)] := hl
  refine lv_aload_n hx hb dX9_pay_0 rfl (lv_at hl 0 rfl) ?_
  refine lv_iload_n hx hb dX9_pay_1 rfl (lv_at hl 1 rfl) ?_
  refine h_goi hI (by decide) (va_runV (As := [.int p1]) (rest := []) ⟨hx, hb, hml, hown, hts⟩ (h_isAtHome_X9 l D g σ Z hZ0 M N R y g_y p1) (cwV 1 hts gX9_pay_X9_isAtHome rfl rfl rfl (by decide +kernel) ⟨Nat.le_of_ble_eq_true rfl, Nat.le_of_ble_eq_true rfl⟩) (h_preV hZ0 hK hE hI g_y (by decide) rfl) rfl rfl hl.1 rfl (lv_room (Nat.le_of_ble_eq_true rfl)) dX9_pay_2 ⟨Nat.le_of_ble_eq_true rfl, Nat.le_of_ble_eq_true rfl⟩) (fun r1 M2 N3 R4 H locs q5 z_M2 hI => ?_)
  obtain ⟨rfl, rfl, rfl, i_r1, z6, z7⟩ := q5
  refine lv_if_ne (tgt := 10) hx hb dX9_pay_5 (by decide) (fun c8 => ?_) (fun c8 => ?_)
  · have i9 : iv p1 0 6 := z6 c8
    have i10 := z7 c8
    have i11 : iv r1 1 1 := iv_neL c8 i_r1 (by decide) (by decide)
    have m12 : KAp M R y p1 := ⟨i10.1, i10.2⟩
    refine lv_iconst (v := 0) hx hb dX9_pay_10 (by decide) ?_
    have J12 : ∀ (n : Nat) (M_12 : hM) (v2_12 : Int32) (H : Heap) (locs : List Loc) (ls : Array Slot), kI D g σ e_h_pay_X9 M s.heap M_12 N R H locs → lv_has ls 3 [(0, .ref y), (1, .int p1), (2, .int v2_12)] → (KV M R y → KV M_12 R y) → CW M_12 R y → KAp M_12 R y p1 → iv v2_12 0 100 → 101 ≤ v2_12.toInt + (n : Int) → W p l e (headSpec wsX9_pay ({ frames := 6, cells := 0, slots := 0, locals := 137 })).room s m ar below meth c H locs 0 0 Q (F0 m 12 ls []) := by
      intro n
      induction n with
      | zero => intro M_12 v2_12 H locs ls hI hl m_KVI_12 m_CW_12 m_KAp_12 i_v2_12 hn; exfalso; have hz := i_v2_12; simp only [iv] at hz; omega
      | succ n ih12 =>
        intro M_12 v2_12 H locs ls hI hl m_KVI_12 m_CW_12 m_KAp_12 i_v2_12 hn12
        refine lv_iload_n hx hb dX9_pay_12 rfl (lv_at hl 2 rfl) ?_
        refine lv_bipush (v := 99) hx hb dX9_pay_13 (by decide) ?_
        refine lv_icmp_gt (tgt := 39) hx hb dX9_pay_15 (by decide) (fun c13 => ?_) (fun c13 => ?_)
        · have i14 : iv v2_12 100 100 := iv_lt2 c13 kc_99 i_v2_12 (by decide)
          refine lv_iconst (v := (-1)) hx hb dX9_pay_39 (by decide) ?_
          exact h_iret hQ hx hb hr hlocks rfl hK hI ⟨rfl, rfl, (iv_w (lo' := (-1)) (hi' := 99) kc_m1 (by decide) (by decide)), m_KVI_12⟩ dX9_pay_40
        · have i15 : iv v2_12 0 99 := iv_nlt2 c13 kc_99 i_v2_12 (by decide)
          refine lv_aload_n hx hb dX9_pay_18 rfl (lv_at hl 0 rfl) ?_
          refine lv_bipush (v := 22) hx hb dX9_pay_19 (by decide) ?_
          refine lv_iload_n hx hb dX9_pay_21 rfl (lv_at hl 1 rfl) ?_
          refine lv_iadd hx hb dX9_pay_22 ?_
          refine h_nm (lo := 22) (hi := 28) (iv_add kc_22 i9 (by decide) (by decide) (by decide) (by decide)) (fun v16 e_v16 i_v16 => ?_)
          refine lv_iload_n hx hb dX9_pay_23 rfl (lv_at hl 2 rfl) ?_
          refine lv_iload_n hx hb dX9_pay_24 rfl (lv_at hl 1 rfl) ?_
          refine h_goi hI (by decide) (va_runV (As := [.int v16, .int v2_12, .int p1]) (rest := []) ⟨hx, hb, hml, hown, hts⟩ (h_isLikedWith_X9 l D g σ Z hZ0 M_12 N R y g_y v16 (iv_w (lo' := 22) (hi' := 35) i_v16 (by decide) (by decide)) v2_12 p1 i9 m_CW_12 m_KAp_12.1 m_KAp_12.2) (cwV 3 hts gX9_pay_X9_isLikedWith rfl rfl rfl (by decide +kernel) ⟨Nat.le_of_ble_eq_true rfl, Nat.le_of_ble_eq_true rfl⟩) (h_preV hZ0 hK hE hI g_y (by decide) rfl) rfl rfl hl.1 rfl (lv_room (Nat.le_of_ble_eq_true rfl)) dX9_pay_25 ⟨Nat.le_of_ble_eq_true rfl, Nat.le_of_ble_eq_true rfl⟩) (fun r17 M18 N19 R20 H locs q21 z_M18 hI => ?_)
          obtain ⟨rfl, rfl, i_r17, m22, z23⟩ := q21
          refine lv_if_eq (tgt := 33) hx hb dX9_pay_28 (by decide) (fun c24 => ?_) (fun c24 => ?_)
          · have i25 : iv r17 0 0 := iv_eq1 c24 i_r17 kc_0
            obtain ⟨v26, e_v26⟩ : ∃ z : Int32, z = v2_12 + Int32.ofInt 1 := ⟨_, rfl⟩
            have i_v26 : iv v26 1 100 := by rw [e_v26]; exact iv_add i15 (ki_1) (by decide) (by decide) (by decide) (by decide)
            refine lv_iinc (v := v26) (lv' := [(2, .int v26), (0, .ref y), (1, .int p1)]) hx hb dX9_pay_33 hl (k := 2) rfl e_v26.symm (by decide) rfl (fun ls hl => ?_)
            refine lv_goto (tgt := 12) hx hb dX9_pay_36 (by decide) ?_
            have m27 : KV M R y → KV M18 R y := (fun h9 => m22 (m_KVI_12 h9))
            have m28 : CW M18 R y := (CW_ag hI.2.1 g_y m_CW_12 (hAd.ag z_M18 (by decide)))
            have m29 : KAp M18 R y p1 := (KAp_row m_KAp_12 z23)
            exact ih12 M18 v26 H locs ls hI (lv_sub hl [1, 2, 0] rfl) m27 m28 m29 (iv_w (lo' := 0) (hi' := 100) i_v26 (by decide) (by decide)) (by have h9 := (h_inc e_v26 i15 ki_1 (by decide) (by decide)); omega)
          · have i30 : iv r17 1 1 := iv_neL c24 i_r17 (by decide) (by decide)
            refine lv_iload_n hx hb dX9_pay_31 rfl (lv_at hl 2 rfl) ?_
            have m31 : KV M R y → KV M18 R y := (fun h9 => m22 (m_KVI_12 h9))
            exact h_iret hQ hx hb hr hlocks rfl hK hI ⟨rfl, rfl, (iv_w (lo' := (-1)) (hi' := 99) i15 (by decide) (by decide)), m31⟩ dX9_pay_32
    refine lv_istore_n (lv' := [(2, .int (0 : Int32)), (0, .ref y), (1, .int p1)]) hx hb dX9_pay_11 rfl hl (by decide) rfl (fun ls hl => ?_)
    exact J12 101 M (0 : Int32) H locs ls hI (lv_sub hl [1, 2, 0] rfl) (fun h9 => h9) m0_CW m12 (iv_w (lo' := 0) (hi' := 100) kc_0 (by decide) (by decide)) (by have h9 := kc_0; simp only [iv] at h9; omega)
  · have i32 : iv r1 0 0 := iv_eq1 c8 i_r1 kc_0
    refine lv_iconst (v := (-1)) hx hb dX9_pay_8 (by decide) ?_
    exact h_iret hQ hx hb hr hlocks rfl hK hI ⟨rfl, rfl, (iv_w (lo' := (-1)) (hi' := 99) kc_m1 (by decide) (by decide)), (fun h9 => h9)⟩ dX9_pay_9
abbrev e_h_borne_X9 : List (Nat × Nat) := [(9, 41), (9, 42), (9, 43), (9, 44), (134, 999), (145, 999)]
set_option maxHeartbeats 4000000 in
set_option maxRecDepth 100000 in
theorem h_borne_X9 (l : Launch) (D : va_G) (g : Nat → ClassId) (σ : Nat → Option Nat) (Z : State → Heap → Prop) (hZ0 : hZ σ Z) (M : hM) (N : hN) (R : hR) (y : Nat) (g_y : σ y = some 9) (p1 : Int32) (m0_CW : CW M R y) : Met l yX9_borne wsX9_borne ({ frames := 6, cells := 0, slots := 0, locals := 137 }) (va_Pc [.ref y, .int p1] (hPre D g σ Z M N R)) (hQi D g σ e_h_borne_X9 M (fun (r : Int32) (M1 : hM) (N1 : hN) (R1 : hR) => N = N1 ∧ R = R1 ∧ iv r (-1) 9 ∧ (KV M R y → KV M1 R y))) 0 0 (hA σ) := by
  refine h_head (cc := cX9_borne) (maxL := 3) (ret := (some .int)) (by decide) rfl (Nat.le_of_ble_eq_true rfl) e_h_borne_X9 ?_
  intro p e s m below meth c ls Q ar hQ hx hb hr hlocks hml hown hts hK hE H locs hI hl
  have hown : s.vm.findClass RX9 = some m.cls := hown
  have hl : lv_has ls 3 [(0, .ref y), (1, .int p1)] := hl
  refine lv_aload_n hx hb dX9_borne_0 rfl (lv_at hl 0 rfl) ?_
  refine lv_iload_n hx hb dX9_borne_1 rfl (lv_at hl 1 rfl) ?_
  refine h_goi hI (by decide) (va_runV (As := [.int p1]) (rest := []) ⟨hx, hb, hml, hown, hts⟩ (h_isAtHome_X9 l D g σ Z hZ0 M N R y g_y p1) (cwV 1 hts gX9_borne_X9_isAtHome rfl rfl rfl (by decide +kernel) ⟨Nat.le_of_ble_eq_true rfl, Nat.le_of_ble_eq_true rfl⟩) (h_preV hZ0 hK hE hI g_y (by decide) rfl) rfl rfl hl.1 rfl (lv_room (Nat.le_of_ble_eq_true rfl)) dX9_borne_2 ⟨Nat.le_of_ble_eq_true rfl, Nat.le_of_ble_eq_true rfl⟩) (fun r1 M2 N3 R4 H locs q5 z_M2 hI => ?_)
  obtain ⟨rfl, rfl, rfl, i_r1, z6, z7⟩ := q5
  refine lv_if_ne (tgt := 10) hx hb dX9_borne_5 (by decide) (fun c8 => ?_) (fun c8 => ?_)
  · have i9 : iv p1 0 6 := z6 c8
    have i10 := z7 c8
    have i11 : iv r1 1 1 := iv_neL c8 i_r1 (by decide) (by decide)
    have m12 : KAp M R y p1 := ⟨i10.1, i10.2⟩
    refine lv_bipush (v := 9) hx hb dX9_borne_10 (by decide) ?_
    have J13 : ∀ (n : Nat) (M_13 : hM) (v2_13 : Int32) (H : Heap) (locs : List Loc) (ls : Array Slot), kI D g σ e_h_borne_X9 M s.heap M_13 N R H locs → lv_has ls 3 [(0, .ref y), (1, .int p1), (2, .int v2_13)] → (KV M R y → KV M_13 R y) → CW M_13 R y → KAp M_13 R y p1 → iv v2_13 (-1) 9 → v2_13.toInt ≤ (-2) + (n : Int) → W p l e (headSpec wsX9_borne ({ frames := 6, cells := 0, slots := 0, locals := 137 })).room s m ar below meth c H locs 0 0 Q (F0 m 13 ls []) := by
      intro n
      induction n with
      | zero => intro M_13 v2_13 H locs ls hI hl m_KVI_13 m_CW_13 m_KAp_13 i_v2_13 hn; exfalso; have hz := i_v2_13; simp only [iv] at hz; omega
      | succ n ih13 =>
        intro M_13 v2_13 H locs ls hI hl m_KVI_13 m_CW_13 m_KAp_13 i_v2_13 hn13
        refine lv_iload_n hx hb dX9_borne_13 rfl (lv_at hl 2 rfl) ?_
        refine lv_if_lt (tgt := 38) hx hb dX9_borne_14 (by decide) (fun c13 => ?_) (fun c13 => ?_)
        · have i14 : iv v2_13 (-1) (-1) := iv_lt1 c13 i_v2_13 kc_0 (by decide)
          refine lv_iconst (v := (-1)) hx hb dX9_borne_38 (by decide) ?_
          exact h_iret hQ hx hb hr hlocks rfl hK hI ⟨rfl, rfl, (iv_w (lo' := (-1)) (hi' := 9) kc_m1 (by decide) (by decide)), m_KVI_13⟩ dX9_borne_39
        · have i15 : iv v2_13 0 9 := iv_nlt1 c13 i_v2_13 kc_0 (by decide)
          refine lv_aload_n hx hb dX9_borne_17 rfl (lv_at hl 0 rfl) ?_
          refine lv_bipush (v := 29) hx hb dX9_borne_18 (by decide) ?_
          refine lv_iload_n hx hb dX9_borne_20 rfl (lv_at hl 1 rfl) ?_
          refine lv_iadd hx hb dX9_borne_21 ?_
          refine h_nm (lo := 29) (hi := 35) (iv_add kc_29 i9 (by decide) (by decide) (by decide) (by decide)) (fun v16 e_v16 i_v16 => ?_)
          refine lv_iload_n hx hb dX9_borne_22 rfl (lv_at hl 2 rfl) ?_
          refine lv_iload_n hx hb dX9_borne_23 rfl (lv_at hl 1 rfl) ?_
          refine h_goi hI (by decide) (va_runV (As := [.int v16, .int v2_13, .int p1]) (rest := []) ⟨hx, hb, hml, hown, hts⟩ (h_isLikedWith_X9 l D g σ Z hZ0 M_13 N R y g_y v16 (iv_w (lo' := 22) (hi' := 35) i_v16 (by decide) (by decide)) v2_13 p1 i9 m_CW_13 m_KAp_13.1 m_KAp_13.2) (cwV 3 hts gX9_borne_X9_isLikedWith rfl rfl rfl (by decide +kernel) ⟨Nat.le_of_ble_eq_true rfl, Nat.le_of_ble_eq_true rfl⟩) (h_preV hZ0 hK hE hI g_y (by decide) rfl) rfl rfl hl.1 rfl (lv_room (Nat.le_of_ble_eq_true rfl)) dX9_borne_24 ⟨Nat.le_of_ble_eq_true rfl, Nat.le_of_ble_eq_true rfl⟩) (fun r17 M18 N19 R20 H locs q21 z_M18 hI => ?_)
          obtain ⟨rfl, rfl, i_r17, m22, z23⟩ := q21
          refine lv_if_eq (tgt := 32) hx hb dX9_borne_27 (by decide) (fun c24 => ?_) (fun c24 => ?_)
          · have i25 : iv r17 0 0 := iv_eq1 c24 i_r17 kc_0
            obtain ⟨v26, e_v26⟩ : ∃ z : Int32, z = v2_13 + Int32.ofInt (-1) := ⟨_, rfl⟩
            have i_v26 : iv v26 (-1) 8 := by rw [e_v26]; exact iv_add i15 (ki_m1) (by decide) (by decide) (by decide) (by decide)
            refine lv_iinc (v := v26) (lv' := [(2, .int v26), (0, .ref y), (1, .int p1)]) hx hb dX9_borne_32 hl (k := 2) rfl e_v26.symm (by decide) rfl (fun ls hl => ?_)
            refine lv_goto (tgt := 13) hx hb dX9_borne_35 (by decide) ?_
            have m27 : KV M R y → KV M18 R y := (fun h9 => m22 (m_KVI_13 h9))
            have m28 : CW M18 R y := (CW_ag hI.2.1 g_y m_CW_13 (hAd.ag z_M18 (by decide)))
            have m29 : KAp M18 R y p1 := (KAp_row m_KAp_13 z23)
            exact ih13 M18 v26 H locs ls hI (lv_sub hl [1, 2, 0] rfl) m27 m28 m29 (iv_w (lo' := (-1)) (hi' := 9) i_v26 (by decide) (by decide)) (by have h9 := (h_inc e_v26 i15 ki_m1 (by decide) (by decide)); omega)
          · have i30 : iv r17 1 1 := iv_neL c24 i_r17 (by decide) (by decide)
            refine lv_iload_n hx hb dX9_borne_30 rfl (lv_at hl 2 rfl) ?_
            have m31 : KV M R y → KV M18 R y := (fun h9 => m22 (m_KVI_13 h9))
            exact h_iret hQ hx hb hr hlocks rfl hK hI ⟨rfl, rfl, (iv_w (lo' := (-1)) (hi' := 9) i15 (by decide) (by decide)), m31⟩ dX9_borne_31
    refine lv_istore_n (lv' := [(2, .int (9 : Int32)), (0, .ref y), (1, .int p1)]) hx hb dX9_borne_12 rfl hl (by decide) rfl (fun ls hl => ?_)
    exact J13 11 M (9 : Int32) H locs ls hI (lv_sub hl [1, 2, 0] rfl) (fun h9 => h9) m0_CW m12 (iv_w (lo' := (-1)) (hi' := 9) kc_9 (by decide) (by decide)) (by have h9 := kc_9; simp only [iv] at h9; omega)
  · have i32 : iv r1 0 0 := iv_eq1 c8 i_r1 kc_0
    refine lv_iconst (v := (-1)) hx hb dX9_borne_8 (by decide) ?_
    exact h_iret hQ hx hb hr hlocks rfl hK hI ⟨rfl, rfl, (iv_w (lo' := (-1)) (hi' := 9) kc_m1 (by decide) (by decide)), (fun h9 => h9)⟩ dX9_borne_9
abbrev e_h_layGood_X9 : List (Nat × Nat) := [(9, 41), (9, 42), (9, 43), (9, 44), (134, 999), (145, 999), (156, 999)]
set_option maxHeartbeats 4000000 in
set_option maxRecDepth 100000 in
theorem h_layGood_X9 (l : Launch) (D : va_G) (g : Nat → ClassId) (σ : Nat → Option Nat) (Z : State → Heap → Prop) (hZ0 : hZ σ Z) (M : hM) (N : hN) (R : hR) (y : Nat) (g_y : σ y = some 9) (p1 : Int32) (h_p1 : iv p1 0 6) (p2 : Int32) (h_p2 : iv p2 0 6) (p3 : Int32) (h_p3 : iv p3 0 7) (m0_CW : CW M R y) (m0_KBp : KBp M R y p3) : Met l yX9_layGood wsX9_layGood ({ frames := 4, cells := 0, slots := 0, locals := 91 }) (va_Pc [.ref y, .int p1, .int p2, .int p3] (hPre D g σ Z M N R)) (hQv D g σ e_h_layGood_X9 M (fun (M1 : hM) (N1 : hN) (R1 : hR) => N = N1 ∧ R = R1 ∧ (KV M R y → KV M1 R y))) 0 0 (hA σ) := by
  refine h_head (cc := cX9_layGood) (maxL := 9) (ret := none) (by decide) rfl (Nat.le_of_ble_eq_true rfl) e_h_layGood_X9 ?_
  intro p e s m below meth c ls Q ar hQ hx hb hr hlocks hml hown hts hK hE H locs hI hl
  have hown : s.vm.findClass RX9 = some m.cls := hown
  have hl : lv_has ls 9 [(0, .ref y), (1, .int p1), (2, .int p2), (3, .int p3)] := hl
  refine lv_iconst (v := 0) hx hb dX9_layGood_0 (by decide) ?_
  have J3 : ∀ (n : Nat) (M_3 : hM) (v4_3 : Int32) (H : Heap) (locs : List Loc) (ls : Array Slot), kI D g σ e_h_layGood_X9 M s.heap M_3 N R H locs → lv_has ls 9 [(0, .ref y), (1, .int p1), (2, .int p2), (3, .int p3), (4, .int v4_3)] → (KV M R y → KV M_3 R y) → CW M_3 R y → KBp M_3 R y p3 → iv v4_3 0 36 → 37 ≤ v4_3.toInt + (n : Int) → W p l e (headSpec wsX9_layGood ({ frames := 4, cells := 0, slots := 0, locals := 91 })).room s m ar below meth c H locs 0 0 Q (F0 m 3 ls []) := by
    intro n
    induction n with
    | zero => intro M_3 v4_3 H locs ls hI hl m_KVI_3 m_CW_3 m_KBp_3 i_v4_3 hn; exfalso; have hz := i_v4_3; simp only [iv] at hz; omega
    | succ n ih3 =>
      intro M_3 v4_3 H locs ls hI hl m_KVI_3 m_CW_3 m_KBp_3 i_v4_3 hn3
      refine lv_iload hx hb dX9_layGood_3 (lv_at hl 4 rfl) ?_
      refine lv_bipush (v := 36) hx hb dX9_layGood_5 (by decide) ?_
      refine lv_icmp_ge (tgt := 181) hx hb dX9_layGood_7 (by decide) (fun c1 => ?_) (fun c1 => ?_)
      · have i2 : iv v4_3 36 36 := iv_le2 c1 kc_36 i_v4_3 (by decide)
        exact h_vret hQ hx hb hr hlocks hK hI ⟨rfl, rfl, m_KVI_3⟩ dX9_layGood_181
      · have i3 : iv v4_3 0 35 := iv_nle2 c1 kc_36 i_v4_3 (by decide)
        refine lv_aload_n hx hb dX9_layGood_10 rfl (lv_at hl 0 rfl) ?_
        refine h_getr hx hb hts iX9_layGood_X9 hown hK hI g_y (by decide) rfl rfl 45 (by decide) rfl 145 rfl (hts (.fieldLink RX9 94 "CatLeasesModel" "all" "[I") (List.mem_of_getElem? (i := 1) rfl)) (fun _ h9 => h9) dX9_layGood_11 (fun a4 e_a4 g_a4 => ?_)
        refine lv_bipush (v := 22) hx hb dX9_layGood_14 (by decide) ?_
        refine lv_iload_n hx hb dX9_layGood_16 rfl (lv_at hl 1 rfl) ?_
        refine lv_iadd hx hb dX9_layGood_17 ?_
        refine h_nm (lo := 22) (hi := 28) (iv_add kc_22 h_p1 (by decide) (by decide) (by decide) (by decide)) (fun v5 e_v5 i_v5 => ?_)
        refine h_iald (j := v5.toNatClampNeg) (lo := (-2147483648)) (hi := 2147483647) hx hb hK hI g_a4 (by decide) rfl (iv_in (n := 39) i_v5 (by decide) (by decide)) rfl (iv_any _) dX9_layGood_18 (fun v6 e_v6 i_v6 => ?_)
        refine lv_istore (lv' := [(5, .int v6), (0, .ref y), (1, .int p1), (2, .int p2), (3, .int p3), (4, .int v4_3)]) hx hb dX9_layGood_19 hl (by decide) rfl (fun ls hl => ?_)
        refine lv_aload_n hx hb dX9_layGood_21 rfl (lv_at hl 1 rfl) ?_
        refine h_getr hx hb hts iX9_layGood_X9 hown hK hI g_y (by decide) rfl rfl 45 (by decide) rfl 145 rfl (hts (.fieldLink RX9 94 "CatLeasesModel" "all" "[I") (List.mem_of_getElem? (i := 1) rfl)) (fun _ h9 => h9) dX9_layGood_22 (fun a7 e_a7 g_a7 => ?_)
        have q8 : a4 = a7 := (e_a4).trans e_a7.symm
        subst q8
        refine lv_bipush (v := 22) hx hb dX9_layGood_25 (by decide) ?_
        refine lv_iload_n hx hb dX9_layGood_27 rfl (lv_at hl 3 rfl) ?_
        refine lv_iadd hx hb dX9_layGood_28 ?_
        refine h_nm (lo := 22) (hi := 28) (iv_add kc_22 h_p2 (by decide) (by decide) (by decide) (by decide)) (fun v9 e_v9 i_v9 => ?_)
        refine h_iald (j := v9.toNatClampNeg) (lo := (-2147483648)) (hi := 2147483647) hx hb hK hI g_a4 (by decide) rfl (iv_in (n := 39) i_v9 (by decide) (by decide)) rfl (iv_any _) dX9_layGood_29 (fun v10 e_v10 i_v10 => ?_)
        refine lv_istore (lv' := [(6, .int v10), (5, .int v6), (0, .ref y), (1, .int p1), (2, .int p2), (3, .int p3), (4, .int v4_3)]) hx hb dX9_layGood_30 hl (by decide) rfl (fun ls hl => ?_)
        refine lv_aload_n hx hb dX9_layGood_32 rfl (lv_at hl 2 rfl) ?_
        refine h_getr hx hb hts iX9_layGood_X9 hown hK hI g_y (by decide) rfl rfl 45 (by decide) rfl 145 rfl (hts (.fieldLink RX9 94 "CatLeasesModel" "all" "[I") (List.mem_of_getElem? (i := 1) rfl)) (fun _ h9 => h9) dX9_layGood_33 (fun a11 e_a11 g_a11 => ?_)
        have q12 : a4 = a11 := (e_a4).trans e_a11.symm
        subst q12
        refine lv_bipush (v := 22) hx hb dX9_layGood_36 (by decide) ?_
        refine lv_iload_n hx hb dX9_layGood_38 rfl (lv_at hl 3 rfl) ?_
        refine lv_iadd hx hb dX9_layGood_39 ?_
        refine h_nm (lo := 22) (hi := 28) (iv_add kc_22 h_p1 (by decide) (by decide) (by decide) (by decide)) (fun v13 e_v13 i_v13 => ?_)
        refine lv_iload hx hb dX9_layGood_40 (lv_at hl 1 rfl) ?_
        refine lv_iload hx hb dX9_layGood_42 (lv_at hl 6 rfl) ?_
        refine lv_bipush (v := 6) hx hb dX9_layGood_44 (by decide) ?_
        refine lv_idiv hx hb dX9_layGood_46 (by decide) ?_
        refine h_nm (lo := 0) (hi := 5) (iv_div 6 i3 (by decide) (by decide) (by decide) (by decide)) (fun v14 e_v14 i_v14 => ?_)
        refine lv_iadd hx hb dX9_layGood_47 ?_
        refine h_nm (lo := (-2147483648)) (hi := 2147483647) (iv_any _) (fun v15 e_v15 i_v15 => ?_)
        refine h_goi hI (by decide) (va_runS (As := [.int v15]) (rest := [.int v13, .ref a4]) ⟨hx, hb, hml, hown, hts⟩ (h_capped_X9 l D g σ Z hZ0 M_3 N R v15) (va_cwS 1 hts gX9_layGood_X9_capped rfl rfl rfl (by decide +kernel) ⟨Nat.le_of_ble_eq_true rfl, Nat.le_of_ble_eq_true rfl⟩) (h_preS hZ0 hK hE hI) rfl rfl hl.1 rfl (lv_room (Nat.le_of_ble_eq_true rfl)) dX9_layGood_48 ⟨Nat.le_of_ble_eq_true rfl, Nat.le_of_ble_eq_true rfl⟩) (fun r16 M17 N18 R19 H locs q20 z_M17 hI => ?_)
        obtain ⟨rfl, rfl, rfl, i_r16⟩ := q20
        refine h_iast (j := v13.toNatClampNeg) hx hb hK hI g_a4 (by decide) rfl (iv_in (n := 39) i_v13 (by decide) (by decide)) rfl (iv_posA (so := 145) (c := 22) (d := 29) (iv_nat1 i_v13 (by decide)) (iv_nat2 i_v13 (by decide) (by decide)) (by decide)) rfl dX9_layGood_51 (fun M21 H locs e_M21 hI => ?_)
        refine lv_aload_n hx hb dX9_layGood_52 rfl (lv_at hl 2 rfl) ?_
        refine h_getr hx hb hts iX9_layGood_X9 hown hK hI g_y (by decide) rfl rfl 45 (by decide) rfl 145 rfl (hts (.fieldLink RX9 94 "CatLeasesModel" "all" "[I") (List.mem_of_getElem? (i := 1) rfl)) (fun _ h9 => h9) dX9_layGood_53 (fun a22 e_a22 g_a22 => ?_)
        have q23 : a4 = a22 := (e_a4).trans e_a22.symm
        subst q23
        refine lv_bipush (v := 22) hx hb dX9_layGood_56 (by decide) ?_
        refine lv_iload_n hx hb dX9_layGood_58 rfl (lv_at hl 4 rfl) ?_
        refine lv_iadd hx hb dX9_layGood_59 ?_
        refine h_nm (lo := 22) (hi := 28) (iv_add kc_22 h_p2 (by decide) (by decide) (by decide) (by decide)) (fun v24 e_v24 i_v24 => ?_)
        refine lv_iload hx hb dX9_layGood_60 (lv_at hl 0 rfl) ?_
        refine lv_iload hx hb dX9_layGood_62 (lv_at hl 6 rfl) ?_
        refine lv_bipush (v := 6) hx hb dX9_layGood_64 (by decide) ?_
        refine lv_irem hx hb dX9_layGood_66 (by decide) ?_
        refine h_nm (lo := 0) (hi := 5) (iv_rem i3 kc_6 (by decide) (by decide) (by decide)) (fun v25 e_v25 i_v25 => ?_)
        refine lv_iadd hx hb dX9_layGood_67 ?_
        refine h_nm (lo := (-2147483648)) (hi := 2147483647) (iv_any _) (fun v26 e_v26 i_v26 => ?_)
        refine h_goi hI (by decide) (va_runS (As := [.int v26]) (rest := [.int v24, .ref a4]) ⟨hx, hb, hml, hown, hts⟩ (h_capped_X9 l D g σ Z hZ0 M21 N R v26) (va_cwS 1 hts gX9_layGood_X9_capped rfl rfl rfl (by decide +kernel) ⟨Nat.le_of_ble_eq_true rfl, Nat.le_of_ble_eq_true rfl⟩) (h_preS hZ0 hK hE hI) rfl rfl hl.1 rfl (lv_room (Nat.le_of_ble_eq_true rfl)) dX9_layGood_68 ⟨Nat.le_of_ble_eq_true rfl, Nat.le_of_ble_eq_true rfl⟩) (fun r27 M28 N29 R30 H locs q31 z_M28 hI => ?_)
        obtain ⟨rfl, rfl, rfl, i_r27⟩ := q31
        refine h_iast (j := v24.toNatClampNeg) hx hb hK hI g_a4 (by decide) rfl (iv_in (n := 39) i_v24 (by decide) (by decide)) rfl (iv_posA (so := 145) (c := 22) (d := 29) (iv_nat1 i_v24 (by decide)) (iv_nat2 i_v24 (by decide) (by decide)) (by decide)) rfl dX9_layGood_71 (fun M32 H locs e_M32 hI => ?_)
        refine lv_aload_n hx hb dX9_layGood_72 rfl (lv_at hl 2 rfl) ?_
        refine lv_iload_n hx hb dX9_layGood_73 rfl (lv_at hl 3 rfl) ?_
        refine lv_iload_n hx hb dX9_layGood_74 rfl (lv_at hl 5 rfl) ?_
        have m33 : KBp M32 R y p3 := (KBp_off (KBp_off m_KBp_3 h_p3 e_M21 (Or.inr (iv_nat1 i_v13 (by decide)))) h_p3 e_M32 (Or.inr (iv_nat1 i_v24 (by decide))))
        have m34 : CW M32 R y := (CW_ag hI.2.1 g_y (CW_ag hI.2.1 g_y m_CW_3 (hAd.put e_M21 g_a4 rfl)) (hAd.put e_M32 g_a4 rfl))
        refine h_goi hI (by decide) (va_runV (As := [.int p1, .int p3]) (rest := []) ⟨hx, hb, hml, hown, hts⟩ (h_likingIn_X9 l D g σ Z hZ0 M32 N R y g_y p1 h_p1 p3 h_p3 m34 m33) (cwV 2 hts gX9_layGood_X9_likingIn rfl rfl rfl (by decide +kernel) ⟨Nat.le_of_ble_eq_true rfl, Nat.le_of_ble_eq_true rfl⟩) (h_preV hZ0 hK hE hI g_y (by decide) rfl) rfl rfl hl.1 rfl (lv_room (Nat.le_of_ble_eq_true rfl)) dX9_layGood_75 ⟨Nat.le_of_ble_eq_true rfl, Nat.le_of_ble_eq_true rfl⟩) (fun r35 M36 N37 R38 H locs q39 z_M36 hI => ?_)
        obtain ⟨rfl, rfl⟩ := q39
        refine lv_istore (lv' := [(7, .int r35), (6, .int v10), (5, .int v6), (0, .ref y), (1, .int p1), (2, .int p2), (3, .int p3), (4, .int v4_3)]) hx hb dX9_layGood_78 hl (by decide) rfl (fun ls hl => ?_)
        refine lv_aload_n hx hb dX9_layGood_80 rfl (lv_at hl 3 rfl) ?_
        refine lv_iload_n hx hb dX9_layGood_81 rfl (lv_at hl 5 rfl) ?_
        refine lv_iload_n hx hb dX9_layGood_82 rfl (lv_at hl 6 rfl) ?_
        have m40 : KBp M36 R y p3 := (KBp_ag hI.2.1 g_y m33 (hAd.ag z_M36 (by decide)))
        have m41 : CW M36 R y := (CW_ag hI.2.1 g_y m34 (hAd.ag z_M36 (by decide)))
        refine h_goi hI (by decide) (va_runV (As := [.int p2, .int p3]) (rest := []) ⟨hx, hb, hml, hown, hts⟩ (h_likingIn_X9 l D g σ Z hZ0 M36 N R y g_y p2 h_p2 p3 h_p3 m41 m40) (cwV 2 hts gX9_layGood_X9_likingIn rfl rfl rfl (by decide +kernel) ⟨Nat.le_of_ble_eq_true rfl, Nat.le_of_ble_eq_true rfl⟩) (h_preV hZ0 hK hE hI g_y (by decide) rfl) rfl rfl hl.1 rfl (lv_room (Nat.le_of_ble_eq_true rfl)) dX9_layGood_83 ⟨Nat.le_of_ble_eq_true rfl, Nat.le_of_ble_eq_true rfl⟩) (fun r42 M43 N44 R45 H locs q46 z_M43 hI => ?_)
        obtain ⟨rfl, rfl⟩ := q46
        refine lv_istore (lv' := [(8, .int r42), (7, .int r35), (6, .int v10), (5, .int v6), (0, .ref y), (1, .int p1), (2, .int p2), (3, .int p3), (4, .int v4_3)]) hx hb dX9_layGood_86 hl (by decide) rfl (fun ls hl => ?_)
        refine lv_aload_n hx hb dX9_layGood_88 rfl (lv_at hl 4 rfl) ?_
        refine h_getr hx hb hts iX9_layGood_X9 hown hK hI g_y (by decide) rfl rfl 56 (by decide) rfl 156 rfl (hts (.fieldLink RX9 118 "CatLeasesModel" "good" "[I") (List.mem_of_getElem? (i := 2) rfl)) (fun _ h9 => h9) dX9_layGood_89 (fun a47 e_a47 g_a47 => ?_)
        refine lv_iload hx hb dX9_layGood_92 (lv_at hl 8 rfl) ?_
        refine lv_iload hx hb dX9_layGood_94 (lv_at hl 1 rfl) ?_
        have J112 : ∀ (t2_112 : Int32) (H : Heap) (locs : List Loc) (ls : Array Slot), kI D g σ e_h_layGood_X9 M s.heap M43 N R H locs → lv_has ls 9 [(0, .ref y), (1, .int p1), (2, .int p2), (3, .int p3), (4, .int v4_3), (5, .int v6), (6, .int v10), (7, .int r35), (8, .int r42)] → iv t2_112 0 100 → W p l e (headSpec wsX9_layGood ({ frames := 4, cells := 0, slots := 0, locals := 91 })).room s m ar below meth c H locs 0 0 Q (F0 m 112 ls [.int t2_112, .int v4_3, .ref a47]) := by
          intro t2_112 H locs ls hI hl i_t2_112
          refine lv_iload hx hb dX9_layGood_112 (lv_at hl 4 rfl) ?_
          refine lv_bipush (v := 6) hx hb dX9_layGood_114 (by decide) ?_
          refine lv_idiv hx hb dX9_layGood_116 (by decide) ?_
          refine h_nm (lo := 0) (hi := 5) (iv_div 6 i3 (by decide) (by decide) (by decide) (by decide)) (fun v48 e_v48 i_v48 => ?_)
          refine lv_isub hx hb dX9_layGood_117 ?_
          refine h_nm (lo := (-5)) (hi := 100) (iv_sub i_t2_112 i_v48 (by decide) (by decide) (by decide) (by decide)) (fun v49 e_v49 i_v49 => ?_)
          refine h_iast (j := v4_3.toNatClampNeg) hx hb hK hI g_a47 (by decide) rfl (iv_in (n := 72) i3 (by decide) (by decide)) rfl (iv_any _) rfl dX9_layGood_118 (fun M50 H locs e_M50 hI => ?_)
          refine lv_aload_n hx hb dX9_layGood_119 rfl (lv_at hl 0 rfl) ?_
          refine h_getr hx hb hts iX9_layGood_X9 hown hK hI g_y (by decide) rfl rfl 56 (by decide) rfl 156 rfl (hts (.fieldLink RX9 118 "CatLeasesModel" "good" "[I") (List.mem_of_getElem? (i := 2) rfl)) (fun _ h9 => h9) dX9_layGood_120 (fun a51 e_a51 g_a51 => ?_)
          have q52 : a47 = a51 := (e_a47).trans e_a51.symm
          subst q52
          refine lv_bipush (v := 36) hx hb dX9_layGood_123 (by decide) ?_
          refine lv_iload hx hb dX9_layGood_125 (lv_at hl 4 rfl) ?_
          refine lv_iadd hx hb dX9_layGood_127 ?_
          refine h_nm (lo := 36) (hi := 71) (iv_add kc_36 i3 (by decide) (by decide) (by decide) (by decide)) (fun v53 e_v53 i_v53 => ?_)
          refine lv_iload hx hb dX9_layGood_128 (lv_at hl 8 rfl) ?_
          have J146 : ∀ (t2_146 : Int32) (H : Heap) (locs : List Loc) (ls : Array Slot), kI D g σ e_h_layGood_X9 M s.heap M50 N R H locs → lv_has ls 9 [(0, .ref y), (1, .int p1), (2, .int p2), (3, .int p3), (4, .int v4_3), (5, .int v6), (6, .int v10)] → iv t2_146 0 100 → W p l e (headSpec wsX9_layGood ({ frames := 4, cells := 0, slots := 0, locals := 91 })).room s m ar below meth c H locs 0 0 Q (F0 m 146 ls [.int t2_146, .int v53, .ref a47]) := by
            intro t2_146 H locs ls hI hl i_t2_146
            refine lv_iload hx hb dX9_layGood_146 (lv_at hl 4 rfl) ?_
            refine lv_bipush (v := 6) hx hb dX9_layGood_148 (by decide) ?_
            refine lv_irem hx hb dX9_layGood_150 (by decide) ?_
            refine h_nm (lo := 0) (hi := 5) (iv_rem i3 kc_6 (by decide) (by decide) (by decide)) (fun v54 e_v54 i_v54 => ?_)
            refine lv_isub hx hb dX9_layGood_151 ?_
            refine h_nm (lo := (-5)) (hi := 100) (iv_sub i_t2_146 i_v54 (by decide) (by decide) (by decide) (by decide)) (fun v55 e_v55 i_v55 => ?_)
            refine h_iast (j := v53.toNatClampNeg) hx hb hK hI g_a47 (by decide) rfl (iv_in (n := 72) i_v53 (by decide) (by decide)) rfl (iv_any _) rfl dX9_layGood_152 (fun M56 H locs e_M56 hI => ?_)
            refine lv_aload_n hx hb dX9_layGood_153 rfl (lv_at hl 0 rfl) ?_
            refine h_getr hx hb hts iX9_layGood_X9 hown hK hI g_y (by decide) rfl rfl 45 (by decide) rfl 145 rfl (hts (.fieldLink RX9 94 "CatLeasesModel" "all" "[I") (List.mem_of_getElem? (i := 1) rfl)) (fun _ h9 => h9) dX9_layGood_154 (fun a57 e_a57 g_a57 => ?_)
            have q58 : a4 = a57 := (e_a4).trans e_a57.symm
            subst q58
            refine lv_bipush (v := 22) hx hb dX9_layGood_157 (by decide) ?_
            refine lv_iload_n hx hb dX9_layGood_159 rfl (lv_at hl 1 rfl) ?_
            refine lv_iadd hx hb dX9_layGood_160 ?_
            refine h_nm (lo := 22) (hi := 28) (iv_add kc_22 h_p1 (by decide) (by decide) (by decide) (by decide)) (fun v59 e_v59 i_v59 => ?_)
            refine lv_iload hx hb dX9_layGood_161 (lv_at hl 5 rfl) ?_
            refine h_iast (j := v59.toNatClampNeg) hx hb hK hI g_a4 (by decide) rfl (iv_in (n := 39) i_v59 (by decide) (by decide)) rfl (iv_posA (so := 145) (c := 22) (d := 29) (iv_nat1 i_v59 (by decide)) (iv_nat2 i_v59 (by decide) (by decide)) (by decide)) rfl dX9_layGood_163 (fun M60 H locs e_M60 hI => ?_)
            refine lv_aload_n hx hb dX9_layGood_164 rfl (lv_at hl 0 rfl) ?_
            refine h_getr hx hb hts iX9_layGood_X9 hown hK hI g_y (by decide) rfl rfl 45 (by decide) rfl 145 rfl (hts (.fieldLink RX9 94 "CatLeasesModel" "all" "[I") (List.mem_of_getElem? (i := 1) rfl)) (fun _ h9 => h9) dX9_layGood_165 (fun a61 e_a61 g_a61 => ?_)
            have q62 : a4 = a61 := (e_a4).trans e_a61.symm
            subst q62
            refine lv_bipush (v := 22) hx hb dX9_layGood_168 (by decide) ?_
            refine lv_iload_n hx hb dX9_layGood_170 rfl (lv_at hl 2 rfl) ?_
            refine lv_iadd hx hb dX9_layGood_171 ?_
            refine h_nm (lo := 22) (hi := 28) (iv_add kc_22 h_p2 (by decide) (by decide) (by decide) (by decide)) (fun v63 e_v63 i_v63 => ?_)
            refine lv_iload hx hb dX9_layGood_172 (lv_at hl 6 rfl) ?_
            refine h_iast (j := v63.toNatClampNeg) hx hb hK hI g_a4 (by decide) rfl (iv_in (n := 39) i_v63 (by decide) (by decide)) rfl (iv_posA (so := 145) (c := 22) (d := 29) (iv_nat1 i_v63 (by decide)) (iv_nat2 i_v63 (by decide) (by decide)) (by decide)) rfl dX9_layGood_174 (fun M64 H locs e_M64 hI => ?_)
            obtain ⟨v65, e_v65⟩ : ∃ z : Int32, z = v4_3 + Int32.ofInt 1 := ⟨_, rfl⟩
            have i_v65 : iv v65 1 36 := by rw [e_v65]; exact iv_add i3 (ki_1) (by decide) (by decide) (by decide) (by decide)
            refine lv_iinc (v := v65) (lv' := [(4, .int v65), (0, .ref y), (1, .int p1), (2, .int p2), (3, .int p3), (5, .int v6), (6, .int v10)]) hx hb dX9_layGood_175 hl (k := 4) rfl e_v65.symm (by decide) rfl (fun ls hl => ?_)
            refine lv_goto (tgt := 3) hx hb dX9_layGood_178 (by decide) ?_
            have m66 : KV M R y → KV M64 R y := (fun h9 => KV_off hI.2.1 g_y ((fun h9 => KV_off hI.2.1 g_y ((fun h9 => KV_ag hI.2.1 g_y ((fun h9 => KV_ag hI.2.1 g_y ((fun h9 => KV_ag hI.2.1 g_y ((fun h9 => KV_ag hI.2.1 g_y ((fun h9 => KV_off hI.2.1 g_y ((fun h9 => KV_off hI.2.1 g_y (m_KVI_3 h9) e_M21 g_a4 (Or.inr (iv_nat1 i_v13 (by decide)))) h9) e_M32 g_a4 (Or.inr (iv_nat1 i_v24 (by decide)))) h9) (hAd.ag z_M36 (by decide))) h9) (hAd.ag z_M43 (by decide))) h9) (hAd.put e_M50 g_a47 rfl)) h9) (hAd.put e_M56 g_a47 rfl)) h9) e_M60 g_a4 (Or.inr (iv_nat1 i_v59 (by decide)))) h9) e_M64 g_a4 (Or.inr (iv_nat1 i_v63 (by decide))))
            have m67 : CW M64 R y := (CW_ag hI.2.1 g_y (CW_ag hI.2.1 g_y (CW_ag hI.2.1 g_y (CW_ag hI.2.1 g_y (CW_ag hI.2.1 g_y m41 (hAd.ag z_M43 (by decide))) (hAd.put e_M50 g_a47 rfl)) (hAd.put e_M56 g_a47 rfl)) (hAd.put e_M60 g_a4 rfl)) (hAd.put e_M64 g_a4 rfl))
            have m68 : KBp M64 R y p3 := (KBp_off (KBp_off (KBp_ag hI.2.1 g_y (KBp_ag hI.2.1 g_y (KBp_ag hI.2.1 g_y m40 (hAd.ag z_M43 (by decide))) (hAd.put e_M50 g_a47 rfl)) (hAd.put e_M56 g_a47 rfl)) h_p3 e_M60 (Or.inr (iv_nat1 i_v59 (by decide)))) h_p3 e_M64 (Or.inr (iv_nat1 i_v63 (by decide))))
            exact ih3 M64 v65 H locs ls hI (lv_sub hl [1, 2, 3, 4, 0] rfl) m66 m67 m68 (iv_w (lo' := 0) (hi' := 36) i_v65 (by decide) (by decide)) (by have h9 := (h_inc e_v65 i3 ki_1 (by decide) (by decide)); omega)
          have J145 : ∀ (H : Heap) (locs : List Loc) (ls : Array Slot), kI D g σ e_h_layGood_X9 M s.heap M50 N R H locs → lv_has ls 9 [(0, .ref y), (1, .int p1), (2, .int p2), (3, .int p3), (4, .int v4_3), (5, .int v6), (6, .int v10)] → W p l e (headSpec wsX9_layGood ({ frames := 4, cells := 0, slots := 0, locals := 91 })).room s m ar below meth c H locs 0 0 Q (F0 m 145 ls [.int v53, .ref a47]) := by
            intro H locs ls hI hl
            refine lv_iconst (v := 0) hx hb dX9_layGood_145 (by decide) ?_
            exact J146 (0 : Int32) H locs ls hI hl (iv_w (lo' := 0) (hi' := 100) kc_0 (by decide) (by decide))
          refine lv_if_le (tgt := 145) hx hb dX9_layGood_130 (by decide) (fun c69 => ?_) (fun c69 => ?_)
          · have i70 : iv r42 (-2147483648) 0 := iv_le1 c69 (iv_any r42) kc_0 (by decide)
            exact J145 H locs ls hI (lv_sub hl [0, 1, 2, 3, 4, 5, 6] rfl)
          · have i71 : iv r42 1 2147483647 := iv_nle1 c69 (iv_any r42) kc_0 (by decide)
            refine lv_iload hx hb dX9_layGood_133 (lv_at hl 8 rfl) ?_
            refine lv_iload hx hb dX9_layGood_135 (lv_at hl 7 rfl) ?_
            refine lv_icmp_le (tgt := 145) hx hb dX9_layGood_137 (by decide) (fun c72 => ?_) (fun c72 => ?_)
            · have i73 : iv r35 1 2147483647 := iv_le2 c72 i71 (iv_any r35) (by decide)
              exact J145 H locs ls hI (lv_sub hl [0, 1, 2, 3, 4, 5, 6] rfl)
            · have i74 : iv r35 (-2147483648) 2147483646 := iv_nle2 c72 i71 (iv_any r35) (by decide)
              refine lv_bipush (v := 100) hx hb dX9_layGood_140 (by decide) ?_
              refine lv_goto (tgt := 146) hx hb dX9_layGood_142 (by decide) ?_
              exact J146 (100 : Int32) H locs ls hI (lv_sub hl [0, 1, 2, 3, 4, 5, 6] rfl) (iv_w (lo' := 0) (hi' := 100) kc_100 (by decide) (by decide))
        have J111 : ∀ (H : Heap) (locs : List Loc) (ls : Array Slot), kI D g σ e_h_layGood_X9 M s.heap M43 N R H locs → lv_has ls 9 [(0, .ref y), (1, .int p1), (2, .int p2), (3, .int p3), (4, .int v4_3), (5, .int v6), (6, .int v10), (7, .int r35), (8, .int r42)] → iv r35 (-2147483648) 2147483646 → W p l e (headSpec wsX9_layGood ({ frames := 4, cells := 0, slots := 0, locals := 91 })).room s m ar below meth c H locs 0 0 Q (F0 m 111 ls [.int v4_3, .ref a47]) := by
          intro H locs ls hI hl fl7_111
          refine lv_iconst (v := 0) hx hb dX9_layGood_111 (by decide) ?_
          exact J112 (0 : Int32) H locs ls hI hl (iv_w (lo' := 0) (hi' := 100) kc_0 (by decide) (by decide))
        refine lv_if_le (tgt := 111) hx hb dX9_layGood_96 (by decide) (fun c75 => ?_) (fun c75 => ?_)
        · have i76 : iv r35 (-2147483648) 0 := iv_le1 c75 (iv_any r35) kc_0 (by decide)
          exact J111 H locs ls hI (lv_sub hl [4, 5, 6, 7, 8, 3, 2, 1, 0] rfl) (iv_w (lo' := (-2147483648)) (hi' := 2147483646) i76 (by decide) (by decide))
        · have i77 : iv r35 1 2147483647 := iv_nle1 c75 (iv_any r35) kc_0 (by decide)
          refine lv_iload hx hb dX9_layGood_99 (lv_at hl 1 rfl) ?_
          refine lv_iload hx hb dX9_layGood_101 (lv_at hl 0 rfl) ?_
          refine lv_icmp_lt (tgt := 111) hx hb dX9_layGood_103 (by decide) (fun c78 => ?_) (fun c78 => ?_)
          · have i79 : iv r35 1 2147483646 := iv_lt1 c78 i77 (iv_any r42) (by decide)
            have i80 : iv r42 2 2147483647 := iv_lt2 c78 i77 (iv_any r42) (by decide)
            exact J111 H locs ls hI (lv_sub hl [4, 5, 6, 7, 8, 3, 2, 1, 0] rfl) (iv_w (lo' := (-2147483648)) (hi' := 2147483646) i79 (by decide) (by decide))
          · refine lv_bipush (v := 100) hx hb dX9_layGood_106 (by decide) ?_
            refine lv_goto (tgt := 112) hx hb dX9_layGood_108 (by decide) ?_
            exact J112 (100 : Int32) H locs ls hI (lv_sub hl [4, 5, 6, 7, 8, 3, 2, 1, 0] rfl) (iv_w (lo' := 0) (hi' := 100) kc_100 (by decide) (by decide))
  refine lv_istore (lv' := [(4, .int (0 : Int32)), (0, .ref y), (1, .int p1), (2, .int p2), (3, .int p3)]) hx hb dX9_layGood_1 hl (by decide) rfl (fun ls hl => ?_)
  exact J3 37 M (0 : Int32) H locs ls hI (lv_sub hl [1, 2, 3, 4, 0] rfl) (fun h9 => h9) m0_CW m0_KBp (iv_w (lo' := 0) (hi' := 36) kc_0 (by decide) (by decide)) (by have h9 := kc_0; simp only [iv] at h9; omega)
abbrev e_h_bid_X9 : List (Nat × Nat) := [(9, 41), (9, 42), (9, 43), (9, 44), (9, 54), (134, 999), (145, 999), (153, 999), (156, 999)]
set_option maxHeartbeats 4000000 in
set_option maxRecDepth 100000 in
theorem h_bid_X9 (l : Launch) (D : va_G) (g : Nat → ClassId) (σ : Nat → Option Nat) (Z : State → Heap → Prop) (hZ0 : hZ σ Z) (M : hM) (N : hN) (R : hR) (y : Nat) (g_y : σ y = some 9) (p1 : Int32) (p2 : Int32) (p3 : Int32) (m0_CW : CW M R y) : Met l yX9_bid wsX9_bid ({ frames := 5, cells := 0, slots := 0, locals := 119 }) (va_Pc [.ref y, .int p1, .int p2, .int p3] (hPre D g σ Z M N R)) (hQi D g σ e_h_bid_X9 M (fun (r : Int32) (M1 : hM) (N1 : hN) (R1 : hR) => N = N1 ∧ R = R1 ∧ (KV M R y → KV M1 R y))) 0 0 (hA σ) := by
  refine h_head (cc := cX9_bid) (maxL := 6) (ret := (some .int)) (by decide) rfl (Nat.le_of_ble_eq_true rfl) e_h_bid_X9 ?_
  intro p e s m below meth c ls Q ar hQ hx hb hr hlocks hml hown hts hK hE H locs hI hl
  have hown : s.vm.findClass RX9 = some m.cls := hown
  have hl : lv_has ls 6 [(0, .ref y), (1, .int p1), (2, .int p2), (3, .int p3)] := hl
  refine lv_aload_n hx hb dX9_bid_0 rfl (lv_at hl 0 rfl) ?_
  refine lv_iconst (v := 0) hx hb dX9_bid_1 (by decide) ?_
  refine h_puti hx hb hts iX9_bid_X9 tyX9 tyX9_ok nmX9 hown hK hI g_y (by decide) rfl rfl 54 (by decide) rfl (hts (.fieldLink RX9 407 "CatLeasesModel" "laid" "I") (List.mem_of_getElem? (i := 1) rfl)) (fun _ h9 => h9) rfl .int (by decide +kernel) rfl rfl (iv_w (lo' := 0) (hi' := 7) kc_0 (by decide) (by decide)) rfl dX9_bid_2 (fun M1 H locs e_M1 hI => ?_)
  refine lv_aload_n hx hb dX9_bid_5 rfl (lv_at hl 0 rfl) ?_
  refine lv_iload_n hx hb dX9_bid_6 rfl (lv_at hl 1 rfl) ?_
  refine h_goi hI (by decide) (va_runV (As := [.int p1]) (rest := []) ⟨hx, hb, hml, hown, hts⟩ (h_isTenant_X9 l D g σ Z hZ0 M1 N R y g_y p1) (cwV 1 hts gX9_bid_X9_isTenant rfl rfl rfl (by decide +kernel) ⟨Nat.le_of_ble_eq_true rfl, Nat.le_of_ble_eq_true rfl⟩) (h_preV hZ0 hK hE hI g_y (by decide) rfl) rfl rfl hl.1 rfl (lv_room (Nat.le_of_ble_eq_true rfl)) dX9_bid_7 ⟨Nat.le_of_ble_eq_true rfl, Nat.le_of_ble_eq_true rfl⟩) (fun r2 M3 N4 R5 H locs q6 z_M3 hI => ?_)
  obtain ⟨rfl, rfl, rfl, i_r2, z7⟩ := q6
  refine lv_if_eq (tgt := 42) hx hb dX9_bid_10 (by decide) (fun c8 => ?_) (fun c8 => ?_)
  · have i9 : iv r2 0 0 := iv_eq1 c8 i_r2 kc_0
    refine lv_iconst (v := (-1)) hx hb dX9_bid_42 (by decide) ?_
    have m10 : KV M R y → KV M1 R y := (fun h9 => KV_ag hI.2.1 g_y ((fun h9 => h9) h9) (hAd.put e_M1 g_y rfl))
    exact h_iret hQ hx hb hr hlocks rfl hK hI ⟨rfl, rfl, m10⟩ dX9_bid_43
  · have i11 : iv p1 0 6 := z7 c8
    have i12 : iv r2 1 1 := iv_neL c8 i_r2 (by decide) (by decide)
    refine lv_aload_n hx hb dX9_bid_13 rfl (lv_at hl 0 rfl) ?_
    refine lv_iload_n hx hb dX9_bid_14 rfl (lv_at hl 2 rfl) ?_
    refine h_goi hI (by decide) (va_runV (As := [.int p2]) (rest := []) ⟨hx, hb, hml, hown, hts⟩ (h_isTenant_X9 l D g σ Z hZ0 M1 N R y g_y p2) (cwV 1 hts gX9_bid_X9_isTenant rfl rfl rfl (by decide +kernel) ⟨Nat.le_of_ble_eq_true rfl, Nat.le_of_ble_eq_true rfl⟩) (h_preV hZ0 hK hE hI g_y (by decide) rfl) rfl rfl hl.1 rfl (lv_room (Nat.le_of_ble_eq_true rfl)) dX9_bid_15 ⟨Nat.le_of_ble_eq_true rfl, Nat.le_of_ble_eq_true rfl⟩) (fun r13 M14 N15 R16 H locs q17 z_M14 hI => ?_)
    obtain ⟨rfl, rfl, rfl, i_r13, z18⟩ := q17
    refine lv_if_eq (tgt := 42) hx hb dX9_bid_18 (by decide) (fun c19 => ?_) (fun c19 => ?_)
    · have i20 : iv r13 0 0 := iv_eq1 c19 i_r13 kc_0
      refine lv_iconst (v := (-1)) hx hb dX9_bid_42 (by decide) ?_
      have m21 : KV M R y → KV M1 R y := (fun h9 => KV_ag hI.2.1 g_y ((fun h9 => h9) h9) (hAd.put e_M1 g_y rfl))
      exact h_iret hQ hx hb hr hlocks rfl hK hI ⟨rfl, rfl, m21⟩ dX9_bid_43
    · have i22 : iv p2 0 6 := z18 c19
      have i23 : iv r13 1 1 := iv_neL c19 i_r13 (by decide) (by decide)
      refine lv_iload_n hx hb dX9_bid_21 rfl (lv_at hl 1 rfl) ?_
      refine lv_iload_n hx hb dX9_bid_22 rfl (lv_at hl 2 rfl) ?_
      refine lv_icmp_eq (tgt := 42) hx hb dX9_bid_23 (by decide) (fun c24 => ?_) (fun c24 => ?_)
      · refine lv_iconst (v := (-1)) hx hb dX9_bid_42 (by decide) ?_
        have m25 : KV M R y → KV M1 R y := (fun h9 => KV_ag hI.2.1 g_y ((fun h9 => h9) h9) (hAd.put e_M1 g_y rfl))
        exact h_iret hQ hx hb hr hlocks rfl hK hI ⟨rfl, rfl, m25⟩ dX9_bid_43
      · refine lv_aload_n hx hb dX9_bid_26 rfl (lv_at hl 0 rfl) ?_
        refine lv_iload_n hx hb dX9_bid_27 rfl (lv_at hl 1 rfl) ?_
        refine h_goi hI (by decide) (va_runV (As := [.int p1]) (rest := []) ⟨hx, hb, hml, hown, hts⟩ (h_isOut_X9 l D g σ Z hZ0 M1 N R y g_y p1 i11) (cwV 1 hts gX9_bid_X9_isOut rfl rfl rfl (by decide +kernel) ⟨Nat.le_of_ble_eq_true rfl, Nat.le_of_ble_eq_true rfl⟩) (h_preV hZ0 hK hE hI g_y (by decide) rfl) rfl rfl hl.1 rfl (lv_room (Nat.le_of_ble_eq_true rfl)) dX9_bid_28 ⟨Nat.le_of_ble_eq_true rfl, Nat.le_of_ble_eq_true rfl⟩) (fun r26 M27 N28 R29 H locs q30 z_M27 hI => ?_)
        obtain ⟨rfl, rfl, rfl, i_r26, z31⟩ := q30
        refine lv_if_eq (tgt := 42) hx hb dX9_bid_31 (by decide) (fun c32 => ?_) (fun c32 => ?_)
        · have i33 := z31 c32
          have i34 : iv r26 0 0 := iv_eq1 c32 i_r26 kc_0
          refine lv_iconst (v := (-1)) hx hb dX9_bid_42 (by decide) ?_
          have m35 : KV M R y → KV M1 R y := (fun h9 => KV_ag hI.2.1 g_y ((fun h9 => h9) h9) (hAd.put e_M1 g_y rfl))
          exact h_iret hQ hx hb hr hlocks rfl hK hI ⟨rfl, rfl, m35⟩ dX9_bid_43
        · have i36 : iv r26 1 1 := iv_neL c32 i_r26 (by decide) (by decide)
          refine lv_aload_n hx hb dX9_bid_34 rfl (lv_at hl 0 rfl) ?_
          refine lv_iload_n hx hb dX9_bid_35 rfl (lv_at hl 2 rfl) ?_
          refine h_goi hI (by decide) (va_runV (As := [.int p2]) (rest := []) ⟨hx, hb, hml, hown, hts⟩ (h_isOut_X9 l D g σ Z hZ0 M1 N R y g_y p2 i22) (cwV 1 hts gX9_bid_X9_isOut rfl rfl rfl (by decide +kernel) ⟨Nat.le_of_ble_eq_true rfl, Nat.le_of_ble_eq_true rfl⟩) (h_preV hZ0 hK hE hI g_y (by decide) rfl) rfl rfl hl.1 rfl (lv_room (Nat.le_of_ble_eq_true rfl)) dX9_bid_36 ⟨Nat.le_of_ble_eq_true rfl, Nat.le_of_ble_eq_true rfl⟩) (fun r37 M38 N39 R40 H locs q41 z_M38 hI => ?_)
          obtain ⟨rfl, rfl, rfl, i_r37, z42⟩ := q41
          refine lv_if_ne (tgt := 44) hx hb dX9_bid_39 (by decide) (fun c43 => ?_) (fun c43 => ?_)
          · have i44 : iv r37 1 1 := iv_neL c43 i_r37 (by decide) (by decide)
            refine lv_aload_n hx hb dX9_bid_44 rfl (lv_at hl 0 rfl) ?_
            refine lv_iload_n hx hb dX9_bid_45 rfl (lv_at hl 3 rfl) ?_
            refine h_goi hI (by decide) (va_runV (As := [.int p3]) (rest := []) ⟨hx, hb, hml, hown, hts⟩ (h_isRoom_X9 l D g σ Z hZ0 M1 N R y g_y p3) (cwV 1 hts gX9_bid_X9_isRoom rfl rfl rfl (by decide +kernel) ⟨Nat.le_of_ble_eq_true rfl, Nat.le_of_ble_eq_true rfl⟩) (h_preV hZ0 hK hE hI g_y (by decide) rfl) rfl rfl hl.1 rfl (lv_room (Nat.le_of_ble_eq_true rfl)) dX9_bid_46 ⟨Nat.le_of_ble_eq_true rfl, Nat.le_of_ble_eq_true rfl⟩) (fun r45 M46 N47 R48 H locs q49 z_M46 hI => ?_)
            obtain ⟨rfl, rfl, rfl, i_r45, z50⟩ := q49
            refine lv_if_eq (tgt := 68) hx hb dX9_bid_49 (by decide) (fun c51 => ?_) (fun c51 => ?_)
            · have i52 : iv r45 0 0 := iv_eq1 c51 i_r45 kc_0
              refine lv_iconst (v := (-1)) hx hb dX9_bid_68 (by decide) ?_
              have m53 : KV M R y → KV M1 R y := (fun h9 => KV_ag hI.2.1 g_y ((fun h9 => h9) h9) (hAd.put e_M1 g_y rfl))
              exact h_iret hQ hx hb hr hlocks rfl hK hI ⟨rfl, rfl, m53⟩ dX9_bid_69
            · have i54 : iv p3 0 7 := z50 c51
              have i55 : iv r45 1 1 := iv_neL c51 i_r45 (by decide) (by decide)
              refine lv_aload_n hx hb dX9_bid_52 rfl (lv_at hl 0 rfl) ?_
              refine lv_iload_n hx hb dX9_bid_53 rfl (lv_at hl 3 rfl) ?_
              refine h_goi hI (by decide) (va_runV (As := [.int p3]) (rest := []) ⟨hx, hb, hml, hown, hts⟩ (h_whoIn_X9 l D g σ Z hZ0 M1 N R y g_y p3) (cwV 1 hts gX9_bid_X9_whoIn rfl rfl rfl (by decide +kernel) ⟨Nat.le_of_ble_eq_true rfl, Nat.le_of_ble_eq_true rfl⟩) (h_preV hZ0 hK hE hI g_y (by decide) rfl) rfl rfl hl.1 rfl (lv_room (Nat.le_of_ble_eq_true rfl)) dX9_bid_54 ⟨Nat.le_of_ble_eq_true rfl, Nat.le_of_ble_eq_true rfl⟩) (fun r56 M57 N58 R59 H locs q60 z_M57 hI => ?_)
              obtain ⟨rfl, rfl, rfl, i_r56⟩ := q60
              refine lv_if_ge (tgt := 68) hx hb dX9_bid_57 (by decide) (fun c61 => ?_) (fun c61 => ?_)
              · have i62 : iv r56 0 6 := iv_le2 c61 kc_0 i_r56 (by decide)
                refine lv_iconst (v := (-1)) hx hb dX9_bid_68 (by decide) ?_
                have m63 : KV M R y → KV M1 R y := (fun h9 => KV_ag hI.2.1 g_y ((fun h9 => h9) h9) (hAd.put e_M1 g_y rfl))
                exact h_iret hQ hx hb hr hlocks rfl hK hI ⟨rfl, rfl, m63⟩ dX9_bid_69
              · have i64 : iv r56 (-1) (-1) := iv_nle2 c61 kc_0 i_r56 (by decide)
                refine lv_aload_n hx hb dX9_bid_60 rfl (lv_at hl 0 rfl) ?_
                refine lv_iload_n hx hb dX9_bid_61 rfl (lv_at hl 3 rfl) ?_
                refine h_goi hI (by decide) (va_runV (As := [.int p3]) (rest := []) ⟨hx, hb, hml, hown, hts⟩ (h_keeperOf_X9 l D g σ Z hZ0 M1 N R y g_y p3 i54) (cwV 1 hts gX9_bid_X9_keeperOf rfl rfl rfl (by decide +kernel) ⟨Nat.le_of_ble_eq_true rfl, Nat.le_of_ble_eq_true rfl⟩) (h_preV hZ0 hK hE hI g_y (by decide) rfl) rfl rfl hl.1 rfl (lv_room (Nat.le_of_ble_eq_true rfl)) dX9_bid_62 ⟨Nat.le_of_ble_eq_true rfl, Nat.le_of_ble_eq_true rfl⟩) (fun r65 M66 N67 R68 H locs q69 z_M66 hI => ?_)
                obtain ⟨rfl, rfl, rfl, i_r65, z70⟩ := q69
                refine lv_if_ge (tgt := 70) hx hb dX9_bid_65 (by decide) (fun c71 => ?_) (fun c71 => ?_)
                · have i72 : iv r65 0 5 := iv_le2 c71 kc_0 i_r65 (by decide)
                  refine lv_aload_n hx hb dX9_bid_70 rfl (lv_at hl 0 rfl) ?_
                  refine lv_iload_n hx hb dX9_bid_71 rfl (lv_at hl 1 rfl) ?_
                  refine lv_iload_n hx hb dX9_bid_72 rfl (lv_at hl 2 rfl) ?_
                  refine lv_iload_n hx hb dX9_bid_73 rfl (lv_at hl 3 rfl) ?_
                  have i73 : iv (M1 (R y 45) ((14 : Int32) + p3).toNatClampNeg) 0 5 := by rw [← z70]; exact i72
                  have m74 : KBp M1 R y p3 := i73
                  have m75 : CW M1 R y := (CW_ag hI.2.1 g_y m0_CW (hAd.put e_M1 g_y rfl))
                  refine h_gov hI (by decide) (va_runV (As := [.int p1, .int p2, .int p3]) (rest := []) ⟨hx, hb, hml, hown, hts⟩ (h_layGood_X9 l D g σ Z hZ0 M1 N R y g_y p1 i11 p2 i22 p3 i54 m75 m74) (cwV 3 hts gX9_bid_X9_layGood rfl rfl rfl (by decide +kernel) ⟨Nat.le_of_ble_eq_true rfl, Nat.le_of_ble_eq_true rfl⟩) (h_preV hZ0 hK hE hI g_y (by decide) rfl) rfl rfl hl.1 rfl (lv_room (Nat.le_of_ble_eq_true rfl)) dX9_bid_74 ⟨Nat.le_of_ble_eq_true rfl, Nat.le_of_ble_eq_true rfl⟩) (fun M77 N78 R79 H locs q80 z_M77 hI => ?_)
                  obtain ⟨rfl, rfl, m81⟩ := q80
                  refine lv_iconst (v := 0) hx hb dX9_bid_77 (by decide) ?_
                  refine lv_istore (lv' := [(4, .int (0 : Int32)), (0, .ref y), (1, .int p1), (2, .int p2), (3, .int p3)]) hx hb dX9_bid_78 hl (by decide) rfl (fun ls hl => ?_)
                  refine lv_iconst (v := 0) hx hb dX9_bid_80 (by decide) ?_
                  have J83 : ∀ (n : Nat) (M_83 : hM) (v4_83 : Int32) (v5_83 : Int32) (H : Heap) (locs : List Loc) (ls : Array Slot), kI D g σ e_h_bid_X9 M s.heap M_83 N R H locs → lv_has ls 6 [(0, .ref y), (4, .int v4_83), (5, .int v5_83)] → (KV M R y → KV M_83 R y) → CW M_83 R y → iv v5_83 0 36 → 37 ≤ v5_83.toInt + (n : Int) → W p l e (headSpec wsX9_bid ({ frames := 5, cells := 0, slots := 0, locals := 119 })).room s m ar below meth c H locs 0 0 Q (F0 m 83 ls []) := by
                    intro n
                    induction n with
                    | zero => intro M_83 v4_83 v5_83 H locs ls hI hl m_KVI_83 m_CW_83 i_v5_83 hn; exfalso; have hz := i_v5_83; simp only [iv] at hz; omega
                    | succ n ih83 =>
                      intro M_83 v4_83 v5_83 H locs ls hI hl m_KVI_83 m_CW_83 i_v5_83 hn83
                      refine lv_iload hx hb dX9_bid_83 (lv_at hl 2 rfl) ?_
                      refine lv_bipush (v := 36) hx hb dX9_bid_85 (by decide) ?_
                      refine lv_icmp_ge (tgt := 143) hx hb dX9_bid_87 (by decide) (fun c82 => ?_) (fun c82 => ?_)
                      · have i83 : iv v5_83 36 36 := iv_le2 c82 kc_36 i_v5_83 (by decide)
                        refine lv_iload hx hb dX9_bid_143 (lv_at hl 1 rfl) ?_
                        exact h_iret hQ hx hb hr hlocks rfl hK hI ⟨rfl, rfl, m_KVI_83⟩ dX9_bid_145
                      · have i84 : iv v5_83 0 35 := iv_nle2 c82 kc_36 i_v5_83 (by decide)
                        refine lv_aload_n hx hb dX9_bid_90 rfl (lv_at hl 0 rfl) ?_
                        refine lv_iload hx hb dX9_bid_91 (lv_at hl 2 rfl) ?_
                        refine h_goi hI (by decide) (va_runV (As := [.int v5_83]) (rest := []) ⟨hx, hb, hml, hown, hts⟩ (h_isRest_X9 l D g σ Z hZ0 M_83 N R y g_y v5_83 i84) (cwV 1 hts gX9_bid_X9_isRest rfl rfl rfl (by decide +kernel) ⟨Nat.le_of_ble_eq_true rfl, Nat.le_of_ble_eq_true rfl⟩) (h_preV hZ0 hK hE hI g_y (by decide) rfl) rfl rfl hl.1 rfl (lv_room (Nat.le_of_ble_eq_true rfl)) dX9_bid_93 ⟨Nat.le_of_ble_eq_true rfl, Nat.le_of_ble_eq_true rfl⟩) (fun r85 M86 N87 R88 H locs q89 z_M86 hI => ?_)
                        obtain ⟨rfl, rfl, rfl, i_r85⟩ := q89
                        have J137 : ∀ (M_137 : hM) (v4_137 : Int32) (H : Heap) (locs : List Loc) (ls : Array Slot), kI D g σ e_h_bid_X9 M s.heap M_137 N R H locs → lv_has ls 6 [(0, .ref y), (4, .int v4_137), (5, .int v5_83)] → (KV M R y → KV M_137 R y) → CW M_137 R y → W p l e (headSpec wsX9_bid ({ frames := 5, cells := 0, slots := 0, locals := 119 })).room s m ar below meth c H locs 0 0 Q (F0 m 137 ls []) := by
                          intro M_137 v4_137 H locs ls hI hl m_KVI_137 m_CW_137
                          obtain ⟨v90, e_v90⟩ : ∃ z : Int32, z = v5_83 + Int32.ofInt 1 := ⟨_, rfl⟩
                          have i_v90 : iv v90 1 36 := by rw [e_v90]; exact iv_add i84 (ki_1) (by decide) (by decide) (by decide) (by decide)
                          refine lv_iinc (v := v90) (lv' := [(5, .int v90), (0, .ref y), (4, .int v4_137)]) hx hb dX9_bid_137 hl (k := 2) rfl e_v90.symm (by decide) rfl (fun ls hl => ?_)
                          refine lv_goto (tgt := 83) hx hb dX9_bid_140 (by decide) ?_
                          exact ih83 M_137 v4_137 v90 H locs ls hI (lv_sub hl [1, 2, 0] rfl) m_KVI_137 m_CW_137 (iv_w (lo' := 0) (hi' := 36) i_v90 (by decide) (by decide)) (by have h9 := (h_inc e_v90 i84 ki_1 (by decide) (by decide)); omega)
                        refine lv_if_ne (tgt := 102) hx hb dX9_bid_96 (by decide) (fun c91 => ?_) (fun c91 => ?_)
                        · have i92 : iv r85 1 1 := iv_neL c91 i_r85 (by decide) (by decide)
                          refine lv_iload hx hb dX9_bid_102 (lv_at hl 1 rfl) ?_
                          have J134 : ∀ (M_134 : hM) (H : Heap) (locs : List Loc) (ls : Array Slot), kI D g σ e_h_bid_X9 M s.heap M_134 N R H locs → lv_has ls 6 [(0, .ref y), (4, .int v4_83), (5, .int v5_83)] → (KV M R y → KV M_134 R y) → CW M_134 R y → W p l e (headSpec wsX9_bid ({ frames := 5, cells := 0, slots := 0, locals := 119 })).room s m ar below meth c H locs 0 0 Q (F0 m 134 ls []) := by
                            intro M_134 H locs ls hI hl m_KVI_134 m_CW_134
                            obtain ⟨v93, e_v93⟩ : ∃ z : Int32, z = v4_83 + Int32.ofInt 1 := ⟨_, rfl⟩
                            refine lv_iinc (v := v93) (lv' := [(4, .int v93), (0, .ref y), (5, .int v5_83)]) hx hb dX9_bid_134 hl (k := 1) rfl e_v93.symm (by decide) rfl (fun ls hl => ?_)
                            exact J137 M_134 v93 H locs ls hI (lv_sub hl [1, 0, 2] rfl) m_KVI_134 m_CW_134
                          refine lv_if_ne (tgt := 134) hx hb dX9_bid_104 (by decide) (fun c94 => ?_) (fun c94 => ?_)
                          · exact J134 M_83 H locs ls hI hl m_KVI_83 m_CW_83
                          · have i95 : iv v4_83 0 0 := iv_eq1 c94 (iv_any v4_83) kc_0
                            refine lv_aload_n hx hb dX9_bid_107 rfl (lv_at hl 0 rfl) ?_
                            refine h_getr hx hb hts iX9_bid_X9 hown hK hI g_y (by decide) rfl rfl 53 (by decide) rfl 153 rfl (hts (.fieldLink RX9 112 "CatLeasesModel" "laidRow" "[I") (List.mem_of_getElem? (i := 2) rfl)) (fun _ h9 => h9) dX9_bid_108 (fun a96 e_a96 g_a96 => ?_)
                            refine lv_iconst (v := 0) hx hb dX9_bid_111 (by decide) ?_
                            refine lv_iload hx hb dX9_bid_112 (lv_at hl 2 rfl) ?_
                            refine lv_bipush (v := 6) hx hb dX9_bid_114 (by decide) ?_
                            refine lv_idiv hx hb dX9_bid_116 (by decide) ?_
                            refine h_nm (lo := 0) (hi := 5) (iv_div 6 i84 (by decide) (by decide) (by decide) (by decide)) (fun v97 e_v97 i_v97 => ?_)
                            refine h_iast (j := 0) hx hb hK hI g_a96 (by decide) rfl (iv_in (n := 7) kc_0 (by decide) (by decide)) (by decide) (iv_any _) rfl dX9_bid_117 (fun M98 H locs e_M98 hI => ?_)
                            refine lv_aload_n hx hb dX9_bid_118 rfl (lv_at hl 0 rfl) ?_
                            refine h_getr hx hb hts iX9_bid_X9 hown hK hI g_y (by decide) rfl rfl 53 (by decide) rfl 153 rfl (hts (.fieldLink RX9 112 "CatLeasesModel" "laidRow" "[I") (List.mem_of_getElem? (i := 2) rfl)) (fun _ h9 => h9) dX9_bid_119 (fun a99 e_a99 g_a99 => ?_)
                            have q100 : a96 = a99 := (e_a96).trans e_a99.symm
                            subst q100
                            refine lv_iconst (v := 1) hx hb dX9_bid_122 (by decide) ?_
                            refine lv_iload hx hb dX9_bid_123 (lv_at hl 2 rfl) ?_
                            refine lv_bipush (v := 6) hx hb dX9_bid_125 (by decide) ?_
                            refine lv_irem hx hb dX9_bid_127 (by decide) ?_
                            refine h_nm (lo := 0) (hi := 5) (iv_rem i84 kc_6 (by decide) (by decide) (by decide)) (fun v101 e_v101 i_v101 => ?_)
                            refine h_iast (j := 1) hx hb hK hI g_a96 (by decide) rfl (iv_in (n := 7) kc_1 (by decide) (by decide)) (by decide) (iv_any _) rfl dX9_bid_128 (fun M102 H locs e_M102 hI => ?_)
                            refine lv_aload_n hx hb dX9_bid_129 rfl (lv_at hl 0 rfl) ?_
                            refine lv_iconst (v := 2) hx hb dX9_bid_130 (by decide) ?_
                            refine h_puti hx hb hts iX9_bid_X9 tyX9 tyX9_ok nmX9 hown hK hI g_y (by decide) rfl rfl 54 (by decide) rfl (hts (.fieldLink RX9 407 "CatLeasesModel" "laid" "I") (List.mem_of_getElem? (i := 1) rfl)) (fun _ h9 => h9) rfl .int (by decide +kernel) rfl rfl (iv_w (lo' := 0) (hi' := 7) kc_2 (by decide) (by decide)) rfl dX9_bid_131 (fun M103 H locs e_M103 hI => ?_)
                            have m104 : KV M R y → KV M103 R y := (fun h9 => KV_ag hI.2.1 g_y ((fun h9 => KV_ag hI.2.1 g_y ((fun h9 => KV_ag hI.2.1 g_y (m_KVI_83 h9) (hAd.put e_M98 g_a96 rfl)) h9) (hAd.put e_M102 g_a96 rfl)) h9) (hAd.put e_M103 g_y rfl))
                            have m105 : CW M103 R y := (CW_ag hI.2.1 g_y (CW_ag hI.2.1 g_y (CW_ag hI.2.1 g_y m_CW_83 (hAd.put e_M98 g_a96 rfl)) (hAd.put e_M102 g_a96 rfl)) (hAd.put e_M103 g_y rfl))
                            exact J134 M103 H locs ls hI hl m104 m105
                        · have i106 : iv r85 0 0 := iv_eq1 c91 i_r85 kc_0
                          refine lv_goto (tgt := 137) hx hb dX9_bid_99 (by decide) ?_
                          exact J137 M_83 v4_83 H locs ls hI hl m_KVI_83 m_CW_83
                  refine lv_istore (lv' := [(5, .int (0 : Int32)), (4, .int (0 : Int32)), (0, .ref y), (1, .int p1), (2, .int p2), (3, .int p3)]) hx hb dX9_bid_81 hl (by decide) rfl (fun ls hl => ?_)
                  have m107 : KV M R y → KV M77 R y := (fun h9 => m81 ((fun h9 => KV_ag hI.2.1 g_y ((fun h9 => h9) h9) (hAd.put e_M1 g_y rfl)) h9))
                  have m108 : CW M77 R y := (CW_ag hI.2.1 g_y m75 (hAd.ag z_M77 (by decide)))
                  exact J83 37 M77 (0 : Int32) (0 : Int32) H locs ls hI (lv_sub hl [2, 1, 0] rfl) m107 m108 (iv_w (lo' := 0) (hi' := 36) kc_0 (by decide) (by decide)) (by have h9 := kc_0; simp only [iv] at h9; omega)
                · have i109 : iv r65 (-1) (-1) := iv_nle2 c71 kc_0 i_r65 (by decide)
                  refine lv_iconst (v := (-1)) hx hb dX9_bid_68 (by decide) ?_
                  have m110 : KV M R y → KV M1 R y := (fun h9 => KV_ag hI.2.1 g_y ((fun h9 => h9) h9) (hAd.put e_M1 g_y rfl))
                  exact h_iret hQ hx hb hr hlocks rfl hK hI ⟨rfl, rfl, m110⟩ dX9_bid_69
          · have i111 := z42 c43
            have i112 : iv r37 0 0 := iv_eq1 c43 i_r37 kc_0
            refine lv_iconst (v := (-1)) hx hb dX9_bid_42 (by decide) ?_
            have m113 : KV M R y → KV M1 R y := (fun h9 => KV_ag hI.2.1 g_y ((fun h9 => h9) h9) (hAd.put e_M1 g_y rfl))
            exact h_iret hQ hx hb hr hlocks rfl hK hI ⟨rfl, rfl, m113⟩ dX9_bid_43
abbrev e_h_goOut_X9 : List (Nat × Nat) := [(145, 999)]
set_option maxHeartbeats 4000000 in
set_option maxRecDepth 100000 in
theorem h_goOut_X9 (l : Launch) (D : va_G) (g : Nat → ClassId) (σ : Nat → Option Nat) (Z : State → Heap → Prop) (hZ0 : hZ σ Z) (M : hM) (N : hN) (R : hR) (y : Nat) (g_y : σ y = some 9) (p1 : Int32) (h_p1 : iv p1 0 6) : Met l yX9_goOut wsX9_goOut ({ frames := 0, cells := 0, slots := 0, locals := 0 }) (va_Pc [.ref y, .int p1] (hPre D g σ Z M N R)) (hQv D g σ e_h_goOut_X9 M (fun (M1 : hM) (N1 : hN) (R1 : hR) => N = N1 ∧ R = R1 ∧ (KV M R y → KV M1 R y))) 0 0 (hA σ) := by
  refine h_head (cc := cX9_goOut) (maxL := 2) (ret := none) (by decide) rfl (Nat.le_of_ble_eq_true rfl) e_h_goOut_X9 ?_
  intro p e s m below meth c ls Q ar hQ hx hb hr hlocks hml hown hts hK hE H locs hI hl
  have hown : s.vm.findClass RX9 = some m.cls := hown
  have hl : lv_has ls 2 [(0, .ref y), (1, .int p1)] := hl
  refine lv_aload_n hx hb dX9_goOut_0 rfl (lv_at hl 0 rfl) ?_
  refine h_getr hx hb hts iX9_goOut_X9 hown hK hI g_y (by decide) rfl rfl 45 (by decide) rfl 145 rfl (hts (.fieldLink RX9 94 "CatLeasesModel" "all" "[I") (List.mem_of_getElem? (i := 1) rfl)) (fun _ h9 => h9) dX9_goOut_1 (fun a1 e_a1 g_a1 => ?_)
  refine lv_iconst (v := 0) hx hb dX9_goOut_4 (by decide) ?_
  refine lv_iload_n hx hb dX9_goOut_5 rfl (lv_at hl 1 rfl) ?_
  refine lv_iadd hx hb dX9_goOut_6 ?_
  refine k_top (v := p1) (Int32.zero_add _) ?_
  refine lv_iconst (v := (-1)) hx hb dX9_goOut_7 (by decide) ?_
  refine h_iast (j := p1.toNatClampNeg) hx hb hK hI g_a1 (by decide) rfl (iv_in (n := 39) h_p1 (by decide) (by decide)) rfl (iv_pos (so := 145) (c := 0) (d := 7) (lo := (-1)) (hi := 7) (iv_w (lo' := (-1)) (hi' := 7) kc_m1 (by decide) (by decide)) (iv_nat1 h_p1 (by decide)) (iv_nat2 h_p1 (by decide) (by decide)) (by decide)) rfl dX9_goOut_8 (fun M2 H locs e_M2 hI => ?_)
  refine lv_aload_n hx hb dX9_goOut_9 rfl (lv_at hl 0 rfl) ?_
  refine h_getr hx hb hts iX9_goOut_X9 hown hK hI g_y (by decide) rfl rfl 45 (by decide) rfl 145 rfl (hts (.fieldLink RX9 94 "CatLeasesModel" "all" "[I") (List.mem_of_getElem? (i := 1) rfl)) (fun _ h9 => h9) dX9_goOut_10 (fun a3 e_a3 g_a3 => ?_)
  have q4 : a1 = a3 := (e_a1).trans e_a3.symm
  subst q4
  refine lv_bipush (v := 7) hx hb dX9_goOut_13 (by decide) ?_
  refine lv_iload_n hx hb dX9_goOut_15 rfl (lv_at hl 1 rfl) ?_
  refine lv_iadd hx hb dX9_goOut_16 ?_
  refine h_nm (lo := 7) (hi := 13) (iv_add kc_7 h_p1 (by decide) (by decide) (by decide) (by decide)) (fun v5 e_v5 i_v5 => ?_)
  refine lv_iconst (v := 0) hx hb dX9_goOut_17 (by decide) ?_
  refine h_iast (j := v5.toNatClampNeg) hx hb hK hI g_a1 (by decide) rfl (iv_in (n := 39) i_v5 (by decide) (by decide)) rfl (iv_posA (so := 145) (c := 7) (d := 14) (iv_nat1 i_v5 (by decide)) (iv_nat2 i_v5 (by decide) (by decide)) (by decide)) rfl dX9_goOut_18 (fun M6 H locs e_M6 hI => ?_)
  have m7 : KV M R y → KV M6 R y := (fun h9 => KV_off hI.2.1 g_y ((fun h9 => KV_off hI.2.1 g_y ((fun h9 => h9) h9) e_M2 g_a1 (Or.inl (iv_nat2 h_p1 (by decide) (by decide)))) h9) e_M6 g_a1 (Or.inl (iv_nat2 i_v5 (by decide) (by decide))))
  exact h_vret hQ hx hb hr hlocks hK hI ⟨rfl, rfl, m7⟩ dX9_goOut_19
