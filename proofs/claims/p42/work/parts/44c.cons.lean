abbrev e_h_e_X9 : List (Nat × Nat) := [(9, 4), (9, 5), (9, 6), (9, 7), (9, 8), (9, 9), (9, 37), (9, 38), (9, 39), (9, 40), (114, 999), (130, 999), (131, 999), (132, 999), (133, 999)]
set_option maxHeartbeats 4000000 in
set_option maxRecDepth 100000 in
theorem h_e_X9 (l : Launch) (D : va_G) (g : Nat → ClassId) (σ : Nat → Option Nat) (Z : State → Heap → Prop) (hZ0 : hZ σ Z) (M : hM) (N : hN) (R : hR) (y : Nat) (g_y : σ y = some 9) (m0_PI : PI M y) (hc9 : (M y 37).toInt = 560 * (M y 36).toInt) (hu9 : M y 40 = 0) : Met l yX9_e wsX9_e ({ frames := 4, cells := 0, slots := 0, locals := 86 }) (va_Pc [.ref y] (hPre D g σ Z M N R)) (hQv D g σ e_h_e_X9 M (fun (M1 : hM) (N1 : hN) (R1 : hR) => R = R1 ∧ (PI M1 y) ∧ (PN M M1 y) ∧ (PC M M1 R y) ∧ (M1 y 4 = 0 → OE M1 R y))) 0 0 (hA σ) := by
  refine h_head (cc := cX9_e) (maxL := 2) (ret := none) (by decide) rfl (Nat.le_of_ble_eq_true rfl) e_h_e_X9 ?_
  intro p e s m below meth c ls Q ar hQ hx hb hr hlocks hml hown hts hK hE H locs hI hl
  have hown : s.vm.findClass RX9 = some m.cls := hown
  have hl : lv_has ls 2 [(0, .ref y)] := hl
  have m36 : iv (M y 36) 0 1 := (hI.iv1 (a := y) (j := 36) (lo := 0) (hi := 1) (n := 67) g_y rfl (by decide) rfl)
  refine lv_aload_n hx hb dX9_e_0 rfl (lv_at hl 0 rfl) ?_
  refine lv_iconst (v := 0) hx hb dX9_e_1 (by decide) ?_
  refine h_puti hx hb hts iX9_e_X9 tyX9 tyX9_ok nmX9 hown hK hI g_y (by decide) rfl rfl 39 (by decide) rfl (hts (.fieldLink RX9 327 "CatLeasesModel" "piled" "I") (List.mem_of_getElem? (i := 1) rfl)) (fun _ h9 => h9) rfl .int (by decide +kernel) rfl rfl (iv_w (lo' := 0) (hi' := 90) kc_0 (by decide) (by decide)) rfl dX9_e_2 (fun M1 H locs e_M1 hI => ?_)
  refine lv_aload_n hx hb dX9_e_5 rfl (lv_at hl 0 rfl) ?_
  refine lv_iconst (v := 0) hx hb dX9_e_6 (by decide) ?_
  refine h_puti hx hb hts iX9_e_X9 tyX9 tyX9_ok nmX9 hown hK hI g_y (by decide) rfl rfl 38 (by decide) rfl (hts (.fieldLink RX9 330 "CatLeasesModel" "within" "I") (List.mem_of_getElem? (i := 2) rfl)) (fun _ h9 => h9) rfl .int (by decide +kernel) rfl rfl (iv_w (lo' := (-2147483648)) (hi' := 2147483647) kc_0 (by decide) (by decide)) rfl dX9_e_7 (fun M2 H locs e_M2 hI => ?_)
  refine lv_aload_n hx hb dX9_e_10 rfl (lv_at hl 0 rfl) ?_
  refine lv_bipush (v := 8) hx hb dX9_e_11 (by decide) ?_
  refine lv_iconst (v := 0) hx hb dX9_e_13 (by decide) ?_
  refine h_gov hI (by decide) (va_runV (As := [.int (8 : Int32), .int (0 : Int32)]) (rest := []) ⟨hx, hb, hml, hown, hts⟩ (h_pushE_X9 l D g σ Z hZ0 M2 N R y g_y (8 : Int32) (0 : Int32) (iv_39 (((u2_wr e_M1)).trans (u2_st (a := y) (k := 39) e_M2 (u2_k (by decide))).symm) (iv_w (lo' := 0) (hi' := 89) kc_0 (by decide) (by decide)))) (cwV 2 hts gX9_e_X9_pushE rfl rfl rfl (by decide +kernel) ⟨Nat.le_of_ble_eq_true rfl, Nat.le_of_ble_eq_true rfl⟩) (h_preV hZ0 hK hE hI g_y (by decide) rfl) rfl rfl hl.1 rfl (lv_room (Nat.le_of_ble_eq_true rfl)) dX9_e_14 ⟨Nat.le_of_ble_eq_true rfl, Nat.le_of_ble_eq_true rfl⟩) (fun M4 N5 R6 H locs q7 z_M4 hI => ?_)
  obtain ⟨rfl, rfl, z8⟩ := q7
  have x9 : EX1 M4 R y := EX1_start (M := M) ((z_M4 y 9 36 g_y rfl).trans ((u2_st (a := y) (k := 36) e_M2 (u2_k (by decide))).trans (u2_st (a := y) (k := 36) e_M1 (u2_k (by decide))))) ((z_M4 y 9 37 g_y rfl).trans ((u2_st (a := y) (k := 37) e_M2 (u2_k (by decide))).trans (u2_st (a := y) (k := 37) e_M1 (u2_k (by decide))))) ((z_M4 y 9 40 g_y rfl).trans ((u2_st (a := y) (k := 40) e_M2 (u2_k (by decide))).trans (u2_st (a := y) (k := 40) e_M1 (u2_k (by decide))))) m36 hc9 hu9 ((((u2_wr e_M2)).trans (z_M4 y 9 38 g_y rfl).symm)).symm (by rw [z8.1, ← (((u2_wr e_M1)).trans (u2_st (a := y) (k := 39) e_M2 (u2_k (by decide))).symm)]; decide) (by rw [z8.2.1 0, if_pos (by rw [← (((u2_wr e_M1)).trans (u2_st (a := y) (k := 39) e_M2 (u2_k (by decide))).symm)]; decide)])
  refine lv_iconst (v := 1) hx hb dX9_e_17 (by decide) ?_
  have J19 : ∀ (n : Nat) (M_19 : hM) (N_19 : hN) (v1_19 : Int32) (H : Heap) (locs : List Loc) (ls : Array Slot), kI D g σ e_h_e_X9 M s.heap M_19 N_19 R H locs → lv_has ls 2 [(0, .ref y), (1, .int v1_19)] → PI M_19 y → PN M M_19 y → PC M M_19 R y → iv v1_19 0 1 → (M_19 y 4 = 0 → EZ M_19 R y v1_19) → gm M_19 y < (n : Int) → W p l e (headSpec wsX9_e ({ frames := 4, cells := 0, slots := 0, locals := 86 })).room s m ar below meth c H locs 0 0 Q (F0 m 19 ls []) := by
    intro n
    induction n with
    | zero => intro M_19 N_19 v1_19 H locs ls hI hl m_PI_19 m_PN_19 m_PC_19 i_v1_19 hz_19 hn; exfalso; have hz := gm_nn m_PI_19 (hI.iv1 (a := y) (j := 39) (lo := 0) (hi := 90) (n := 67) g_y rfl (by decide) rfl); omega
    | succ n ih19 =>
      intro M_19 N_19 v1_19 H locs ls hI hl m_PI_19 m_PN_19 m_PC_19 i_v1_19 hz_19 hn19
      refine lv_aload_n hx hb dX9_e_19 rfl (lv_at hl 0 rfl) ?_
      refine h_goi hI (by decide) (va_runV (As := []) (rest := []) ⟨hx, hb, hml, hown, hts⟩ (h_isGood_X9 l D g σ Z hZ0 M_19 N_19 R y g_y) (cwV 0 hts gX9_e_X9_isGood rfl rfl rfl (by decide +kernel) ⟨Nat.le_of_ble_eq_true rfl, Nat.le_of_ble_eq_true rfl⟩) (h_preV hZ0 hK hE hI g_y (by decide) rfl) rfl rfl hl.1 rfl (lv_room (Nat.le_of_ble_eq_true rfl)) dX9_e_20 ⟨Nat.le_of_ble_eq_true rfl, Nat.le_of_ble_eq_true rfl⟩) (fun r9 M10 N11 R12 H locs q13 z_M10 hI => ?_)
      obtain ⟨rfl, rfl, rfl, i_r9, z14, z15⟩ := q13
      refine lv_if_eq (tgt := 52) hx hb dX9_e_23 (by decide) (fun c16 => ?_) (fun c16 => ?_)
      · obtain ⟨v17, e_v17⟩ : ∃ z : Int32, z = M_19 y 4 := ⟨_, rfl⟩
        have i_v17 : iv v17 0 5 := by rw [e_v17]; exact hI.iv1 (n := 67) g_y rfl (by decide) rfl
        have i18 : iv v17 1 5 := iv_neL (fun h9 => z15 c16 (e_v17.symm.trans h9)) i_v17 (by decide) (by decide)
        have i19 : iv r9 0 0 := iv_eq1 c16 i_r9 kc_0
        exact h_vret hQ hx hb hr hlocks hK hI ⟨rfl, m_PI_19, m_PN_19, m_PC_19, (fun h9 => gd_no (e_v17) i18 h9)⟩ dX9_e_52
      · obtain ⟨v20, e_v20⟩ : ∃ z : Int32, z = M_19 y 4 := ⟨_, rfl⟩
        have i_v20 : iv v20 0 5 := by rw [e_v20]; exact hI.iv1 (n := 67) g_y rfl (by decide) rfl
        have i21 : iv v20 0 0 := by rw [e_v20, z14 c16]; exact kc_0
        have i22 : iv r9 1 1 := iv_neL c16 i_r9 (by decide) (by decide)
        refine lv_aload_n hx hb dX9_e_26 rfl (lv_at hl 0 rfl) ?_
        refine h_geti (lo := 0) (hi := 90) hx hb hts iX9_e_X9 hown hK hI g_y (by decide) rfl rfl 39 (by decide) rfl rfl (hts (.fieldLink RX9 327 "CatLeasesModel" "piled" "I") (List.mem_of_getElem? (i := 1) rfl)) (fun _ h9 => h9) dX9_e_27 (fun v23 e_v23 i_v23 => ?_)
        refine lv_if_le (tgt := 52) hx hb dX9_e_30 (by decide) (fun c24 => ?_) (fun c24 => ?_)
        · have i25 : iv v23 0 0 := iv_le1 c24 i_v23 kc_0 (by decide)
          exact h_vret hQ hx hb hr hlocks hK hI ⟨rfl, m_PI_19, m_PN_19, m_PC_19, (fun h9 => EZ_e (hz_19 h9) (e_v23) i25)⟩ dX9_e_52
        · have i26 : iv v23 1 90 := iv_nle1 c24 i_v23 kc_0 (by decide)
          refine lv_iload_n hx hb dX9_e_33 rfl (lv_at hl 1 rfl) ?_
          refine lv_if_eq (tgt := 44) hx hb dX9_e_34 (by decide) (fun c27 => ?_) (fun c27 => ?_)
          · have i28 : iv v1_19 0 0 := iv_eq1 c27 i_v1_19 kc_0
            refine lv_aload_n hx hb dX9_e_44 rfl (lv_at hl 0 rfl) ?_
            have m29 : EX0 M_19 R y := EZ_0 (hz_19 (z14 c16)) (e_v23) i26 c27
            refine h_goi hI (by decide) (va_runV (As := []) (rest := []) ⟨hx, hb, hml, hown, hts⟩ (h_behindUnit_X9 l D g σ Z hZ0 M_19 N_19 R y g_y m_PI_19 m29 (gd_of (e_v20) i21)) (cwV 0 hts gX9_e_X9_behindUnit rfl rfl rfl (by decide +kernel) ⟨Nat.le_of_ble_eq_true rfl, Nat.le_of_ble_eq_true rfl⟩) (h_preV hZ0 hK hE hI g_y (by decide) rfl) rfl rfl hl.1 rfl (lv_room (Nat.le_of_ble_eq_true rfl)) dX9_e_45 ⟨Nat.le_of_ble_eq_true rfl, Nat.le_of_ble_eq_true rfl⟩) (fun r30 M31 N32 R33 H locs q34 z_M31 hI => ?_)
            obtain ⟨rfl, i_r30, m35, m36, m37, z38, z39⟩ := q34
            refine lv_istore_n (lv' := [(1, .int r30), (0, .ref y)]) hx hb dX9_e_48 rfl hl (by decide) rfl (fun ls hl => ?_)
            refine lv_goto (tgt := 19) hx hb dX9_e_49 (by decide) ?_
            have m40 : PN M M31 y := (PN_tr m_PN_19 m36)
            have m41 : PC M M31 R y := (PC_tr m_PC_19 m37)
            exact ih19 M31 N32 r30 H locs ls hI (lv_sub hl [1, 0] rfl) m35 m40 m41 i_r30 z38 (by have h9 := z39; omega)
          · have i42 : iv v1_19 1 1 := iv_neL c27 i_v1_19 (by decide) (by decide)
            refine lv_aload_n hx hb dX9_e_37 rfl (lv_at hl 0 rfl) ?_
            have m43 : EX1 M_19 R y := EZ_1 (hz_19 (z14 c16)) (e_v23) i26 c27
            refine h_goi hI (by decide) (va_runV (As := []) (rest := []) ⟨hx, hb, hml, hown, hts⟩ (h_unit_X9 l D g σ Z hZ0 M_19 N_19 R y g_y m_PI_19 m43 (gd_of (e_v20) i21)) (cwV 0 hts gX9_e_X9_unit rfl rfl rfl (by decide +kernel) ⟨Nat.le_of_ble_eq_true rfl, Nat.le_of_ble_eq_true rfl⟩) (h_preV hZ0 hK hE hI g_y (by decide) rfl) rfl rfl hl.1 rfl (lv_room (Nat.le_of_ble_eq_true rfl)) dX9_e_38 ⟨Nat.le_of_ble_eq_true rfl, Nat.le_of_ble_eq_true rfl⟩) (fun r44 M45 N46 R47 H locs q48 z_M45 hI => ?_)
            obtain ⟨rfl, i_r44, m49, m50, m51, z52, z53⟩ := q48
            refine lv_goto (tgt := 48) hx hb dX9_e_41 (by decide) ?_
            refine lv_istore_n (lv' := [(1, .int r44), (0, .ref y)]) hx hb dX9_e_48 rfl hl (by decide) rfl (fun ls hl => ?_)
            refine lv_goto (tgt := 19) hx hb dX9_e_49 (by decide) ?_
            have m54 : PN M M45 y := (PN_tr m_PN_19 m50)
            have m55 : PC M M45 R y := (PC_tr m_PC_19 m51)
            exact ih19 M45 N46 r44 H locs ls hI (lv_sub hl [1, 0] rfl) m49 m54 m55 i_r44 (fun h9 => Or.inr (z52 h9)) (by have h9 := z53; omega)
  refine lv_istore_n (lv' := [(1, .int (1 : Int32)), (0, .ref y)]) hx hb dX9_e_18 rfl hl (by decide) rfl (fun ls hl => ?_)
  have m56 : PI M4 y := (PI_ag hI.2.1 g_y (PI_ag hI.2.1 g_y (PI_ag hI.2.1 g_y m0_PI (hAd.put e_M1 g_y rfl)) (hAd.put e_M2 g_y rfl)) (hAd.ag z_M4 (by decide)))
  have m57 : PN M M4 y := (PN_ag hI.2.1 g_y (PN_ag hI.2.1 g_y (PN_ag hI.2.1 g_y PN_rf (hAd.put e_M1 g_y rfl)) (hAd.put e_M2 g_y rfl)) (hAd.ag z_M4 (by decide)))
  have m58 : PC M M4 R y := (PC_ag hI.2.1 g_y (PC_ag hI.2.1 g_y (PC_ag hI.2.1 g_y PC_rf (hAd.put e_M1 g_y rfl)) (hAd.put e_M2 g_y rfl)) (hAd.ag z_M4 (by decide)))
  exact J19 ((gm M4 y).toNat + 1) M4 N (1 : Int32) H locs ls hI (lv_sub hl [1, 0] rfl) m56 m57 m58 (iv_w (lo' := 0) (hi' := 1) kc_1 (by decide) (by decide)) (fun _ => Or.inr ⟨fun h9 => absurd h9 (by decide), fun _ => x9⟩) (by have h9 := gm_nn m56 (hI.iv1 (a := y) (j := 39) (lo := 0) (hi := 90) (n := 67) g_y rfl (by decide) rfl); omega)
abbrev e_h_readRule_X9 : List (Nat × Nat) := [(9, 4), (9, 5), (9, 6), (9, 7), (9, 8), (9, 9), (9, 37), (9, 38), (9, 39), (9, 40), (114, 999), (117, 999), (125, 999), (126, 999), (130, 999), (131, 999), (132, 999), (133, 999)]
set_option maxHeartbeats 4000000 in
set_option maxRecDepth 100000 in
theorem h_readRule_X9 (l : Launch) (D : va_G) (g : Nat → ClassId) (σ : Nat → Option Nat) (Z : State → Heap → Prop) (hZ0 : hZ σ Z) (M : hM) (N : hN) (R : hR) (y : Nat) (g_y : σ y = some 9) (m0_PI : PI M y) (m0_PH : PH M R y) (m0_RB : RB M y) (hl9 : ¬ Bt (M (R y 17) (rbN M y)) 0) : Met l yX9_readRule wsX9_readRule ({ frames := 5, cells := 0, slots := 0, locals := 107 }) (va_Pc [.ref y] (hPre D g σ Z M N R)) (hQv D g σ e_h_readRule_X9 M (fun (M1 : hM) (N1 : hN) (R1 : hR) => R = R1 ∧ (PI M1 y) ∧ (PN M M1 y) ∧ (PBx M M1 R y) ∧ (PH M1 R y))) 0 0 (hA σ) := by
  refine h_head (cc := cX9_readRule) (maxL := 1) (ret := none) (by decide) rfl (Nat.le_of_ble_eq_true rfl) e_h_readRule_X9 ?_
  intro p e s m below meth c ls Q ar hQ hx hb hr hlocks hml hown hts hK hE H locs hI hl
  have hown : s.vm.findClass RX9 = some m.cls := hown
  have hl : lv_has ls 1 [(0, .ref y)] := hl
  obtain ⟨v1, e_v1⟩ : ∃ z : Int32, z = M y 36 := ⟨_, rfl⟩
  have i_v1 : iv v1 0 1 := by rw [e_v1]; exact hI.iv1 (n := 67) g_y rfl (by decide) rfl
  have nb9 : v1.toNatClampNeg ≠ bk M y := rb_ne2 m0_RB e_v1 (hI.iv1 (a := y) (j := 35) (lo := 0) (hi := 1) (n := 67) g_y rfl (by decide) rfl)
  refine lv_aload_n hx hb dX9_readRule_0 rfl (lv_at hl 0 rfl) ?_
  refine h_getr hx hb hts iX9_readRule_X9 hown hK hI g_y (by decide) rfl rfl 17 (by decide) rfl 117 rfl (hts (.fieldLink RX9 39 "CatLeasesModel" "told" "[I") (List.mem_of_getElem? (i := 1) rfl)) (fun _ h9 => h9) dX9_readRule_1 (fun a2 e_a2 g_a2 => ?_)
  refine lv_aload_n hx hb dX9_readRule_4 rfl (lv_at hl 0 rfl) ?_
  refine h_geti (lo := 0) (hi := 1) hx hb hts iX9_readRule_X9 hown hK hI g_y (by decide) rfl rfl 36 (by decide) rfl rfl (hts (.fieldLink RX9 259 "CatLeasesModel" "rb" "I") (List.mem_of_getElem? (i := 2) rfl)) (fun _ h9 => h9) dX9_readRule_5 (fun v3 e_v3 i_v3 => ?_)
  have q4 : v1 = v3 := (e_v1).trans e_v3.symm
  subst q4
  refine lv_dup2_11 hx hb dX9_readRule_8 rfl rfl ?_
  refine h_iald (j := v1.toNatClampNeg) (lo := (-2147483648)) (hi := 2147483647) hx hb hK hI g_a2 (by decide) rfl (iv_in (n := 2) i_v1 (by decide) (by decide)) rfl (iv_any _) dX9_readRule_9 (fun v5 e_v5 i_v5 => ?_)
  refine lv_iconst (v := 1) hx hb dX9_readRule_10 (by decide) ?_
  refine lv_ior hx hb dX9_readRule_11 ?_
  refine h_nm (lo := (-2147483648)) (hi := 2147483647) (iv_any _) (fun v6 e_v6 i_v6 => ?_)
  refine h_iast (j := v1.toNatClampNeg) hx hb hK hI g_a2 (by decide) rfl (iv_in (n := 2) i_v1 (by decide) (by decide)) rfl (iv_any _) rfl dX9_readRule_12 (fun M7 H locs e_M7 hI => ?_)
  refine lv_aload_n hx hb dX9_readRule_13 rfl (lv_at hl 0 rfl) ?_
  refine lv_iconst (v := 0) hx hb dX9_readRule_14 (by decide) ?_
  refine h_puti hx hb hts iX9_readRule_X9 tyX9 tyX9_ok nmX9 hown hK hI g_y (by decide) rfl rfl 40 (by decide) rfl (hts (.fieldLink RX9 321 "CatLeasesModel" "unitsInRule" "I") (List.mem_of_getElem? (i := 3) rfl)) (fun _ h9 => h9) rfl .int (by decide +kernel) rfl rfl (iv_w (lo' := 0) (hi' := 30) kc_0 (by decide) (by decide)) rfl dX9_readRule_15 (fun M8 H locs e_M8 hI => ?_)
  refine lv_aload_n hx hb dX9_readRule_18 rfl (lv_at hl 0 rfl) ?_
  refine h_getr hx hb hts iX9_readRule_X9 hown hK hI g_y (by decide) rfl rfl 25 (by decide) rfl 125 rfl (hts (.fieldLink RX9 63 "CatLeasesModel" "ruleFrom" "[I") (List.mem_of_getElem? (i := 4) rfl)) (fun _ h9 => h9) dX9_readRule_19 (fun a9 e_a9 g_a9 => ?_)
  refine lv_aload_n hx hb dX9_readRule_22 rfl (lv_at hl 0 rfl) ?_
  refine h_geti (lo := 0) (hi := 1) hx hb hts iX9_readRule_X9 hown hK hI g_y (by decide) rfl rfl 36 (by decide) rfl rfl (hts (.fieldLink RX9 259 "CatLeasesModel" "rb" "I") (List.mem_of_getElem? (i := 2) rfl)) (fun _ h9 => h9) dX9_readRule_23 (fun v10 e_v10 i_v10 => ?_)
  have q11 : v1 = v10 := (((e_v1).trans (u2_st (a := y) (k := 36) e_M7 (u2_a (so_ne g_y g_a2 (by decide)))).symm).trans (u2_st (a := y) (k := 36) e_M8 (u2_k (by decide))).symm).trans e_v10.symm
  subst q11
  refine lv_aload_n hx hb dX9_readRule_26 rfl (lv_at hl 0 rfl) ?_
  refine h_geti (lo := 0) (hi := 1120) hx hb hts iX9_readRule_X9 hown hK hI g_y (by decide) rfl rfl 37 (by decide) rfl rfl (hts (.fieldLink RX9 262 "CatLeasesModel" "codes" "I") (List.mem_of_getElem? (i := 5) rfl)) (fun _ h9 => h9) dX9_readRule_27 (fun v12 e_v12 i_v12 => ?_)
  refine h_iast (j := v1.toNatClampNeg) hx hb hK hI g_a9 (by decide) rfl (iv_in (n := 2) i_v1 (by decide) (by decide)) rfl (iv_any _) rfl dX9_readRule_30 (fun M13 H locs e_M13 hI => ?_)
  refine lv_aload_n hx hb dX9_readRule_31 rfl (lv_at hl 0 rfl) ?_
  have m14 : RB M13 y := (RB_ag hI.2.1 g_y (RB_ag hI.2.1 g_y (RB_ag hI.2.1 g_y m0_RB (hAd.put e_M7 g_a2 rfl)) (hAd.put e_M8 g_y rfl)) (hAd.put e_M13 g_a9 rfl))
  have nr9 : ¬ (M13 y 36).toNatClampNeg = bk M13 y := rb_ne2 m14 rfl (hI.iv1 (a := y) (j := 35) (lo := 0) (hi := 1) (n := 67) g_y rfl (by decide) rfl)
  have m15 : PI M13 y := (PI_ag hI.2.1 g_y (PI_ag hI.2.1 g_y (PI_ag hI.2.1 g_y m0_PI (hAd.put e_M7 g_a2 rfl)) (hAd.put e_M8 g_y rfl)) (hAd.put e_M13 g_a9 rfl))
  refine h_gov hI (by decide) (va_runV (As := []) (rest := []) ⟨hx, hb, hml, hown, hts⟩ (h_e_X9 l D g σ Z hZ0 M13 N R y g_y m15 (by rw [((u2_st (a := y) (k := 37) e_M13 (u2_a (so_ne g_y g_a9 (by decide)))).trans ((u2_st (a := y) (k := 37) e_M8 (u2_k (by decide))).trans (u2_st (a := y) (k := 37) e_M7 (u2_a (so_ne g_y g_a2 (by decide)))))), ((u2_st (a := y) (k := 36) e_M13 (u2_a (so_ne g_y g_a9 (by decide)))).trans ((u2_st (a := y) (k := 36) e_M8 (u2_k (by decide))).trans (u2_st (a := y) (k := 36) e_M7 (u2_a (so_ne g_y g_a2 (by decide))))))]; exact m0_PH.2 hl9) ((((u2_wr e_M8)).trans (u2_st (a := y) (k := 40) e_M13 (u2_a (so_ne g_y g_a9 (by decide)))).symm)).symm) (cwV 0 hts gX9_readRule_X9_e rfl rfl rfl (by decide +kernel) ⟨Nat.le_of_ble_eq_true rfl, Nat.le_of_ble_eq_true rfl⟩) (h_preV hZ0 hK hE hI g_y (by decide) rfl) rfl rfl hl.1 rfl (lv_room (Nat.le_of_ble_eq_true rfl)) dX9_readRule_32 ⟨Nat.le_of_ble_eq_true rfl, Nat.le_of_ble_eq_true rfl⟩) (fun M17 N18 R19 H locs q20 z_M17 hI => ?_)
  obtain ⟨rfl, m21, m22, m23, z24⟩ := q20
  refine lv_aload_n hx hb dX9_readRule_35 rfl (lv_at hl 0 rfl) ?_
  refine h_getr hx hb hts iX9_readRule_X9 hown hK hI g_y (by decide) rfl rfl 26 (by decide) rfl 126 rfl (hts (.fieldLink RX9 66 "CatLeasesModel" "ruleTo" "[I") (List.mem_of_getElem? (i := 6) rfl)) (fun _ h9 => h9) dX9_readRule_36 (fun a25 e_a25 g_a25 => ?_)
  refine lv_aload_n hx hb dX9_readRule_39 rfl (lv_at hl 0 rfl) ?_
  refine h_geti (lo := 0) (hi := 1) hx hb hts iX9_readRule_X9 hown hK hI g_y (by decide) rfl rfl 36 (by decide) rfl rfl (hts (.fieldLink RX9 259 "CatLeasesModel" "rb" "I") (List.mem_of_getElem? (i := 2) rfl)) (fun _ h9 => h9) dX9_readRule_40 (fun v26 e_v26 i_v26 => ?_)
  have q27 : v1 = v26 := (((((e_v1).trans (u2_st (a := y) (k := 36) e_M7 (u2_a (so_ne g_y g_a2 (by decide)))).symm).trans (u2_st (a := y) (k := 36) e_M8 (u2_k (by decide))).symm).trans (u2_st (a := y) (k := 36) e_M13 (u2_a (so_ne g_y g_a9 (by decide)))).symm).trans (z_M17 y 9 36 g_y rfl).symm).trans e_v26.symm
  subst q27
  refine lv_aload_n hx hb dX9_readRule_43 rfl (lv_at hl 0 rfl) ?_
  refine h_geti (lo := 0) (hi := 1120) hx hb hts iX9_readRule_X9 hown hK hI g_y (by decide) rfl rfl 37 (by decide) rfl rfl (hts (.fieldLink RX9 262 "CatLeasesModel" "codes" "I") (List.mem_of_getElem? (i := 5) rfl)) (fun _ h9 => h9) dX9_readRule_44 (fun v28 e_v28 i_v28 => ?_)
  refine h_iast (j := v1.toNatClampNeg) hx hb hK hI g_a25 (by decide) rfl (iv_in (n := 2) i_v1 (by decide) (by decide)) rfl (iv_any _) rfl dX9_readRule_47 (fun M29 H locs e_M29 hI => ?_)
  have m30 : PN M M29 y := (PN_ag hI.2.1 g_y (PN_tr (PN_ag hI.2.1 g_y (PN_ag hI.2.1 g_y (PN_ag hI.2.1 g_y PN_rf (hAd.put e_M7 g_a2 rfl)) (hAd.put e_M8 g_y rfl)) (hAd.put e_M13 g_a9 rfl)) m22) (hAd.put e_M29 g_a25 rfl))
  have cw9 : M29 y 4 = 0 → CWb M29 R y (rbN M29 y) := fun h9 => CWb_of (f := v12) (t := v28) (z24 (by rw [← (u2_st (a := y) (k := 4) e_M29 (u2_a (so_ne g_y g_a25 (by decide))))]; exact h9)) (by rw [← (u2_st (a := y) (k := 36) e_M29 (u2_a (so_ne g_y g_a25 (by decide))))]; exact (hI.iv1 (a := y) (j := 36) (lo := 0) (hi := 1) (n := 67) g_y rfl (by decide) rfl)) (u2_st (a := y) (k := 36) e_M29 (u2_a (so_ne g_y g_a25 (by decide)))) (u2_row e_M29 (so_ne (hI.2.1.r1 g_y 30 130 (by decide) rfl) g_a25 (by decide))) (show v12 = M29 (R y 25) (rbN M29 y) by rw [rbN, ((u2_st (a := y) (k := 36) e_M29 (u2_a (so_ne g_y g_a25 (by decide)))).trans ((z_M17 y 9 36 g_y rfl).trans ((u2_st (a := y) (k := 36) e_M13 (u2_a (so_ne g_y g_a9 (by decide)))).trans ((u2_st (a := y) (k := 36) e_M8 (u2_k (by decide))).trans (u2_st (a := y) (k := 36) e_M7 (u2_a (so_ne g_y g_a2 (by decide)))))))), ← e_v1, ((u2_row e_M29 (so_ne (hI.2.1.r1 g_y 25 125 (by decide) rfl) g_a25 (by decide))).trans (hAg.row z_M17 (hI.2.1.r1 g_y 25 125 (by decide) rfl) (fun _ => rfl))), e_M13, e_a9, u2_s]) (by rw [e_v12, ((u2_st (a := y) (k := 37) e_M8 (u2_k (by decide))).trans (u2_st (a := y) (k := 37) e_M7 (u2_a (so_ne g_y g_a2 (by decide))))), ((z_M17 y 9 36 g_y rfl).trans ((u2_st (a := y) (k := 36) e_M13 (u2_a (so_ne g_y g_a9 (by decide)))).trans ((u2_st (a := y) (k := 36) e_M8 (u2_k (by decide))).trans (u2_st (a := y) (k := 36) e_M7 (u2_a (so_ne g_y g_a2 (by decide)))))))]; exact m0_PH.2 hl9) (show v28 = M29 (R y 26) (rbN M29 y) by rw [rbN, ((u2_st (a := y) (k := 36) e_M29 (u2_a (so_ne g_y g_a25 (by decide)))).trans ((z_M17 y 9 36 g_y rfl).trans ((u2_st (a := y) (k := 36) e_M13 (u2_a (so_ne g_y g_a9 (by decide)))).trans ((u2_st (a := y) (k := 36) e_M8 (u2_k (by decide))).trans (u2_st (a := y) (k := 36) e_M7 (u2_a (so_ne g_y g_a2 (by decide)))))))), ← e_v1, e_M29, e_a25, u2_s]) (by rw [e_v28])
  have m31 : PH M29 R y := PH_rule m0_PH m30.1 ((u2_st (a := y) (k := 36) e_M29 (u2_a (so_ne g_y g_a25 (by decide)))).trans ((z_M17 y 9 36 g_y rfl).trans ((u2_st (a := y) (k := 36) e_M13 (u2_a (so_ne g_y g_a9 (by decide)))).trans ((u2_st (a := y) (k := 36) e_M8 (u2_k (by decide))).trans (u2_st (a := y) (k := 36) e_M7 (u2_a (so_ne g_y g_a2 (by decide)))))))) ((u2_row e_M29 (so_ne (hI.2.1.r1 g_y 11 111 (by decide) rfl) g_a25 (by decide))).trans ((hAg.row z_M17 (hI.2.1.r1 g_y 11 111 (by decide) rfl) (fun _ => rfl)).trans ((u2_row e_M13 (so_ne (hI.2.1.r1 g_y 11 111 (by decide) rfl) g_a9 (by decide))).trans ((u2_row e_M8 (so_ne (hI.2.1.r1 g_y 11 111 (by decide) rfl) g_y (by decide))).trans (u2_row e_M7 (so_ne (hI.2.1.r1 g_y 11 111 (by decide) rfl) g_a2 (by decide))))))) ((u2_row e_M29 (so_ne (hI.2.1.r1 g_y 12 112 (by decide) rfl) g_a25 (by decide))).trans ((hAg.row z_M17 (hI.2.1.r1 g_y 12 112 (by decide) rfl) (fun _ => rfl)).trans ((u2_row e_M13 (so_ne (hI.2.1.r1 g_y 12 112 (by decide) rfl) g_a9 (by decide))).trans ((u2_row e_M8 (so_ne (hI.2.1.r1 g_y 12 112 (by decide) rfl) g_y (by decide))).trans (u2_row e_M7 (so_ne (hI.2.1.r1 g_y 12 112 (by decide) rfl) g_a2 (by decide))))))) ((u2_row e_M29 (so_ne (hI.2.1.r1 g_y 19 119 (by decide) rfl) g_a25 (by decide))).trans ((hAg.row z_M17 (hI.2.1.r1 g_y 19 119 (by decide) rfl) (fun _ => rfl)).trans ((u2_row e_M13 (so_ne (hI.2.1.r1 g_y 19 119 (by decide) rfl) g_a9 (by decide))).trans ((u2_row e_M8 (so_ne (hI.2.1.r1 g_y 19 119 (by decide) rfl) g_y (by decide))).trans (u2_row e_M7 (so_ne (hI.2.1.r1 g_y 19 119 (by decide) rfl) g_a2 (by decide))))))) ((u2_row e_M29 (so_ne (hI.2.1.r1 g_y 20 120 (by decide) rfl) g_a25 (by decide))).trans ((hAg.row z_M17 (hI.2.1.r1 g_y 20 120 (by decide) rfl) (fun _ => rfl)).trans ((u2_row e_M13 (so_ne (hI.2.1.r1 g_y 20 120 (by decide) rfl) g_a9 (by decide))).trans ((u2_row e_M8 (so_ne (hI.2.1.r1 g_y 20 120 (by decide) rfl) g_y (by decide))).trans (u2_row e_M7 (so_ne (hI.2.1.r1 g_y 20 120 (by decide) rfl) g_a2 (by decide))))))) (show v6 = M29 (R y 17) (rbN M29 y) by rw [rbN, ((u2_st (a := y) (k := 36) e_M29 (u2_a (so_ne g_y g_a25 (by decide)))).trans ((z_M17 y 9 36 g_y rfl).trans ((u2_st (a := y) (k := 36) e_M13 (u2_a (so_ne g_y g_a9 (by decide)))).trans ((u2_st (a := y) (k := 36) e_M8 (u2_k (by decide))).trans (u2_st (a := y) (k := 36) e_M7 (u2_a (so_ne g_y g_a2 (by decide)))))))), ← e_v1, ((u2_row e_M29 (so_ne (hI.2.1.r1 g_y 17 117 (by decide) rfl) g_a25 (by decide))).trans ((hAg.row z_M17 (hI.2.1.r1 g_y 17 117 (by decide) rfl) (fun _ => rfl)).trans ((u2_row e_M13 (so_ne (hI.2.1.r1 g_y 17 117 (by decide) rfl) g_a9 (by decide))).trans (u2_row e_M8 (so_ne (hI.2.1.r1 g_y 17 117 (by decide) rfl) g_y (by decide)))))), e_M7, e_a2, u2_s]) (Bt_1 e_v6) cw9
  have m32 : PI M29 y := (PI_ag hI.2.1 g_y m21 (hAd.put e_M29 g_a25 rfl))
  have m33 : PBx M M29 R y := (PBx_put hI.2.1 g_y (PBx_tr (PBx_put hI.2.1 g_y (PBx_ag hI.2.1 g_y (PBx_put hI.2.1 g_y PBx_rf e_M7 g_a2 (Or.inl ⟨by decide, nb9⟩)) (hAd.put e_M8 g_y rfl)) e_M13 g_a9 (Or.inl ⟨by decide, nb9⟩)) (PBx_pc hI.2.1 g_y PBx_rf m23 nr9 (hAd.ag z_M17 (by decide)))) e_M29 g_a25 (Or.inl ⟨by decide, nb9⟩))
  exact h_vret hQ hx hb hr hlocks hK hI ⟨rfl, m32, m30, m33, m31⟩ dX9_readRule_48
