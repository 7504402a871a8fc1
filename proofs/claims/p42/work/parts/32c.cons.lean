abbrev e_h_comes_X9 : List (Nat × Nat) := [(134, 999)]
set_option maxHeartbeats 4000000 in
set_option maxRecDepth 100000 in
theorem h_comes_X9 (l : Launch) (D : va_G) (g : Nat → ClassId) (σ : Nat → Option Nat) (Z : State → Heap → Prop) (hZ0 : hZ σ Z) (M : hM) (N : hN) (R : hR) (y : Nat) (g_y : σ y = some 9) (m0_CWo : CWo M R y) : Met l yX9_comes wsX9_comes ({ frames := 1, cells := 0, slots := 0, locals := 22 }) (va_Pc [.ref y] (hPre D g σ Z M N R)) (hQi D g σ e_h_comes_X9 M (fun (r : Int32) (M1 : hM) (N1 : hN) (R1 : hR) => N = N1 ∧ R = R1)) 0 0 (hA σ) := by
  refine h_head (cc := cX9_comes) (maxL := 4) (ret := (some .int)) (by decide) rfl (Nat.le_of_ble_eq_true rfl) e_h_comes_X9 ?_
  intro p e s m below meth c ls Q ar hQ hx hb hr hlocks hml hown hts hK hE H locs hI hl
  have hown : s.vm.findClass RX9 = some m.cls := hown
  have hl : lv_has ls 4 [(0, .ref y)] := hl
  refine lv_iconst (v := 0) hx hb dX9_comes_0 (by decide) ?_
  refine lv_istore_n (lv' := [(1, .int (0 : Int32)), (0, .ref y)]) hx hb dX9_comes_1 rfl hl (by decide) rfl (fun ls hl => ?_)
  refine lv_aload_n hx hb dX9_comes_2 rfl (lv_at hl 1 rfl) ?_
  refine h_getr hx hb hts iX9_comes_X9 hown hK hI g_y (by decide) rfl rfl 25 (by decide) rfl 125 rfl (hts (.fieldLink RX9 63 "CatLeasesModel" "ruleFrom" "[I") (List.mem_of_getElem? (i := 1) rfl)) (fun _ h9 => h9) dX9_comes_3 (fun a1 e_a1 g_a1 => ?_)
  refine lv_aload_n hx hb dX9_comes_6 rfl (lv_at hl 1 rfl) ?_
  refine h_geti (lo := 0) (hi := 1) hx hb hts iX9_comes_X9 hown hK hI g_y (by decide) rfl rfl 35 (by decide) rfl rfl (hts (.fieldLink RX9 268 "CatLeasesModel" "bank" "I") (List.mem_of_getElem? (i := 2) rfl)) (fun _ h9 => h9) dX9_comes_7 (fun v2 e_v2 i_v2 => ?_)
  refine h_iald (j := v2.toNatClampNeg) (lo := (-2147483648)) (hi := 2147483647) hx hb hK hI g_a1 (by decide) rfl (iv_in (n := 2) i_v2 (by decide) (by decide)) rfl (iv_any _) dX9_comes_10 (fun v3 e_v3 i_v3 => ?_)
  have w_v3 : iv v3 0 2147483647 := ⟨by rw [(show v3 = M (R y 25) (bk M y) by rw [e_v3, e_a1, bk, ← (show v2 = M y 35 from e_v2)])]; exact CWo_from m0_CWo, (iv_any v3).2⟩
  have J12 : ∀ (n : Nat) (M_12 : hM) (v1_12 : Int32) (v2_12 : Int32) (H : Heap) (locs : List Loc) (ls : Array Slot), kI D g σ e_h_comes_X9 M s.heap M_12 N R H locs → lv_has ls 4 [(0, .ref y), (1, .int v1_12), (2, .int v2_12)] → v2 = M_12 y 35 → CWo M_12 R y → iv v1_12 0 60 → iv v2_12 0 2147483647 → okK M_12 R y v2_12.toInt v1_12.toInt → 2147483648 ≤ v2_12.toInt + (n : Int) → W p l e (headSpec wsX9_comes ({ frames := 1, cells := 0, slots := 0, locals := 22 })).room s m ar below meth c H locs 0 0 Q (F0 m 12 ls []) := by
    intro n
    induction n with
    | zero => intro M_12 v1_12 v2_12 H locs ls hI hl k0_12 m_CWo_12 i_v1_12 i_v2_12 hok hn; exfalso; have hz := i_v2_12; simp only [iv] at hz; omega
    | succ n ih12 =>
      intro M_12 v1_12 v2_12 H locs ls hI hl k0_12 m_CWo_12 i_v1_12 i_v2_12 hok hn12
      refine lv_iload_n hx hb dX9_comes_12 rfl (lv_at hl 2 rfl) ?_
      refine lv_aload_n hx hb dX9_comes_13 rfl (lv_at hl 0 rfl) ?_
      refine h_getr hx hb hts iX9_comes_X9 hown hK hI g_y (by decide) rfl rfl 26 (by decide) rfl 126 rfl (hts (.fieldLink RX9 66 "CatLeasesModel" "ruleTo" "[I") (List.mem_of_getElem? (i := 3) rfl)) (fun _ h9 => h9) dX9_comes_14 (fun a4 e_a4 g_a4 => ?_)
      refine lv_aload_n hx hb dX9_comes_17 rfl (lv_at hl 0 rfl) ?_
      refine h_geti (lo := 0) (hi := 1) hx hb hts iX9_comes_X9 hown hK hI g_y (by decide) rfl rfl 35 (by decide) rfl rfl (hts (.fieldLink RX9 268 "CatLeasesModel" "bank" "I") (List.mem_of_getElem? (i := 2) rfl)) (fun _ h9 => h9) dX9_comes_18 (fun v5 e_v5 i_v5 => ?_)
      have q6 : v2 = v5 := (k0_12).trans e_v5.symm
      subst q6
      refine h_iald (j := v2.toNatClampNeg) (lo := (-2147483648)) (hi := 2147483647) hx hb hK hI g_a4 (by decide) rfl (iv_in (n := 2) i_v2 (by decide) (by decide)) rfl (iv_any _) dX9_comes_21 (fun v7 e_v7 i_v7 => ?_)
      have t_v7 := (show v7 = M_12 (R y 26) (bk M_12 y) by rw [e_v7, e_a4, bk, ← (show v2 = M_12 y 35 from k0_12)])
      have w_v7 : iv v7 (-2147483648) 1120 := ⟨(iv_any v7).1, by rw [t_v7]; exact CWo_to m_CWo_12 (show v2 = M_12 y 35 from k0_12) i_v2⟩
      refine lv_icmp_ge (tgt := 130) hx hb dX9_comes_22 (by decide) (fun c8 => ?_) (fun c8 => ?_)
      · refine lv_aload_n hx hb dX9_comes_130 rfl (lv_at hl 0 rfl) ?_
        refine h_getr hx hb hts iX9_comes_X9 hown hK hI g_y (by decide) rfl rfl 34 (by decide) rfl 134 rfl (hts (.fieldLink RX9 91 "CatLeasesModel" "pile" "[I") (List.mem_of_getElem? (i := 5) rfl)) (fun _ h9 => h9) dX9_comes_131 (fun a9 e_a9 g_a9 => ?_)
        refine lv_iconst (v := 0) hx hb dX9_comes_134 (by decide) ?_
        refine h_iald (j := 0) (lo := (-2147483648)) (hi := 2147483647) hx hb hK hI g_a9 (by decide) rfl (iv_in (n := 60) kc_0 (by decide) (by decide)) (by decide) (iv_any _) dX9_comes_135 (fun v10 e_v10 i_v10 => ?_)
        exact h_iret hQ hx hb hr hlocks rfl hK hI ⟨rfl, rfl⟩ dX9_comes_136
      · have i11 : iv v7 1 1120 := iv_nle1 c8 w_v7 i_v2_12 (by decide)
        have i12 : iv v2_12 0 1119 := iv_nle2 c8 w_v7 i_v2_12 (by decide)
        refine lv_aload_n hx hb dX9_comes_25 rfl (lv_at hl 0 rfl) ?_
        refine h_getr hx hb hts iX9_comes_X9 hown hK hI g_y (by decide) rfl rfl 30 (by decide) rfl 130 rfl (hts (.fieldLink RX9 79 "CatLeasesModel" "code" "[I") (List.mem_of_getElem? (i := 4) rfl)) (fun _ h9 => h9) dX9_comes_26 (fun a13 e_a13 g_a13 => ?_)
        refine lv_iload_n hx hb dX9_comes_29 rfl (lv_at hl 2 rfl) ?_
        refine h_iald (j := v2_12.toNatClampNeg) (lo := (-2147483648)) (hi := 2147483647) hx hb hK hI g_a13 (by decide) rfl (iv_in (n := 1120) i12 (by decide) (by decide)) rfl (iv_any _) dX9_comes_30 (fun v14 e_v14 i_v14 => ?_)
        refine lv_istore_n (lv' := [(3, .int v14), (0, .ref y), (1, .int v1_12), (2, .int v2_12)]) hx hb dX9_comes_31 rfl hl (by decide) rfl (fun ls hl => ?_)
        refine lv_iload_n hx hb dX9_comes_32 rfl (lv_at hl 0 rfl) ?_
        refine lv_bipush (v := 126) hx hb dX9_comes_33 (by decide) ?_
        have J124 : ∀ (M_124 : hM) (v1_124 : Int32) (H : Heap) (locs : List Loc) (ls : Array Slot), kI D g σ e_h_comes_X9 M s.heap M_124 N R H locs → lv_has ls 4 [(0, .ref y), (1, .int v1_124), (2, .int v2_12)] → v2 = M_124 y 35 → CWo M_124 R y → iv v1_124 0 60 → okK M_124 R y (v2_12.toInt + 1) v1_124.toInt → W p l e (headSpec wsX9_comes ({ frames := 1, cells := 0, slots := 0, locals := 22 })).room s m ar below meth c H locs 0 0 Q (F0 m 124 ls []) := by
          intro M_124 v1_124 H locs ls hI hl k0_124 m_CWo_124 i_v1_124 hok2
          obtain ⟨v15, e_v15⟩ : ∃ z : Int32, z = v2_12 + Int32.ofInt 1 := ⟨_, rfl⟩
          have i_v15 : iv v15 1 1120 := by rw [e_v15]; exact iv_add i12 (ki_1) (by decide) (by decide) (by decide) (by decide)
          refine lv_iinc (v := v15) (lv' := [(2, .int v15), (0, .ref y), (1, .int v1_124)]) hx hb dX9_comes_124 hl (k := 2) rfl e_v15.symm (by decide) rfl (fun ls hl => ?_)
          refine lv_goto (tgt := 12) hx hb dX9_comes_127 (by decide) ?_
          exact ih12 M_124 v1_124 v15 H locs ls hI (lv_sub hl [1, 2, 0] rfl) (k0_124) m_CWo_124 i_v1_124 (iv_w (lo' := 0) (hi' := 2147483647) i_v15 (by decide) (by decide)) (by rw [(h_inc e_v15 i12 ki_1 (by decide) (by decide))]; exact hok2) (by have h9 := (h_inc e_v15 i12 ki_1 (by decide) (by decide)); omega)
        refine lv_icmp_ne (tgt := 65) hx hb dX9_comes_35 (by decide) (fun c16 => ?_) (fun c16 => ?_)
        · refine lv_iload_n hx hb dX9_comes_65 rfl (lv_at hl 0 rfl) ?_
          refine h_goi hI (by decide) (va_runS (As := [.int v14]) (rest := []) ⟨hx, hb, hml, hown, hts⟩ (h_isLetter_X9 l D g σ Z hZ0 M_12 N R v14) (va_cwS 1 hts gX9_comes_X9_isLetter rfl rfl rfl (by decide +kernel) ⟨Nat.le_of_ble_eq_true rfl, Nat.le_of_ble_eq_true rfl⟩) (h_preS hZ0 hK hE hI) rfl rfl hl.1 rfl (lv_room (Nat.le_of_ble_eq_true rfl)) dX9_comes_66 ⟨Nat.le_of_ble_eq_true rfl, Nat.le_of_ble_eq_true rfl⟩) (fun r17 M18 N19 R20 H locs q21 z_M18 hI => ?_)
          obtain ⟨rfl, rfl, rfl, i_r17, z22, z23⟩ := q21
          refine lv_if_eq (tgt := 95) hx hb dX9_comes_69 (by decide) (fun c24 => ?_) (fun c24 => ?_)
          · have i25 : iv r17 0 0 := iv_eq1 c24 i_r17 kc_0
            have ok9 := okK_two hok (i_v1_12).1 (i12).1 t_v7 (Int32.lt_iff_toInt_lt.mp (Int32.not_le.mp c8)) (by rw [← (show v14 = M_12 (R y 30) v2_12.toNatClampNeg by rw [e_v14, e_a13])]; exact c16) (by rw [← (show v14 = M_12 (R y 30) v2_12.toNatClampNeg by rw [e_v14, e_a13])]; exact (z23 c24))
            have i26 : iv v1_12 2 60 := ⟨by have h9 := ok9.1; omega, (i_v1_12).2⟩
            obtain ⟨v27, e_v27⟩ : ∃ z : Int32, z = v1_12 + Int32.ofInt (-1) := ⟨_, rfl⟩
            have i_v27 : iv v27 1 59 := by rw [e_v27]; exact iv_add i26 (ki_m1) (by decide) (by decide) (by decide) (by decide)
            refine lv_iinc (v := v27) (lv' := [(1, .int v27), (3, .int v14), (0, .ref y), (2, .int v2_12)]) hx hb dX9_comes_95 hl (k := 2) rfl e_v27.symm (by decide) rfl (fun ls hl => ?_)
            refine lv_aload_n hx hb dX9_comes_98 rfl (lv_at hl 2 rfl) ?_
            refine h_getr hx hb hts iX9_comes_X9 hown hK hI g_y (by decide) rfl rfl 34 (by decide) rfl 134 rfl (hts (.fieldLink RX9 91 "CatLeasesModel" "pile" "[I") (List.mem_of_getElem? (i := 5) rfl)) (fun _ h9 => h9) dX9_comes_99 (fun a28 e_a28 g_a28 => ?_)
            refine lv_iload_n hx hb dX9_comes_102 rfl (lv_at hl 0 rfl) ?_
            refine lv_iconst (v := 1) hx hb dX9_comes_103 (by decide) ?_
            refine lv_isub hx hb dX9_comes_104 ?_
            refine h_nm (lo := 0) (hi := 58) (iv_sub i_v27 kc_1 (by decide) (by decide) (by decide) (by decide)) (fun v29 e_v29 i_v29 => ?_)
            refine lv_iload_n hx hb dX9_comes_105 rfl (lv_at hl 1 rfl) ?_
            refine lv_aload_n hx hb dX9_comes_106 rfl (lv_at hl 2 rfl) ?_
            refine h_getr hx hb hts iX9_comes_X9 hown hK hI g_y (by decide) rfl rfl 34 (by decide) rfl 134 rfl (hts (.fieldLink RX9 91 "CatLeasesModel" "pile" "[I") (List.mem_of_getElem? (i := 5) rfl)) (fun _ h9 => h9) dX9_comes_107 (fun a30 e_a30 g_a30 => ?_)
            have q31 : a28 = a30 := (e_a28).trans e_a30.symm
            subst q31
            refine lv_iload_n hx hb dX9_comes_110 rfl (lv_at hl 0 rfl) ?_
            refine lv_iconst (v := 1) hx hb dX9_comes_111 (by decide) ?_
            refine lv_isub hx hb dX9_comes_112 ?_
            refine h_nm (lo := 0) (hi := 58) (iv_sub i_v27 kc_1 (by decide) (by decide) (by decide) (by decide)) (fun v32 e_v32 i_v32 => ?_)
            refine h_iald (j := v32.toNatClampNeg) (lo := (-2147483648)) (hi := 2147483647) hx hb hK hI g_a28 (by decide) rfl (iv_in (n := 60) i_v32 (by decide) (by decide)) rfl (iv_any _) dX9_comes_113 (fun v33 e_v33 i_v33 => ?_)
            refine lv_aload_n hx hb dX9_comes_114 rfl (lv_at hl 2 rfl) ?_
            refine h_getr hx hb hts iX9_comes_X9 hown hK hI g_y (by decide) rfl rfl 34 (by decide) rfl 134 rfl (hts (.fieldLink RX9 91 "CatLeasesModel" "pile" "[I") (List.mem_of_getElem? (i := 5) rfl)) (fun _ h9 => h9) dX9_comes_115 (fun a34 e_a34 g_a34 => ?_)
            have q35 : a28 = a34 := (e_a28).trans e_a34.symm
            subst q35
            refine lv_iload_n hx hb dX9_comes_118 rfl (lv_at hl 0 rfl) ?_
            refine h_iald (j := v27.toNatClampNeg) (lo := (-2147483648)) (hi := 2147483647) hx hb hK hI g_a28 (by decide) rfl (iv_in (n := 60) i_v27 (by decide) (by decide)) rfl (iv_any _) dX9_comes_119 (fun v36 e_v36 i_v36 => ?_)
            refine h_goi hI (by decide) (va_runS (As := [.int v14, .int v33, .int v36]) (rest := [.int v29, .ref a28]) ⟨hx, hb, hml, hown, hts⟩ (h_two_X9 l D g σ Z hZ0 M_12 N R v14 v33 v36) (va_cwS 3 hts gX9_comes_X9_two rfl rfl rfl (by decide +kernel) ⟨Nat.le_of_ble_eq_true rfl, Nat.le_of_ble_eq_true rfl⟩) (h_preS hZ0 hK hE hI) rfl rfl hl.1 rfl (lv_room (Nat.le_of_ble_eq_true rfl)) dX9_comes_120 ⟨Nat.le_of_ble_eq_true rfl, Nat.le_of_ble_eq_true rfl⟩) (fun r37 M38 N39 R40 H locs q41 z_M38 hI => ?_)
            obtain ⟨rfl, rfl, rfl⟩ := q41
            refine h_iast (j := v29.toNatClampNeg) hx hb hK hI g_a28 (by decide) rfl (iv_in (n := 60) i_v29 (by decide) (by decide)) rfl (iv_any _) rfl dX9_comes_123 (fun M42 H locs e_M42 hI => ?_)
            have m43 : CWo M42 R y := (CWo_ag hI.2.1 g_y m_CWo_12 (hAd.put e_M42 g_a28 rfl))
            exact J124 M42 v27 H locs ls hI (lv_sub hl [2, 0, 3] rfl) ((k0_12).trans (u2_st (a := y) (k := 35) e_M42 (u2_a (so_ne g_y g_a28 (by decide)))).symm) m43 (iv_w (lo' := 0) (hi' := 60) i_v27 (by decide) (by decide)) (by rw [(h_inc e_v27 i26 ki_m1 (by decide) (by decide))]; exact (okK_ag hI.2.1 g_y ok9.2 (hAd.put e_M42 g_a28 rfl)))
          · have i44 : iv v14 97 122 := z22 c24
            have i45 : iv r17 1 1 := iv_neL c24 i_r17 (by decide) (by decide)
            have ok9 := okK_let hok (i_v1_12).1 (i12).1 t_v7 (Int32.lt_iff_toInt_lt.mp (Int32.not_le.mp c8)) (by rw [← (show v14 = M_12 (R y 30) v2_12.toNatClampNeg by rw [e_v14, e_a13])]; exact c16) (by rw [← (show v14 = M_12 (R y 30) v2_12.toNatClampNeg by rw [e_v14, e_a13])]; exact i44)
            have i46 : iv v1_12 0 59 := ⟨(i_v1_12).1, by have h9 := ok9.1; omega⟩
            refine lv_aload_n hx hb dX9_comes_72 rfl (lv_at hl 1 rfl) ?_
            refine h_getr hx hb hts iX9_comes_X9 hown hK hI g_y (by decide) rfl rfl 34 (by decide) rfl 134 rfl (hts (.fieldLink RX9 91 "CatLeasesModel" "pile" "[I") (List.mem_of_getElem? (i := 5) rfl)) (fun _ h9 => h9) dX9_comes_73 (fun a47 e_a47 g_a47 => ?_)
            refine lv_iload_n hx hb dX9_comes_76 rfl (lv_at hl 2 rfl) ?_
            refine lv_aload_n hx hb dX9_comes_77 rfl (lv_at hl 1 rfl) ?_
            refine lv_iload_n hx hb dX9_comes_78 rfl (lv_at hl 0 rfl) ?_
            refine lv_aload_n hx hb dX9_comes_79 rfl (lv_at hl 1 rfl) ?_
            refine h_getr hx hb hts iX9_comes_X9 hown hK hI g_y (by decide) rfl rfl 31 (by decide) rfl 131 rfl (hts (.fieldLink RX9 82 "CatLeasesModel" "codeNumber" "[I") (List.mem_of_getElem? (i := 6) rfl)) (fun _ h9 => h9) dX9_comes_80 (fun a48 e_a48 g_a48 => ?_)
            refine lv_iload_n hx hb dX9_comes_83 rfl (lv_at hl 3 rfl) ?_
            refine h_iald (j := v2_12.toNatClampNeg) (lo := (-2147483648)) (hi := 2147483647) hx hb hK hI g_a48 (by decide) rfl (iv_in (n := 1120) i12 (by decide) (by decide)) rfl (iv_any _) dX9_comes_84 (fun v49 e_v49 i_v49 => ?_)
            refine h_goi hI (by decide) (va_runV (As := [.int v14, .int v49]) (rest := [.int v1_12, .ref a47]) ⟨hx, hb, hml, hown, hts⟩ (h_asked_X9 l D g σ Z hZ0 M_12 N R y g_y v14 v49) (cwV 2 hts gX9_comes_X9_asked rfl rfl rfl (by decide +kernel) ⟨Nat.le_of_ble_eq_true rfl, Nat.le_of_ble_eq_true rfl⟩) (h_preV hZ0 hK hE hI g_y (by decide) rfl) rfl rfl hl.1 rfl (lv_room (Nat.le_of_ble_eq_true rfl)) dX9_comes_85 ⟨Nat.le_of_ble_eq_true rfl, Nat.le_of_ble_eq_true rfl⟩) (fun r50 M51 N52 R53 H locs q54 z_M51 hI => ?_)
            obtain ⟨rfl, rfl, rfl⟩ := q54
            refine h_iast (j := v1_12.toNatClampNeg) hx hb hK hI g_a47 (by decide) rfl (iv_in (n := 60) i46 (by decide) (by decide)) rfl (iv_any _) rfl dX9_comes_88 (fun M55 H locs e_M55 hI => ?_)
            obtain ⟨v56, e_v56⟩ : ∃ z : Int32, z = v1_12 + Int32.ofInt 1 := ⟨_, rfl⟩
            have i_v56 : iv v56 1 60 := by rw [e_v56]; exact iv_add i46 (ki_1) (by decide) (by decide) (by decide) (by decide)
            refine lv_iinc (v := v56) (lv' := [(1, .int v56), (3, .int v14), (0, .ref y), (2, .int v2_12)]) hx hb dX9_comes_89 hl (k := 2) rfl e_v56.symm (by decide) rfl (fun ls hl => ?_)
            refine lv_goto (tgt := 124) hx hb dX9_comes_92 (by decide) ?_
            have m57 : CWo M55 R y := (CWo_ag hI.2.1 g_y m_CWo_12 (hAd.put e_M55 g_a47 rfl))
            exact J124 M55 v56 H locs ls hI (lv_sub hl [2, 0, 3] rfl) ((k0_12).trans (u2_st (a := y) (k := 35) e_M55 (u2_a (so_ne g_y g_a47 (by decide)))).symm) m57 (iv_w (lo' := 0) (hi' := 60) i_v56 (by decide) (by decide)) (by rw [(h_inc e_v56 i46 ki_1 (by decide) (by decide))]; exact (okK_ag hI.2.1 g_y ok9.2 (hAd.put e_M55 g_a47 rfl)))
        · have i58 : iv v14 126 126 := iv_eq1 c16 i_v14 kc_126
          have ok9 := okK_not hok (i12).1 t_v7 (Int32.lt_iff_toInt_lt.mp (Int32.not_le.mp c8)) (by rw [← (show v14 = M_12 (R y 30) v2_12.toNatClampNeg by rw [e_v14, e_a13])]; exact c16)
          have i59 : iv v1_12 1 60 := ⟨by have h9 := ok9.1; omega, (i_v1_12).2⟩
          refine lv_aload_n hx hb dX9_comes_38 rfl (lv_at hl 1 rfl) ?_
          refine h_getr hx hb hts iX9_comes_X9 hown hK hI g_y (by decide) rfl rfl 34 (by decide) rfl 134 rfl (hts (.fieldLink RX9 91 "CatLeasesModel" "pile" "[I") (List.mem_of_getElem? (i := 5) rfl)) (fun _ h9 => h9) dX9_comes_39 (fun a60 e_a60 g_a60 => ?_)
          refine lv_iload_n hx hb dX9_comes_42 rfl (lv_at hl 2 rfl) ?_
          refine lv_iconst (v := 1) hx hb dX9_comes_43 (by decide) ?_
          refine lv_isub hx hb dX9_comes_44 ?_
          refine h_nm (lo := 0) (hi := 59) (iv_sub i59 kc_1 (by decide) (by decide) (by decide) (by decide)) (fun v61 e_v61 i_v61 => ?_)
          refine lv_aload_n hx hb dX9_comes_45 rfl (lv_at hl 1 rfl) ?_
          refine h_getr hx hb hts iX9_comes_X9 hown hK hI g_y (by decide) rfl rfl 34 (by decide) rfl 134 rfl (hts (.fieldLink RX9 91 "CatLeasesModel" "pile" "[I") (List.mem_of_getElem? (i := 5) rfl)) (fun _ h9 => h9) dX9_comes_46 (fun a62 e_a62 g_a62 => ?_)
          have q63 : a60 = a62 := (e_a60).trans e_a62.symm
          subst q63
          refine lv_iload_n hx hb dX9_comes_49 rfl (lv_at hl 2 rfl) ?_
          refine lv_iconst (v := 1) hx hb dX9_comes_50 (by decide) ?_
          refine lv_isub hx hb dX9_comes_51 ?_
          refine h_nm (lo := 0) (hi := 59) (iv_sub i59 kc_1 (by decide) (by decide) (by decide) (by decide)) (fun v64 e_v64 i_v64 => ?_)
          refine h_iald (j := v64.toNatClampNeg) (lo := (-2147483648)) (hi := 2147483647) hx hb hK hI g_a60 (by decide) rfl (iv_in (n := 60) i_v64 (by decide) (by decide)) rfl (iv_any _) dX9_comes_52 (fun v65 e_v65 i_v65 => ?_)
          have J61 : ∀ (t2_61 : Int32) (H : Heap) (locs : List Loc) (ls : Array Slot), kI D g σ e_h_comes_X9 M s.heap M_12 N R H locs → lv_has ls 4 [(0, .ref y), (1, .int v1_12), (2, .int v2_12)] → iv t2_61 0 1 → W p l e (headSpec wsX9_comes ({ frames := 1, cells := 0, slots := 0, locals := 22 })).room s m ar below meth c H locs 0 0 Q (F0 m 61 ls [.int t2_61, .int v61, .ref a60]) := by
            intro t2_61 H locs ls hI hl i_t2_61
            refine h_iast (j := v61.toNatClampNeg) hx hb hK hI g_a60 (by decide) rfl (iv_in (n := 60) i_v61 (by decide) (by decide)) rfl (iv_any _) rfl dX9_comes_61 (fun M66 H locs e_M66 hI => ?_)
            refine lv_goto (tgt := 124) hx hb dX9_comes_62 (by decide) ?_
            have m67 : CWo M66 R y := (CWo_ag hI.2.1 g_y m_CWo_12 (hAd.put e_M66 g_a60 rfl))
            exact J124 M66 v1_12 H locs ls hI hl ((k0_12).trans (u2_st (a := y) (k := 35) e_M66 (u2_a (so_ne g_y g_a60 (by decide)))).symm) m67 (iv_w (lo' := 0) (hi' := 60) i59 (by decide) (by decide)) (okK_ag hI.2.1 g_y ok9.2 (hAd.put e_M66 g_a60 rfl))
          refine lv_if_ne (tgt := 60) hx hb dX9_comes_53 (by decide) (fun c68 => ?_) (fun c68 => ?_)
          · refine lv_iconst (v := 0) hx hb dX9_comes_60 (by decide) ?_
            exact J61 (0 : Int32) H locs ls hI (lv_sub hl [1, 2, 3] rfl) (iv_w (lo' := 0) (hi' := 1) kc_0 (by decide) (by decide))
          · have i69 : iv v65 0 0 := iv_eq1 c68 i_v65 kc_0
            refine lv_iconst (v := 1) hx hb dX9_comes_56 (by decide) ?_
            refine lv_goto (tgt := 61) hx hb dX9_comes_57 (by decide) ?_
            exact J61 (1 : Int32) H locs ls hI (lv_sub hl [1, 2, 3] rfl) (iv_w (lo' := 0) (hi' := 1) kc_1 (by decide) (by decide))
  refine lv_istore_n (lv' := [(2, .int v3), (1, .int (0 : Int32)), (0, .ref y)]) hx hb dX9_comes_11 rfl hl (by decide) rfl (fun ls hl => ?_)
  exact J12 2147483648 M (0 : Int32) v3 H locs ls hI (lv_sub hl [2, 1, 0] rfl) (e_v2) m0_CWo (iv_w (lo' := 0) (hi' := 60) kc_0 (by decide) (by decide)) w_v3 (by rw [show v3 = M (R y 25) (bk M y) from (show v3 = M (R y 25) (bk M y) by rw [e_v3, e_a1, bk, ← (show v2 = M y 35 from e_v2)])]; exact m0_CWo.2.2) (by have h9 := w_v3; simp only [iv] at h9; omega)
