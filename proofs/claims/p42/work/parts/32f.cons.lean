abbrev e_h_goIn_X9 : List (Nat × Nat) := [(145, 999)]
set_option maxHeartbeats 4000000 in
set_option maxRecDepth 100000 in
theorem h_goIn_X9 (l : Launch) (D : va_G) (g : Nat → ClassId) (σ : Nat → Option Nat) (Z : State → Heap → Prop) (hZ0 : hZ σ Z) (M : hM) (N : hN) (R : hR) (y : Nat) (g_y : σ y = some 9) (p1 : Int32) (h_p1 : iv p1 0 6) (p2 : Int32) (h_p2 : iv p2 (-1) 7) : Met l yX9_goIn wsX9_goIn ({ frames := 0, cells := 0, slots := 0, locals := 0 }) (va_Pc [.ref y, .int p1, .int p2] (hPre D g σ Z M N R)) (hQv D g σ e_h_goIn_X9 M (fun (M1 : hM) (N1 : hN) (R1 : hR) => N = N1 ∧ R = R1 ∧ (KV M R y → KV M1 R y))) 0 0 (hA σ) := by
  refine h_head (cc := cX9_goIn) (maxL := 3) (ret := none) (by decide) rfl (Nat.le_of_ble_eq_true rfl) e_h_goIn_X9 ?_
  intro p e s m below meth c ls Q ar hQ hx hb hr hlocks hml hown hts hK hE H locs hI hl
  have hown : s.vm.findClass RX9 = some m.cls := hown
  have hl : lv_has ls 3 [(0, .ref y), (1, .int p1), (2, .int p2)] := hl
  refine lv_aload_n hx hb dX9_goIn_0 rfl (lv_at hl 0 rfl) ?_
  refine h_getr hx hb hts iX9_goIn_X9 hown hK hI g_y (by decide) rfl rfl 45 (by decide) rfl 145 rfl (hts (.fieldLink RX9 94 "CatLeasesModel" "all" "[I") (List.mem_of_getElem? (i := 1) rfl)) (fun _ h9 => h9) dX9_goIn_1 (fun a1 e_a1 g_a1 => ?_)
  refine lv_iconst (v := 0) hx hb dX9_goIn_4 (by decide) ?_
  refine lv_iload_n hx hb dX9_goIn_5 rfl (lv_at hl 1 rfl) ?_
  refine lv_iadd hx hb dX9_goIn_6 ?_
  refine k_top (v := p1) (Int32.zero_add _) ?_
  refine lv_iload_n hx hb dX9_goIn_7 rfl (lv_at hl 2 rfl) ?_
  refine h_iast (j := p1.toNatClampNeg) hx hb hK hI g_a1 (by decide) rfl (iv_in (n := 39) h_p1 (by decide) (by decide)) rfl (iv_pos (so := 145) (c := 0) (d := 7) (lo := (-1)) (hi := 7) h_p2 (iv_nat1 h_p1 (by decide)) (iv_nat2 h_p1 (by decide) (by decide)) (by decide)) rfl dX9_goIn_8 (fun M2 H locs e_M2 hI => ?_)
  refine lv_aload_n hx hb dX9_goIn_9 rfl (lv_at hl 0 rfl) ?_
  refine h_getr hx hb hts iX9_goIn_X9 hown hK hI g_y (by decide) rfl rfl 45 (by decide) rfl 145 rfl (hts (.fieldLink RX9 94 "CatLeasesModel" "all" "[I") (List.mem_of_getElem? (i := 1) rfl)) (fun _ h9 => h9) dX9_goIn_10 (fun a3 e_a3 g_a3 => ?_)
  have q4 : a1 = a3 := (e_a1).trans e_a3.symm
  subst q4
  refine lv_bipush (v := 7) hx hb dX9_goIn_13 (by decide) ?_
  refine lv_iload_n hx hb dX9_goIn_15 rfl (lv_at hl 1 rfl) ?_
  refine lv_iadd hx hb dX9_goIn_16 ?_
  refine h_nm (lo := 7) (hi := 13) (iv_add kc_7 h_p1 (by decide) (by decide) (by decide) (by decide)) (fun v5 e_v5 i_v5 => ?_)
  refine lv_iconst (v := 0) hx hb dX9_goIn_17 (by decide) ?_
  refine h_iast (j := v5.toNatClampNeg) hx hb hK hI g_a1 (by decide) rfl (iv_in (n := 39) i_v5 (by decide) (by decide)) rfl (iv_posA (so := 145) (c := 7) (d := 14) (iv_nat1 i_v5 (by decide)) (iv_nat2 i_v5 (by decide) (by decide)) (by decide)) rfl dX9_goIn_18 (fun M6 H locs e_M6 hI => ?_)
  have m7 : KV M R y → KV M6 R y := (fun h9 => KV_off hI.2.1 g_y ((fun h9 => KV_off hI.2.1 g_y ((fun h9 => h9) h9) e_M2 g_a1 (Or.inl (iv_nat2 h_p1 (by decide) (by decide)))) h9) e_M6 g_a1 (Or.inl (iv_nat2 i_v5 (by decide) (by decide))))
  exact h_vret hQ hx hb hr hlocks hK hI ⟨rfl, rfl, m7⟩ dX9_goIn_19
abbrev e_h_goQuarter_X9 : List (Nat × Nat) := [(9, 41), (9, 42), (9, 43), (9, 44), (134, 999), (145, 999)]
set_option maxHeartbeats 4000000 in
set_option maxRecDepth 100000 in
theorem h_goQuarter_X9 (l : Launch) (D : va_G) (g : Nat → ClassId) (σ : Nat → Option Nat) (Z : State → Heap → Prop) (hZ0 : hZ σ Z) (M : hM) (N : hN) (R : hR) (y : Nat) (g_y : σ y = some 9) (m0_CW : CW M R y) : Met l yX9_goQuarter wsX9_goQuarter ({ frames := 6, cells := 0, slots := 0, locals := 134 }) (va_Pc [.ref y] (hPre D g σ Z M N R)) (hQi D g σ e_h_goQuarter_X9 M (fun (r : Int32) (M1 : hM) (N1 : hN) (R1 : hR) => N = N1 ∧ R = R1 ∧ iv r 0 127 ∧ (KV M R y → KV M1 R y))) 0 0 (hA σ) := by
  refine h_head (cc := cX9_goQuarter) (maxL := 3) (ret := (some .int)) (by decide) rfl (Nat.le_of_ble_eq_true rfl) e_h_goQuarter_X9 ?_
  intro p e s m below meth c ls Q ar hQ hx hb hr hlocks hml hown hts hK hE H locs hI hl
  have hown : s.vm.findClass RX9 = some m.cls := hown
  have hl : lv_has ls 3 [(0, .ref y)] := hl
  refine lv_aload_n hx hb dX9_goQuarter_0 rfl (lv_at hl 0 rfl) ?_
  refine h_goi hI (by decide) (va_runV (As := []) (rest := []) ⟨hx, hb, hml, hown, hts⟩ (h_thrown_X9 l D g σ Z hZ0 M N R y g_y m0_CW) (cwV 0 hts gX9_goQuarter_X9_thrown rfl rfl rfl (by decide +kernel) ⟨Nat.le_of_ble_eq_true rfl, Nat.le_of_ble_eq_true rfl⟩) (h_preV hZ0 hK hE hI g_y (by decide) rfl) rfl rfl hl.1 rfl (lv_room (Nat.le_of_ble_eq_true rfl)) dX9_goQuarter_1 ⟨Nat.le_of_ble_eq_true rfl, Nat.le_of_ble_eq_true rfl⟩) (fun r1 M2 N3 R4 H locs q5 z_M2 hI => ?_)
  obtain ⟨rfl, rfl, i_r1⟩ := q5
  refine lv_istore_n (lv' := [(1, .int r1), (0, .ref y)]) hx hb dX9_goQuarter_4 rfl hl (by decide) rfl (fun ls hl => ?_)
  refine lv_iconst (v := 0) hx hb dX9_goQuarter_5 (by decide) ?_
  have J7 : ∀ (n : Nat) (M_7 : hM) (v2_7 : Int32) (H : Heap) (locs : List Loc) (ls : Array Slot), kI D g σ e_h_goQuarter_X9 M s.heap M_7 N R H locs → lv_has ls 3 [(0, .ref y), (1, .int r1), (2, .int v2_7)] → (KV M R y → KV M_7 R y) → CW M_7 R y → iv v2_7 0 7 → 8 ≤ v2_7.toInt + (n : Int) → W p l e (headSpec wsX9_goQuarter ({ frames := 6, cells := 0, slots := 0, locals := 134 })).room s m ar below meth c H locs 0 0 Q (F0 m 7 ls []) := by
    intro n
    induction n with
    | zero => intro M_7 v2_7 H locs ls hI hl m_KVI_7 m_CW_7 i_v2_7 hn; exfalso; have hz := i_v2_7; simp only [iv] at hz; omega
    | succ n ih7 =>
      intro M_7 v2_7 H locs ls hI hl m_KVI_7 m_CW_7 i_v2_7 hn7
      refine lv_iload_n hx hb dX9_goQuarter_7 rfl (lv_at hl 2 rfl) ?_
      refine lv_aload_n hx hb dX9_goQuarter_8 rfl (lv_at hl 0 rfl) ?_
      refine h_goi hI (by decide) (va_runV (As := []) (rest := [.int v2_7]) ⟨hx, hb, hml, hown, hts⟩ (h_many_X9 l D g σ Z hZ0 M_7 N R y g_y) (cwV 0 hts gX9_goQuarter_X9_many rfl rfl rfl (by decide +kernel) ⟨Nat.le_of_ble_eq_true rfl, Nat.le_of_ble_eq_true rfl⟩) (h_preV hZ0 hK hE hI g_y (by decide) rfl) rfl rfl hl.1 rfl (lv_room (Nat.le_of_ble_eq_true rfl)) dX9_goQuarter_9 ⟨Nat.le_of_ble_eq_true rfl, Nat.le_of_ble_eq_true rfl⟩) (fun r6 M7 N8 R9 H locs q10 z_M7 hI => ?_)
      obtain ⟨rfl, rfl, rfl, i_r6, z11⟩ := q10
      refine lv_icmp_ge (tgt := 73) hx hb dX9_goQuarter_12 (by decide) (fun c12 => ?_) (fun c12 => ?_)
      · refine lv_aload_n hx hb dX9_goQuarter_73 rfl (lv_at hl 0 rfl) ?_
        refine h_getr hx hb hts iX9_goQuarter_X9 hown hK hI g_y (by decide) rfl rfl 45 (by decide) rfl 145 rfl (hts (.fieldLink RX9 94 "CatLeasesModel" "all" "[I") (List.mem_of_getElem? (i := 1) rfl)) (fun _ h9 => h9) dX9_goQuarter_74 (fun a13 e_a13 g_a13 => ?_)
        refine lv_bipush (v := 37) hx hb dX9_goQuarter_77 (by decide) ?_
        refine lv_dup2_11 hx hb dX9_goQuarter_79 rfl rfl ?_
        refine h_iald (j := 37) (lo := (-2147483648)) (hi := 2147483647) hx hb hK hI g_a13 (by decide) rfl (iv_in (n := 39) kc_37 (by decide) (by decide)) (by decide) (iv_any _) dX9_goQuarter_80 (fun v14 e_v14 i_v14 => ?_)
        refine lv_iconst (v := 1) hx hb dX9_goQuarter_81 (by decide) ?_
        refine lv_iadd hx hb dX9_goQuarter_82 ?_
        refine h_nm (lo := (-2147483648)) (hi := 2147483647) (iv_any _) (fun v15 e_v15 i_v15 => ?_)
        refine h_iast (j := 37) hx hb hK hI g_a13 (by decide) rfl (iv_in (n := 39) kc_37 (by decide) (by decide)) (by decide) (iv_any _) rfl dX9_goQuarter_83 (fun M16 H locs e_M16 hI => ?_)
        refine lv_iload_n hx hb dX9_goQuarter_84 rfl (lv_at hl 1 rfl) ?_
        have m17 : KV M R y → KV M16 R y := (fun h9 => KV_off hI.2.1 g_y (m_KVI_7 h9) e_M16 g_a13 (by decide))
        exact h_iret hQ hx hb hr hlocks rfl hK hI ⟨rfl, rfl, i_r1, m17⟩ dX9_goQuarter_85
      · have i18 : iv r6 1 7 := iv_nle1 c12 i_r6 i_v2_7 (by decide)
        have i19 : iv v2_7 0 6 := iv_nle2 c12 i_r6 i_v2_7 (by decide)
        refine lv_iload_n hx hb dX9_goQuarter_15 rfl (lv_at hl 1 rfl) ?_
        refine lv_iload_n hx hb dX9_goQuarter_16 rfl (lv_at hl 2 rfl) ?_
        refine h_goi hI (by decide) (va_runS (As := [.int r1, .int v2_7]) (rest := []) ⟨hx, hb, hml, hown, hts⟩ (h_bit_X9 l D g σ Z hZ0 M_7 N R r1 v2_7) (va_cwS 2 hts gX9_goQuarter_X9_bit rfl rfl rfl (by decide +kernel) ⟨Nat.le_of_ble_eq_true rfl, Nat.le_of_ble_eq_true rfl⟩) (h_preS hZ0 hK hE hI) rfl rfl hl.1 rfl (lv_room (Nat.le_of_ble_eq_true rfl)) dX9_goQuarter_17 ⟨Nat.le_of_ble_eq_true rfl, Nat.le_of_ble_eq_true rfl⟩) (fun r20 M21 N22 R23 H locs q24 z_M21 hI => ?_)
        obtain ⟨rfl, rfl, rfl, i_r20, z25⟩ := q24
        have J67 : ∀ (M_67 : hM) (H : Heap) (locs : List Loc) (ls : Array Slot), kI D g σ e_h_goQuarter_X9 M s.heap M_67 N R H locs → lv_has ls 3 [(0, .ref y), (1, .int r1), (2, .int v2_7)] → (KV M R y → KV M_67 R y) → CW M_67 R y → W p l e (headSpec wsX9_goQuarter ({ frames := 6, cells := 0, slots := 0, locals := 134 })).room s m ar below meth c H locs 0 0 Q (F0 m 67 ls []) := by
          intro M_67 H locs ls hI hl m_KVI_67 m_CW_67
          obtain ⟨v26, e_v26⟩ : ∃ z : Int32, z = v2_7 + Int32.ofInt 1 := ⟨_, rfl⟩
          have i_v26 : iv v26 1 7 := by rw [e_v26]; exact iv_add i19 (ki_1) (by decide) (by decide) (by decide) (by decide)
          refine lv_iinc (v := v26) (lv' := [(2, .int v26), (0, .ref y), (1, .int r1)]) hx hb dX9_goQuarter_67 hl (k := 2) rfl e_v26.symm (by decide) rfl (fun ls hl => ?_)
          refine lv_goto (tgt := 7) hx hb dX9_goQuarter_70 (by decide) ?_
          exact ih7 M_67 v26 H locs ls hI (lv_sub hl [1, 2, 0] rfl) m_KVI_67 m_CW_67 (iv_w (lo' := 0) (hi' := 7) i_v26 (by decide) (by decide)) (by have h9 := (h_inc e_v26 i19 ki_1 (by decide) (by decide)); omega)
        refine lv_if_eq (tgt := 31) hx hb dX9_goQuarter_20 (by decide) (fun c27 => ?_) (fun c27 => ?_)
        · have i28 : iv r20 0 0 := iv_eq1 c27 i_r20 kc_0
          refine lv_aload_n hx hb dX9_goQuarter_31 rfl (lv_at hl 0 rfl) ?_
          refine lv_iload_n hx hb dX9_goQuarter_32 rfl (lv_at hl 2 rfl) ?_
          refine h_goi hI (by decide) (va_runV (As := [.int v2_7]) (rest := []) ⟨hx, hb, hml, hown, hts⟩ (h_isOut_X9 l D g σ Z hZ0 M_7 N R y g_y v2_7 i19) (cwV 1 hts gX9_goQuarter_X9_isOut rfl rfl rfl (by decide +kernel) ⟨Nat.le_of_ble_eq_true rfl, Nat.le_of_ble_eq_true rfl⟩) (h_preV hZ0 hK hE hI g_y (by decide) rfl) rfl rfl hl.1 rfl (lv_room (Nat.le_of_ble_eq_true rfl)) dX9_goQuarter_33 ⟨Nat.le_of_ble_eq_true rfl, Nat.le_of_ble_eq_true rfl⟩) (fun r29 M30 N31 R32 H locs q33 z_M30 hI => ?_)
          obtain ⟨rfl, rfl, rfl, i_r29, z34⟩ := q33
          refine lv_if_ne (tgt := 67) hx hb dX9_goQuarter_36 (by decide) (fun c35 => ?_) (fun c35 => ?_)
          · have i36 : iv r29 1 1 := iv_neL c35 i_r29 (by decide) (by decide)
            exact J67 M_7 H locs ls hI hl m_KVI_7 m_CW_7
          · have i37 := z34 c35
            have i38 : iv r29 0 0 := iv_eq1 c35 i_r29 kc_0
            refine lv_aload_n hx hb dX9_goQuarter_39 rfl (lv_at hl 0 rfl) ?_
            refine h_getr hx hb hts iX9_goQuarter_X9 hown hK hI g_y (by decide) rfl rfl 45 (by decide) rfl 145 rfl (hts (.fieldLink RX9 94 "CatLeasesModel" "all" "[I") (List.mem_of_getElem? (i := 1) rfl)) (fun _ h9 => h9) dX9_goQuarter_40 (fun a39 e_a39 g_a39 => ?_)
            refine lv_bipush (v := 7) hx hb dX9_goQuarter_43 (by decide) ?_
            refine lv_iload_n hx hb dX9_goQuarter_45 rfl (lv_at hl 2 rfl) ?_
            refine lv_iadd hx hb dX9_goQuarter_46 ?_
            refine h_nm (lo := 7) (hi := 13) (iv_add kc_7 i19 (by decide) (by decide) (by decide) (by decide)) (fun v40 e_v40 i_v40 => ?_)
            refine h_iald (j := v40.toNatClampNeg) (lo := (-2147483648)) (hi := 2147483647) hx hb hK hI g_a39 (by decide) rfl (iv_in (n := 39) i_v40 (by decide) (by decide)) rfl (iv_any _) dX9_goQuarter_47 (fun v41 e_v41 i_v41 => ?_)
            refine lv_sipush (v := 999) hx hb dX9_goQuarter_48 (by decide) ?_
            refine lv_icmp_ge (tgt := 67) hx hb dX9_goQuarter_51 (by decide) (fun c42 => ?_) (fun c42 => ?_)
            · have i43 : iv v41 999 2147483647 := iv_le2 c42 kc_999 i_v41 (by decide)
              exact J67 M_7 H locs ls hI hl m_KVI_7 m_CW_7
            · have i44 : iv v41 (-2147483648) 998 := iv_nle2 c42 kc_999 i_v41 (by decide)
              refine lv_aload_n hx hb dX9_goQuarter_54 rfl (lv_at hl 0 rfl) ?_
              refine h_getr hx hb hts iX9_goQuarter_X9 hown hK hI g_y (by decide) rfl rfl 45 (by decide) rfl 145 rfl (hts (.fieldLink RX9 94 "CatLeasesModel" "all" "[I") (List.mem_of_getElem? (i := 1) rfl)) (fun _ h9 => h9) dX9_goQuarter_55 (fun a45 e_a45 g_a45 => ?_)
              have q46 : a39 = a45 := (e_a39).trans e_a45.symm
              subst q46
              refine lv_bipush (v := 7) hx hb dX9_goQuarter_58 (by decide) ?_
              refine lv_iload_n hx hb dX9_goQuarter_60 rfl (lv_at hl 2 rfl) ?_
              refine lv_iadd hx hb dX9_goQuarter_61 ?_
              refine h_nm (lo := 7) (hi := 13) (iv_add kc_7 i19 (by decide) (by decide) (by decide) (by decide)) (fun v47 e_v47 i_v47 => ?_)
              refine lv_dup2_11 hx hb dX9_goQuarter_62 rfl rfl ?_
              refine h_iald (j := v47.toNatClampNeg) (lo := (-2147483648)) (hi := 2147483647) hx hb hK hI g_a39 (by decide) rfl (iv_in (n := 39) i_v47 (by decide) (by decide)) rfl (iv_any _) dX9_goQuarter_63 (fun v48 e_v48 i_v48 => ?_)
              refine lv_iconst (v := 1) hx hb dX9_goQuarter_64 (by decide) ?_
              refine lv_iadd hx hb dX9_goQuarter_65 ?_
              refine h_nm (lo := (-2147483648)) (hi := 2147483647) (iv_any _) (fun v49 e_v49 i_v49 => ?_)
              refine h_iast (j := v47.toNatClampNeg) hx hb hK hI g_a39 (by decide) rfl (iv_in (n := 39) i_v47 (by decide) (by decide)) rfl (iv_posA (so := 145) (c := 7) (d := 14) (iv_nat1 i_v47 (by decide)) (iv_nat2 i_v47 (by decide) (by decide)) (by decide)) rfl dX9_goQuarter_66 (fun M50 H locs e_M50 hI => ?_)
              have m51 : KV M R y → KV M50 R y := (fun h9 => KV_off hI.2.1 g_y (m_KVI_7 h9) e_M50 g_a39 (Or.inl (iv_nat2 i_v47 (by decide) (by decide))))
              have m52 : CW M50 R y := (CW_ag hI.2.1 g_y m_CW_7 (hAd.put e_M50 g_a39 rfl))
              exact J67 M50 H locs ls hI hl m51 m52
        · have i53 : iv r20 1 1 := iv_neL c27 i_r20 (by decide) (by decide)
          refine lv_aload_n hx hb dX9_goQuarter_23 rfl (lv_at hl 0 rfl) ?_
          refine lv_iload_n hx hb dX9_goQuarter_24 rfl (lv_at hl 2 rfl) ?_
          refine h_gov hI (by decide) (va_runV (As := [.int v2_7]) (rest := []) ⟨hx, hb, hml, hown, hts⟩ (h_goOut_X9 l D g σ Z hZ0 M_7 N R y g_y v2_7 i19) (cwV 1 hts gX9_goQuarter_X9_goOut rfl rfl rfl (by decide +kernel) ⟨Nat.le_of_ble_eq_true rfl, Nat.le_of_ble_eq_true rfl⟩) (h_preV hZ0 hK hE hI g_y (by decide) rfl) rfl rfl hl.1 rfl (lv_room (Nat.le_of_ble_eq_true rfl)) dX9_goQuarter_25 ⟨Nat.le_of_ble_eq_true rfl, Nat.le_of_ble_eq_true rfl⟩) (fun M55 N56 R57 H locs q58 z_M55 hI => ?_)
          obtain ⟨rfl, rfl, m59⟩ := q58
          refine lv_goto (tgt := 67) hx hb dX9_goQuarter_28 (by decide) ?_
          have m60 : KV M R y → KV M55 R y := (fun h9 => m59 (m_KVI_7 h9))
          have m61 : CW M55 R y := (CW_ag hI.2.1 g_y m_CW_7 (hAd.ag z_M55 (by decide)))
          exact J67 M55 H locs ls hI hl m60 m61
  refine lv_istore_n (lv' := [(2, .int (0 : Int32)), (1, .int r1), (0, .ref y)]) hx hb dX9_goQuarter_6 rfl hl (by decide) rfl (fun ls hl => ?_)
  have m62 : KV M R y → KV M2 R y := (fun h9 => KV_ag hI.2.1 g_y ((fun h9 => h9) h9) (hAd.ag z_M2 (by decide)))
  have m63 : CW M2 R y := (CW_ag hI.2.1 g_y m0_CW (hAd.ag z_M2 (by decide)))
  exact J7 8 M2 (0 : Int32) H locs ls hI (lv_sub hl [2, 1, 0] rfl) m62 m63 (iv_w (lo' := 0) (hi' := 7) kc_0 (by decide) (by decide)) (by have h9 := kc_0; simp only [iv] at h9; omega)
abbrev e_h_goDie_X9 : List (Nat × Nat) := [(145, 999)]
set_option maxHeartbeats 4000000 in
set_option maxRecDepth 100000 in
theorem h_goDie_X9 (l : Launch) (D : va_G) (g : Nat → ClassId) (σ : Nat → Option Nat) (Z : State → Heap → Prop) (hZ0 : hZ σ Z) (M : hM) (N : hN) (R : hR) (y : Nat) (g_y : σ y = some 9) (p1 : Int32) (m0_KV : KV M R y) (m0_HV : HV M R y) : Met l yX9_goDie wsX9_goDie ({ frames := 4, cells := 0, slots := 0, locals := 88 }) (va_Pc [.ref y, .int p1] (hPre D g σ Z M N R)) (hQv D g σ e_h_goDie_X9 M (fun (M1 : hM) (N1 : hN) (R1 : hR) => N = N1 ∧ R = R1 ∧ (KV M1 R y))) 0 0 (hA σ) := by
  refine h_head (cc := cX9_goDie) (maxL := 3) (ret := none) (by decide) rfl (Nat.le_of_ble_eq_true rfl) e_h_goDie_X9 ?_
  intro p e s m below meth c ls Q ar hQ hx hb hr hlocks hml hown hts hK hE H locs hI hl
  have hown : s.vm.findClass RX9 = some m.cls := hown
  have hl : lv_has ls 3 [(0, .ref y), (1, .int p1)] := hl
  refine lv_iconst (v := 0) hx hb dX9_goDie_0 (by decide) ?_
  have J2 : ∀ (n : Nat) (M_2 : hM) (v2_2 : Int32) (H : Heap) (locs : List Loc) (ls : Array Slot), kI D g σ e_h_goDie_X9 M s.heap M_2 N R H locs → lv_has ls 3 [(0, .ref y), (1, .int p1), (2, .int v2_2)] → KV M_2 R y → HV M_2 R y → iv v2_2 0 8 → 9 ≤ v2_2.toInt + (n : Int) → W p l e (headSpec wsX9_goDie ({ frames := 4, cells := 0, slots := 0, locals := 88 })).room s m ar below meth c H locs 0 0 Q (F0 m 2 ls []) := by
    intro n
    induction n with
    | zero => intro M_2 v2_2 H locs ls hI hl m_KV_2 m_HV_2 i_v2_2 hn; exfalso; have hz := i_v2_2; simp only [iv] at hz; omega
    | succ n ih2 =>
      intro M_2 v2_2 H locs ls hI hl m_KV_2 m_HV_2 i_v2_2 hn2
      refine lv_iload_n hx hb dX9_goDie_2 rfl (lv_at hl 2 rfl) ?_
      refine lv_aload_n hx hb dX9_goDie_3 rfl (lv_at hl 0 rfl) ?_
      refine h_goi hI (by decide) (va_runV (As := []) (rest := [.int v2_2]) ⟨hx, hb, hml, hown, hts⟩ (h_chambers_X9 l D g σ Z hZ0 M_2 N R y g_y) (cwV 0 hts gX9_goDie_X9_chambers rfl rfl rfl (by decide +kernel) ⟨Nat.le_of_ble_eq_true rfl, Nat.le_of_ble_eq_true rfl⟩) (h_preV hZ0 hK hE hI g_y (by decide) rfl) rfl rfl hl.1 rfl (lv_room (Nat.le_of_ble_eq_true rfl)) dX9_goDie_4 ⟨Nat.le_of_ble_eq_true rfl, Nat.le_of_ble_eq_true rfl⟩) (fun r1 M2 N3 R4 H locs q5 z_M2 hI => ?_)
      obtain ⟨rfl, rfl, rfl, i_r1, z6⟩ := q5
      refine lv_icmp_ge (tgt := 31) hx hb dX9_goDie_7 (by decide) (fun c7 => ?_) (fun c7 => ?_)
      · refine lv_aload_n hx hb dX9_goDie_31 rfl (lv_at hl 0 rfl) ?_
        refine h_getr hx hb hts iX9_goDie_X9 hown hK hI g_y (by decide) rfl rfl 45 (by decide) rfl 145 rfl (hts (.fieldLink RX9 94 "CatLeasesModel" "all" "[I") (List.mem_of_getElem? (i := 1) rfl)) (fun _ h9 => h9) dX9_goDie_32 (fun a8 e_a8 g_a8 => ?_)
        refine lv_bipush (v := 36) hx hb dX9_goDie_35 (by decide) ?_
        refine lv_dup2_11 hx hb dX9_goDie_37 rfl rfl ?_
        refine h_iald (j := 36) (lo := (-2147483648)) (hi := 2147483647) hx hb hK hI g_a8 (by decide) rfl (iv_in (n := 39) kc_36 (by decide) (by decide)) (by decide) (iv_any _) dX9_goDie_38 (fun v9 e_v9 i_v9 => ?_)
        refine lv_iload_n hx hb dX9_goDie_39 rfl (lv_at hl 1 rfl) ?_
        refine lv_iconst (v := (-1)) hx hb dX9_goDie_40 (by decide) ?_
        refine lv_ixor hx hb dX9_goDie_41 ?_
        refine h_nm (lo := (-2147483648)) (hi := 2147483647) (iv_any _) (fun v10 e_v10 i_v10 => ?_)
        refine lv_iand hx hb dX9_goDie_42 ?_
        refine h_nm (lo := (-2147483648)) (hi := 2147483647) (iv_any _) (fun v11 e_v11 i_v11 => ?_)
        refine h_iast (j := 36) hx hb hK hI g_a8 (by decide) rfl (iv_in (n := 39) kc_36 (by decide) (by decide)) (by decide) (iv_any _) rfl dX9_goDie_43 (fun M12 H locs e_M12 hI => ?_)
        have m13 : KV M12 R y := (KV_off hI.2.1 g_y m_KV_2 e_M12 g_a8 (by decide))
        exact h_vret hQ hx hb hr hlocks hK hI ⟨rfl, rfl, m13⟩ dX9_goDie_44
      · have i14 : iv r1 1 8 := iv_nle1 c7 i_r1 i_v2_2 (by decide)
        have i15 : iv v2_2 0 7 := iv_nle2 c7 i_r1 i_v2_2 (by decide)
        refine lv_aload_n hx hb dX9_goDie_10 rfl (lv_at hl 0 rfl) ?_
        refine h_getr hx hb hts iX9_goDie_X9 hown hK hI g_y (by decide) rfl rfl 45 (by decide) rfl 145 rfl (hts (.fieldLink RX9 94 "CatLeasesModel" "all" "[I") (List.mem_of_getElem? (i := 1) rfl)) (fun _ h9 => h9) dX9_goDie_11 (fun a16 e_a16 g_a16 => ?_)
        refine lv_bipush (v := 14) hx hb dX9_goDie_14 (by decide) ?_
        refine lv_iload_n hx hb dX9_goDie_16 rfl (lv_at hl 2 rfl) ?_
        refine lv_iadd hx hb dX9_goDie_17 ?_
        refine h_nm (lo := 14) (hi := 21) (iv_add kc_14 i15 (by decide) (by decide) (by decide) (by decide)) (fun v17 e_v17 i_v17 => ?_)
        refine lv_aload_n hx hb dX9_goDie_18 rfl (lv_at hl 0 rfl) ?_
        refine lv_iload_n hx hb dX9_goDie_19 rfl (lv_at hl 2 rfl) ?_
        refine lv_iload_n hx hb dX9_goDie_20 rfl (lv_at hl 1 rfl) ?_
        refine h_goi hI (by decide) (va_runV (As := [.int v2_2, .int p1]) (rest := [.int v17, .ref a16]) ⟨hx, hb, hml, hown, hts⟩ (h_keeperIf_X9 l D g σ Z hZ0 M_2 N R y g_y v2_2 i15 p1 m_KV_2 m_HV_2) (cwV 2 hts gX9_goDie_X9_keeperIf rfl rfl rfl (by decide +kernel) ⟨Nat.le_of_ble_eq_true rfl, Nat.le_of_ble_eq_true rfl⟩) (h_preV hZ0 hK hE hI g_y (by decide) rfl) rfl rfl hl.1 rfl (lv_room (Nat.le_of_ble_eq_true rfl)) dX9_goDie_21 ⟨Nat.le_of_ble_eq_true rfl, Nat.le_of_ble_eq_true rfl⟩) (fun r18 M19 N20 R21 H locs q22 z_M19 hI => ?_)
        obtain ⟨rfl, rfl, rfl, i_r18, z23⟩ := q22
        refine h_iast (j := v17.toNatClampNeg) hx hb hK hI g_a16 (by decide) rfl (iv_in (n := 39) i_v17 (by decide) (by decide)) rfl (iv_pos (so := 145) (c := 14) (d := 22) (lo := (-1)) (hi := 5) i_r18 (iv_nat1 i_v17 (by decide)) (iv_nat2 i_v17 (by decide) (by decide)) (by decide)) rfl dX9_goDie_24 (fun M24 H locs e_M24 hI => ?_)
        obtain ⟨v25, e_v25⟩ : ∃ z : Int32, z = v2_2 + Int32.ofInt 1 := ⟨_, rfl⟩
        have i_v25 : iv v25 1 8 := by rw [e_v25]; exact iv_add i15 (ki_1) (by decide) (by decide) (by decide) (by decide)
        refine lv_iinc (v := v25) (lv' := [(2, .int v25), (0, .ref y), (1, .int p1)]) hx hb dX9_goDie_25 hl (k := 2) rfl e_v25.symm (by decide) rfl (fun ls hl => ?_)
        refine lv_goto (tgt := 2) hx hb dX9_goDie_28 (by decide) ?_
        have m26 : KV M24 R y := (KV_put hI.2.1 g_y m_KV_2 e_M24 g_a16 (Int.lt_of_le_of_lt z23 (KV_at m_KV_2 i15)))
        have m27 : HV M24 R y := (HV_ag hI.2.1 g_y m_HV_2 (hAd.put e_M24 g_a16 rfl))
        exact ih2 M24 v25 H locs ls hI (lv_sub hl [1, 2, 0] rfl) m26 m27 (iv_w (lo' := 0) (hi' := 8) i_v25 (by decide) (by decide)) (by have h9 := (h_inc e_v25 i15 ki_1 (by decide) (by decide)); omega)
  refine lv_istore_n (lv' := [(2, .int (0 : Int32)), (0, .ref y), (1, .int p1)]) hx hb dX9_goDie_1 rfl hl (by decide) rfl (fun ls hl => ?_)
  exact J2 9 M (0 : Int32) H locs ls hI (lv_sub hl [1, 2, 0] rfl) m0_KV m0_HV (iv_w (lo' := 0) (hi' := 8) kc_0 (by decide) (by decide)) (by have h9 := kc_0; simp only [iv] at h9; omega)
abbrev e_h_goInEarnest_X9 : List (Nat × Nat) := [(9, 41), (9, 42), (9, 43), (9, 44), (134, 999), (145, 999)]
set_option maxHeartbeats 4000000 in
set_option maxRecDepth 100000 in
theorem h_goInEarnest_X9 (l : Launch) (D : va_G) (g : Nat → ClassId) (σ : Nat → Option Nat) (Z : State → Heap → Prop) (hZ0 : hZ σ Z) (M : hM) (N : hN) (R : hR) (y : Nat) (g_y : σ y = some 9) (m0_KV : KV M R y) (m0_HV : HV M R y) (m0_CW : CW M R y) : Met l yX9_goInEarnest wsX9_goInEarnest ({ frames := 7, cells := 0, slots := 0, locals := 156 }) (va_Pc [.ref y] (hPre D g σ Z M N R)) (hQi D g σ e_h_goInEarnest_X9 M (fun (r : Int32) (M1 : hM) (N1 : hN) (R1 : hR) => N = N1 ∧ R = R1 ∧ iv r 0 127 ∧ (KV M1 R y))) 0 0 (hA σ) := by
  refine h_head (cc := cX9_goInEarnest) (maxL := 4) (ret := (some .int)) (by decide) rfl (Nat.le_of_ble_eq_true rfl) e_h_goInEarnest_X9 ?_
  intro p e s m below meth c ls Q ar hQ hx hb hr hlocks hml hown hts hK hE H locs hI hl
  have hown : s.vm.findClass RX9 = some m.cls := hown
  have hl : lv_has ls 4 [(0, .ref y)] := hl
  refine lv_aload_n hx hb dX9_goInEarnest_0 rfl (lv_at hl 0 rfl) ?_
  refine h_goi hI (by decide) (va_runV (As := []) (rest := []) ⟨hx, hb, hml, hown, hts⟩ (h_goQuarter_X9 l D g σ Z hZ0 M N R y g_y m0_CW) (cwV 0 hts gX9_goInEarnest_X9_goQuarter rfl rfl rfl (by decide +kernel) ⟨Nat.le_of_ble_eq_true rfl, Nat.le_of_ble_eq_true rfl⟩) (h_preV hZ0 hK hE hI g_y (by decide) rfl) rfl rfl hl.1 rfl (lv_room (Nat.le_of_ble_eq_true rfl)) dX9_goInEarnest_1 ⟨Nat.le_of_ble_eq_true rfl, Nat.le_of_ble_eq_true rfl⟩) (fun r1 M2 N3 R4 H locs q5 z_M2 hI => ?_)
  obtain ⟨rfl, rfl, i_r1, m6⟩ := q5
  refine lv_istore_n (lv' := [(1, .int r1), (0, .ref y)]) hx hb dX9_goInEarnest_4 rfl hl (by decide) rfl (fun ls hl => ?_)
  refine lv_iconst (v := 0) hx hb dX9_goInEarnest_5 (by decide) ?_
  refine lv_istore_n (lv' := [(2, .int (0 : Int32)), (1, .int r1), (0, .ref y)]) hx hb dX9_goInEarnest_6 rfl hl (by decide) rfl (fun ls hl => ?_)
  refine lv_iconst (v := 0) hx hb dX9_goInEarnest_7 (by decide) ?_
  have J9 : ∀ (n : Nat) (M_9 : hM) (v2_9 : Int32) (v3_9 : Int32) (H : Heap) (locs : List Loc) (ls : Array Slot), kI D g σ e_h_goInEarnest_X9 M s.heap M_9 N R H locs → lv_has ls 4 [(0, .ref y), (1, .int r1), (2, .int v2_9), (3, .int v3_9)] → KV M_9 R y → HV M_9 R y → CW M_9 R y → iv v2_9 0 255 → iv v3_9 0 6 → 7 ≤ v3_9.toInt + (n : Int) → W p l e (headSpec wsX9_goInEarnest ({ frames := 7, cells := 0, slots := 0, locals := 156 })).room s m ar below meth c H locs 0 0 Q (F0 m 9 ls []) := by
    intro n
    induction n with
    | zero => intro M_9 v2_9 v3_9 H locs ls hI hl m_KV_9 m_HV_9 m_CW_9 i_v2_9 i_v3_9 hn; exfalso; have hz := i_v3_9; simp only [iv] at hz; omega
    | succ n ih9 =>
      intro M_9 v2_9 v3_9 H locs ls hI hl m_KV_9 m_HV_9 m_CW_9 i_v2_9 i_v3_9 hn9
      refine lv_iload_n hx hb dX9_goInEarnest_9 rfl (lv_at hl 3 rfl) ?_
      refine lv_aload_n hx hb dX9_goInEarnest_10 rfl (lv_at hl 0 rfl) ?_
      refine h_goi hI (by decide) (va_runV (As := []) (rest := [.int v3_9]) ⟨hx, hb, hml, hown, hts⟩ (h_cattery_X9 l D g σ Z hZ0 M_9 N R y g_y) (cwV 0 hts gX9_goInEarnest_X9_cattery rfl rfl rfl (by decide +kernel) ⟨Nat.le_of_ble_eq_true rfl, Nat.le_of_ble_eq_true rfl⟩) (h_preV hZ0 hK hE hI g_y (by decide) rfl) rfl rfl hl.1 rfl (lv_room (Nat.le_of_ble_eq_true rfl)) dX9_goInEarnest_11 ⟨Nat.le_of_ble_eq_true rfl, Nat.le_of_ble_eq_true rfl⟩) (fun r7 M8 N9 R10 H locs q11 z_M8 hI => ?_)
      obtain ⟨rfl, rfl, rfl, i_r7, z12⟩ := q11
      refine lv_icmp_ge (tgt := 87) hx hb dX9_goInEarnest_14 (by decide) (fun c13 => ?_) (fun c13 => ?_)
      · refine lv_aload_n hx hb dX9_goInEarnest_87 rfl (lv_at hl 0 rfl) ?_
        refine lv_iload_n hx hb dX9_goInEarnest_88 rfl (lv_at hl 2 rfl) ?_
        refine h_gov hI (by decide) (va_runV (As := [.int v2_9]) (rest := []) ⟨hx, hb, hml, hown, hts⟩ (h_goDie_X9 l D g σ Z hZ0 M_9 N R y g_y v2_9 m_KV_9 m_HV_9) (cwV 1 hts gX9_goInEarnest_X9_goDie rfl rfl rfl (by decide +kernel) ⟨Nat.le_of_ble_eq_true rfl, Nat.le_of_ble_eq_true rfl⟩) (h_preV hZ0 hK hE hI g_y (by decide) rfl) rfl rfl hl.1 rfl (lv_room (Nat.le_of_ble_eq_true rfl)) dX9_goInEarnest_89 ⟨Nat.le_of_ble_eq_true rfl, Nat.le_of_ble_eq_true rfl⟩) (fun M15 N16 R17 H locs q18 z_M15 hI => ?_)
        obtain ⟨rfl, rfl, m19⟩ := q18
        refine lv_iload_n hx hb dX9_goInEarnest_92 rfl (lv_at hl 1 rfl) ?_
        exact h_iret hQ hx hb hr hlocks rfl hK hI ⟨rfl, rfl, i_r1, m19⟩ dX9_goInEarnest_93
      · have i20 : iv r7 1 6 := iv_nle1 c13 i_r7 i_v3_9 (by decide)
        have i21 : iv v3_9 0 5 := iv_nle2 c13 i_r7 i_v3_9 (by decide)
        refine lv_aload_n hx hb dX9_goInEarnest_17 rfl (lv_at hl 0 rfl) ?_
        refine lv_iload_n hx hb dX9_goInEarnest_18 rfl (lv_at hl 3 rfl) ?_
        refine h_goi hI (by decide) (va_runV (As := [.int v3_9]) (rest := []) ⟨hx, hb, hml, hown, hts⟩ (h_lives_X9 l D g σ Z hZ0 M_9 N R y g_y v3_9) (cwV 1 hts gX9_goInEarnest_X9_lives rfl rfl rfl (by decide +kernel) ⟨Nat.le_of_ble_eq_true rfl, Nat.le_of_ble_eq_true rfl⟩) (h_preV hZ0 hK hE hI g_y (by decide) rfl) rfl rfl hl.1 rfl (lv_room (Nat.le_of_ble_eq_true rfl)) dX9_goInEarnest_19 ⟨Nat.le_of_ble_eq_true rfl, Nat.le_of_ble_eq_true rfl⟩) (fun r22 M23 N24 R25 H locs q26 z_M23 hI => ?_)
        obtain ⟨rfl, rfl, rfl, i_r22⟩ := q26
        have J81 : ∀ (M_81 : hM) (v2_81 : Int32) (H : Heap) (locs : List Loc) (ls : Array Slot), kI D g σ e_h_goInEarnest_X9 M s.heap M_81 N R H locs → lv_has ls 4 [(0, .ref y), (1, .int r1), (2, .int v2_81), (3, .int v3_9)] → KV M_81 R y → HV M_81 R y → CW M_81 R y → iv v2_81 0 255 → W p l e (headSpec wsX9_goInEarnest ({ frames := 7, cells := 0, slots := 0, locals := 156 })).room s m ar below meth c H locs 0 0 Q (F0 m 81 ls []) := by
          intro M_81 v2_81 H locs ls hI hl m_KV_81 m_HV_81 m_CW_81 i_v2_81
          obtain ⟨v27, e_v27⟩ : ∃ z : Int32, z = v3_9 + Int32.ofInt 1 := ⟨_, rfl⟩
          have i_v27 : iv v27 1 6 := by rw [e_v27]; exact iv_add i21 (ki_1) (by decide) (by decide) (by decide) (by decide)
          refine lv_iinc (v := v27) (lv' := [(3, .int v27), (0, .ref y), (1, .int r1), (2, .int v2_81)]) hx hb dX9_goInEarnest_81 hl (k := 3) rfl e_v27.symm (by decide) rfl (fun ls hl => ?_)
          refine lv_goto (tgt := 9) hx hb dX9_goInEarnest_84 (by decide) ?_
          exact ih9 M_81 v2_81 v27 H locs ls hI (lv_sub hl [1, 2, 3, 0] rfl) m_KV_81 m_HV_81 m_CW_81 i_v2_81 (iv_w (lo' := 0) (hi' := 6) i_v27 (by decide) (by decide)) (by have h9 := (h_inc e_v27 i21 ki_1 (by decide) (by decide)); omega)
        refine lv_if_ne (tgt := 28) hx hb dX9_goInEarnest_22 (by decide) (fun c28 => ?_) (fun c28 => ?_)
        · have i29 : iv r22 1 1 := iv_neL c28 i_r22 (by decide) (by decide)
          refine lv_aload_n hx hb dX9_goInEarnest_28 rfl (lv_at hl 0 rfl) ?_
          refine h_getr hx hb hts iX9_goInEarnest_X9 hown hK hI g_y (by decide) rfl rfl 45 (by decide) rfl 145 rfl (hts (.fieldLink RX9 94 "CatLeasesModel" "all" "[I") (List.mem_of_getElem? (i := 1) rfl)) (fun _ h9 => h9) dX9_goInEarnest_29 (fun a30 e_a30 g_a30 => ?_)
          refine lv_bipush (v := 38) hx hb dX9_goInEarnest_32 (by decide) ?_
          refine lv_sipush (v := 137) hx hb dX9_goInEarnest_34 (by decide) ?_
          refine lv_aload_n hx hb dX9_goInEarnest_37 rfl (lv_at hl 0 rfl) ?_
          refine h_getr hx hb hts iX9_goInEarnest_X9 hown hK hI g_y (by decide) rfl rfl 45 (by decide) rfl 145 rfl (hts (.fieldLink RX9 94 "CatLeasesModel" "all" "[I") (List.mem_of_getElem? (i := 1) rfl)) (fun _ h9 => h9) dX9_goInEarnest_38 (fun a31 e_a31 g_a31 => ?_)
          have q32 : a30 = a31 := (e_a30).trans e_a31.symm
          subst q32
          refine lv_bipush (v := 38) hx hb dX9_goInEarnest_41 (by decide) ?_
          refine h_iald (j := 38) (lo := (-2147483648)) (hi := 2147483647) hx hb hK hI g_a30 (by decide) rfl (iv_in (n := 39) kc_38 (by decide) (by decide)) (by decide) (iv_any _) dX9_goInEarnest_43 (fun v33 e_v33 i_v33 => ?_)
          refine lv_imul hx hb dX9_goInEarnest_44 ?_
          refine h_nm (lo := (-2147483648)) (hi := 2147483647) (iv_any _) (fun v34 e_v34 i_v34 => ?_)
          refine lv_bipush (v := 71) hx hb dX9_goInEarnest_45 (by decide) ?_
          refine lv_iadd hx hb dX9_goInEarnest_47 ?_
          refine h_nm (lo := (-2147483648)) (hi := 2147483647) (iv_any _) (fun v35 e_v35 i_v35 => ?_)
          refine lv_sipush (v := 1000) hx hb dX9_goInEarnest_48 (by decide) ?_
          refine lv_irem hx hb dX9_goInEarnest_51 (by decide) ?_
          refine h_nm (lo := (-2147483648)) (hi := 2147483647) (iv_any _) (fun v36 e_v36 i_v36 => ?_)
          refine h_iast (j := 38) hx hb hK hI g_a30 (by decide) rfl (iv_in (n := 39) kc_38 (by decide) (by decide)) (by decide) (iv_any _) rfl dX9_goInEarnest_52 (fun M37 H locs e_M37 hI => ?_)
          refine lv_aload_n hx hb dX9_goInEarnest_53 rfl (lv_at hl 0 rfl) ?_
          refine h_getr hx hb hts iX9_goInEarnest_X9 hown hK hI g_y (by decide) rfl rfl 45 (by decide) rfl 145 rfl (hts (.fieldLink RX9 94 "CatLeasesModel" "all" "[I") (List.mem_of_getElem? (i := 1) rfl)) (fun _ h9 => h9) dX9_goInEarnest_54 (fun a38 e_a38 g_a38 => ?_)
          have q39 : a30 = a38 := (e_a30).trans e_a38.symm
          subst q39
          refine lv_bipush (v := 38) hx hb dX9_goInEarnest_57 (by decide) ?_
          refine h_iald (j := 38) (lo := (-2147483648)) (hi := 2147483647) hx hb hK hI g_a30 (by decide) rfl (iv_in (n := 39) kc_38 (by decide) (by decide)) (by decide) (iv_any _) dX9_goInEarnest_59 (fun v40 e_v40 i_v40 => ?_)
          have q41 : v36 = v40 := ((u2_wr e_M37)).trans e_v40.symm
          subst q41
          refine lv_bipush (v := 100) hx hb dX9_goInEarnest_60 (by decide) ?_
          refine lv_irem hx hb dX9_goInEarnest_62 (by decide) ?_
          refine h_nm (lo := (-2147483648)) (hi := 2147483647) (iv_any _) (fun v42 e_v42 i_v42 => ?_)
          refine lv_aload_n hx hb dX9_goInEarnest_63 rfl (lv_at hl 0 rfl) ?_
          refine h_getr hx hb hts iX9_goInEarnest_X9 hown hK hI g_y (by decide) rfl rfl 15 (by decide) rfl 115 rfl (hts (.fieldLink RX9 33 "CatLeasesModel" "dies" "[I") (List.mem_of_getElem? (i := 2) rfl)) (fun _ h9 => h9) dX9_goInEarnest_64 (fun a43 e_a43 g_a43 => ?_)
          refine lv_aload_n hx hb dX9_goInEarnest_67 rfl (lv_at hl 0 rfl) ?_
          refine h_geti (lo := 0) (hi := 1) hx hb hts iX9_goInEarnest_X9 hown hK hI g_y (by decide) rfl rfl 35 (by decide) rfl rfl (hts (.fieldLink RX9 268 "CatLeasesModel" "bank" "I") (List.mem_of_getElem? (i := 3) rfl)) (fun _ h9 => h9) dX9_goInEarnest_68 (fun v44 e_v44 i_v44 => ?_)
          refine h_iald (j := v44.toNatClampNeg) (lo := (-2147483648)) (hi := 2147483647) hx hb hK hI g_a43 (by decide) rfl (iv_in (n := 2) i_v44 (by decide) (by decide)) rfl (iv_any _) dX9_goInEarnest_71 (fun v45 e_v45 i_v45 => ?_)
          refine lv_icmp_ge (tgt := 81) hx hb dX9_goInEarnest_72 (by decide) (fun c46 => ?_) (fun c46 => ?_)
          · have m47 : KV M37 R y := (KV_off hI.2.1 g_y m_KV_9 e_M37 g_a30 (by decide))
            have m48 : HV M37 R y := (HV_ag hI.2.1 g_y m_HV_9 (hAd.put e_M37 g_a30 rfl))
            have m49 : CW M37 R y := (CW_ag hI.2.1 g_y m_CW_9 (hAd.put e_M37 g_a30 rfl))
            exact J81 M37 v2_9 H locs ls hI hl m47 m48 m49 i_v2_9
          · have i50 : iv v45 (-2147483647) 2147483647 := iv_nle1 c46 i_v45 i_v42 (by decide)
            have i51 : iv v42 (-2147483648) 2147483646 := iv_nle2 c46 i_v45 i_v42 (by decide)
            refine lv_iload_n hx hb dX9_goInEarnest_75 rfl (lv_at hl 2 rfl) ?_
            refine lv_iconst (v := 1) hx hb dX9_goInEarnest_76 (by decide) ?_
            refine lv_iload_n hx hb dX9_goInEarnest_77 rfl (lv_at hl 3 rfl) ?_
            refine lv_ishl hx hb dX9_goInEarnest_78 ?_
            refine h_nm (lo := 1) (hi := 32) (iv_shl1 5 i21 (by decide) (by decide) (by decide) (by decide) (by decide)) (fun v52 e_v52 i_v52 => ?_)
            refine lv_ior hx hb dX9_goInEarnest_79 ?_
            refine h_nm (lo := 0) (hi := 255) (iv_or 8 i_v2_9 i_v52 (by decide) (by decide) (by decide) (by decide) (by decide) (by decide)) (fun v53 e_v53 i_v53 => ?_)
            refine lv_istore_n (lv' := [(2, .int v53), (0, .ref y), (1, .int r1), (3, .int v3_9)]) hx hb dX9_goInEarnest_80 rfl hl (by decide) rfl (fun ls hl => ?_)
            have m54 : KV M37 R y := (KV_off hI.2.1 g_y m_KV_9 e_M37 g_a30 (by decide))
            have m55 : HV M37 R y := (HV_ag hI.2.1 g_y m_HV_9 (hAd.put e_M37 g_a30 rfl))
            have m56 : CW M37 R y := (CW_ag hI.2.1 g_y m_CW_9 (hAd.put e_M37 g_a30 rfl))
            exact J81 M37 v53 H locs ls hI (lv_sub hl [1, 2, 0, 3] rfl) m54 m55 m56 i_v53
        · have i57 : iv r22 0 0 := iv_eq1 c28 i_r22 kc_0
          refine lv_goto (tgt := 81) hx hb dX9_goInEarnest_25 (by decide) ?_
          exact J81 M_9 v2_9 H locs ls hI hl m_KV_9 m_HV_9 m_CW_9 i_v2_9
  refine lv_istore_n (lv' := [(3, .int (0 : Int32)), (2, .int (0 : Int32)), (1, .int r1), (0, .ref y)]) hx hb dX9_goInEarnest_8 rfl hl (by decide) rfl (fun ls hl => ?_)
  have m58 : KV M2 R y := (m6 m0_KV)
  have m59 : HV M2 R y := (HV_ag hI.2.1 g_y m0_HV (hAd.ag z_M2 (by decide)))
  have m60 : CW M2 R y := (CW_ag hI.2.1 g_y m0_CW (hAd.ag z_M2 (by decide)))
  exact J9 7 M2 (0 : Int32) (0 : Int32) H locs ls hI (lv_sub hl [3, 2, 1, 0] rfl) m58 m59 m60 (iv_w (lo' := 0) (hi' := 255) kc_0 (by decide) (by decide)) (iv_w (lo' := 0) (hi' := 6) kc_0 (by decide) (by decide)) (by have h9 := kc_0; simp only [iv] at h9; omega)
abbrev e_h_keeper_X9 : List (Nat × Nat) := []
set_option maxHeartbeats 4000000 in
set_option maxRecDepth 100000 in
theorem h_keeper_X9 (l : Launch) (D : va_G) (g : Nat → ClassId) (σ : Nat → Option Nat) (Z : State → Heap → Prop) (hZ0 : hZ σ Z) (M : hM) (N : hN) (R : hR) (y : Nat) (g_y : σ y = some 9) (p1 : Int32) (p2 : Int32) (m0_KV : KV M R y) (m0_HV : HV M R y) : Met l yX9_keeper wsX9_keeper ({ frames := 4, cells := 0, slots := 0, locals := 88 }) (va_Pc [.ref y, .int p1, .int p2] (hPre D g σ Z M N R)) (hQi D g σ e_h_keeper_X9 M (fun (r : Int32) (M1 : hM) (N1 : hN) (R1 : hR) => M = M1 ∧ N = N1 ∧ R = R1 ∧ iv r (-2) 5)) 0 0 (hA σ) := by
  refine h_head (cc := cX9_keeper) (maxL := 3) (ret := (some .int)) (by decide) rfl (Nat.le_of_ble_eq_true rfl) e_h_keeper_X9 ?_
  intro p e s m below meth c ls Q ar hQ hx hb hr hlocks hml hown hts hK hE H locs hI hl
  have hown : s.vm.findClass RX9 = some m.cls := hown
  have hl : lv_has ls 3 [(0, .ref y), (1, .int p1), (2, .int p2)] := hl
  refine lv_aload_n hx hb dX9_keeper_0 rfl (lv_at hl 0 rfl) ?_
  refine lv_iload_n hx hb dX9_keeper_1 rfl (lv_at hl 1 rfl) ?_
  refine h_goi hI (by decide) (va_runV (As := [.int p1]) (rest := []) ⟨hx, hb, hml, hown, hts⟩ (h_isRoom_X9 l D g σ Z hZ0 M N R y g_y p1) (cwV 1 hts gX9_keeper_X9_isRoom rfl rfl rfl (by decide +kernel) ⟨Nat.le_of_ble_eq_true rfl, Nat.le_of_ble_eq_true rfl⟩) (h_preV hZ0 hK hE hI g_y (by decide) rfl) rfl rfl hl.1 rfl (lv_room (Nat.le_of_ble_eq_true rfl)) dX9_keeper_2 ⟨Nat.le_of_ble_eq_true rfl, Nat.le_of_ble_eq_true rfl⟩) (fun r1 M2 N3 R4 H locs q5 z_M2 hI => ?_)
  obtain ⟨rfl, rfl, rfl, i_r1, z6⟩ := q5
  refine lv_if_eq (tgt := 25) hx hb dX9_keeper_5 (by decide) (fun c7 => ?_) (fun c7 => ?_)
  · have i8 : iv r1 0 0 := iv_eq1 c7 i_r1 kc_0
    refine lv_bipush (v := (-2)) hx hb dX9_keeper_25 (by decide) ?_
    exact h_iret hQ hx hb hr hlocks rfl hK hI ⟨rfl, rfl, rfl, (iv_w (lo' := (-2)) (hi' := 5) kc_m2 (by decide) (by decide))⟩ dX9_keeper_27
  · have i9 : iv p1 0 7 := z6 c7
    have i10 : iv r1 1 1 := iv_neL c7 i_r1 (by decide) (by decide)
    refine lv_aload_n hx hb dX9_keeper_8 rfl (lv_at hl 0 rfl) ?_
    refine lv_iload_n hx hb dX9_keeper_9 rfl (lv_at hl 2 rfl) ?_
    refine h_goi hI (by decide) (va_runV (As := [.int p2]) (rest := []) ⟨hx, hb, hml, hown, hts⟩ (h_areCats_X9 l D g σ Z hZ0 M N R y g_y p2) (cwV 1 hts gX9_keeper_X9_areCats rfl rfl rfl (by decide +kernel) ⟨Nat.le_of_ble_eq_true rfl, Nat.le_of_ble_eq_true rfl⟩) (h_preV hZ0 hK hE hI g_y (by decide) rfl) rfl rfl hl.1 rfl (lv_room (Nat.le_of_ble_eq_true rfl)) dX9_keeper_10 ⟨Nat.le_of_ble_eq_true rfl, Nat.le_of_ble_eq_true rfl⟩) (fun r11 M12 N13 R14 H locs q15 z_M12 hI => ?_)
    obtain ⟨rfl, rfl, rfl, i_r11, z16⟩ := q15
    refine lv_if_eq (tgt := 25) hx hb dX9_keeper_13 (by decide) (fun c17 => ?_) (fun c17 => ?_)
    · have i18 : iv r11 0 0 := iv_eq1 c17 i_r11 kc_0
      refine lv_bipush (v := (-2)) hx hb dX9_keeper_25 (by decide) ?_
      exact h_iret hQ hx hb hr hlocks rfl hK hI ⟨rfl, rfl, rfl, (iv_w (lo' := (-2)) (hi' := 5) kc_m2 (by decide) (by decide))⟩ dX9_keeper_27
    · have i19 : iv p2 0 63 := z16 c17
      have i20 : iv r11 1 1 := iv_neL c17 i_r11 (by decide) (by decide)
      refine lv_aload_n hx hb dX9_keeper_16 rfl (lv_at hl 0 rfl) ?_
      refine lv_iload_n hx hb dX9_keeper_17 rfl (lv_at hl 1 rfl) ?_
      refine lv_iload_n hx hb dX9_keeper_18 rfl (lv_at hl 2 rfl) ?_
      refine h_goi hI (by decide) (va_runV (As := [.int p1, .int p2]) (rest := []) ⟨hx, hb, hml, hown, hts⟩ (h_keeperIf_X9 l D g σ Z hZ0 M N R y g_y p1 i9 p2 m0_KV m0_HV) (cwV 2 hts gX9_keeper_X9_keeperIf rfl rfl rfl (by decide +kernel) ⟨Nat.le_of_ble_eq_true rfl, Nat.le_of_ble_eq_true rfl⟩) (h_preV hZ0 hK hE hI g_y (by decide) rfl) rfl rfl hl.1 rfl (lv_room (Nat.le_of_ble_eq_true rfl)) dX9_keeper_19 ⟨Nat.le_of_ble_eq_true rfl, Nat.le_of_ble_eq_true rfl⟩) (fun r21 M22 N23 R24 H locs q25 z_M22 hI => ?_)
      obtain ⟨rfl, rfl, rfl, i_r21, z26⟩ := q25
      refine lv_goto (tgt := 27) hx hb dX9_keeper_22 (by decide) ?_
      exact h_iret hQ hx hb hr hlocks rfl hK hI ⟨rfl, rfl, rfl, (iv_w (lo' := (-2)) (hi' := 5) i_r21 (by decide) (by decide))⟩ dX9_keeper_27
abbrev e_h_probate_X9 : List (Nat × Nat) := []
set_option maxHeartbeats 4000000 in
set_option maxRecDepth 100000 in
theorem h_probate_X9 (l : Launch) (D : va_G) (g : Nat → ClassId) (σ : Nat → Option Nat) (Z : State → Heap → Prop) (hZ0 : hZ σ Z) (M : hM) (N : hN) (R : hR) (y : Nat) (g_y : σ y = some 9) (p1 : Int32) (m0_KV : KV M R y) (m0_HV : HV M R y) : Met l yX9_probate wsX9_probate ({ frames := 4, cells := 0, slots := 0, locals := 88 }) (va_Pc [.ref y, .int p1] (hPre D g σ Z M N R)) (hQi D g σ e_h_probate_X9 M (fun (r : Int32) (M1 : hM) (N1 : hN) (R1 : hR) => M = M1 ∧ N = N1 ∧ R = R1)) 0 0 (hA σ) := by
  refine h_head (cc := cX9_probate) (maxL := 4) (ret := (some .int)) (by decide) rfl (Nat.le_of_ble_eq_true rfl) e_h_probate_X9 ?_
  intro p e s m below meth c ls Q ar hQ hx hb hr hlocks hml hown hts hK hE H locs hI hl
  have hown : s.vm.findClass RX9 = some m.cls := hown
  have hl : lv_has ls 4 [(0, .ref y), (1, .int p1)] := hl
  refine lv_aload_n hx hb dX9_probate_0 rfl (lv_at hl 0 rfl) ?_
  refine lv_iload_n hx hb dX9_probate_1 rfl (lv_at hl 1 rfl) ?_
  refine h_goi hI (by decide) (va_runV (As := [.int p1]) (rest := []) ⟨hx, hb, hml, hown, hts⟩ (h_areCats_X9 l D g σ Z hZ0 M N R y g_y p1) (cwV 1 hts gX9_probate_X9_areCats rfl rfl rfl (by decide +kernel) ⟨Nat.le_of_ble_eq_true rfl, Nat.le_of_ble_eq_true rfl⟩) (h_preV hZ0 hK hE hI g_y (by decide) rfl) rfl rfl hl.1 rfl (lv_room (Nat.le_of_ble_eq_true rfl)) dX9_probate_2 ⟨Nat.le_of_ble_eq_true rfl, Nat.le_of_ble_eq_true rfl⟩) (fun r1 M2 N3 R4 H locs q5 z_M2 hI => ?_)
  obtain ⟨rfl, rfl, rfl, i_r1, z6⟩ := q5
  refine lv_if_ne (tgt := 10) hx hb dX9_probate_5 (by decide) (fun c7 => ?_) (fun c7 => ?_)
  · have i8 : iv p1 0 63 := z6 c7
    have i9 : iv r1 1 1 := iv_neL c7 i_r1 (by decide) (by decide)
    refine lv_iconst (v := 0) hx hb dX9_probate_10 (by decide) ?_
    refine lv_istore_n (lv' := [(2, .int (0 : Int32)), (0, .ref y), (1, .int p1)]) hx hb dX9_probate_11 rfl hl (by decide) rfl (fun ls hl => ?_)
    refine lv_iconst (v := 0) hx hb dX9_probate_12 (by decide) ?_
    have J14 : ∀ (n : Nat) (v2_14 : Int32) (v3_14 : Int32) (H : Heap) (locs : List Loc) (ls : Array Slot), kI D g σ e_h_probate_X9 M s.heap M N R H locs → lv_has ls 4 [(0, .ref y), (1, .int p1), (2, .int v2_14), (3, .int v3_14)] → iv v3_14 0 8 → 9 ≤ v3_14.toInt + (n : Int) → W p l e (headSpec wsX9_probate ({ frames := 4, cells := 0, slots := 0, locals := 88 })).room s m ar below meth c H locs 0 0 Q (F0 m 14 ls []) := by
      intro n
      induction n with
      | zero => intro v2_14 v3_14 H locs ls hI hl i_v3_14 hn; exfalso; have hz := i_v3_14; simp only [iv] at hz; omega
      | succ n ih14 =>
        intro v2_14 v3_14 H locs ls hI hl i_v3_14 hn14
        refine lv_iload_n hx hb dX9_probate_14 rfl (lv_at hl 3 rfl) ?_
        refine lv_aload_n hx hb dX9_probate_15 rfl (lv_at hl 0 rfl) ?_
        refine h_goi hI (by decide) (va_runV (As := []) (rest := [.int v3_14]) ⟨hx, hb, hml, hown, hts⟩ (h_chambers_X9 l D g σ Z hZ0 M N R y g_y) (cwV 0 hts gX9_probate_X9_chambers rfl rfl rfl (by decide +kernel) ⟨Nat.le_of_ble_eq_true rfl, Nat.le_of_ble_eq_true rfl⟩) (h_preV hZ0 hK hE hI g_y (by decide) rfl) rfl rfl hl.1 rfl (lv_room (Nat.le_of_ble_eq_true rfl)) dX9_probate_16 ⟨Nat.le_of_ble_eq_true rfl, Nat.le_of_ble_eq_true rfl⟩) (fun r10 M11 N12 R13 H locs q14 z_M11 hI => ?_)
        obtain ⟨rfl, rfl, rfl, i_r10, z15⟩ := q14
        refine lv_icmp_ge (tgt := 45) hx hb dX9_probate_19 (by decide) (fun c16 => ?_) (fun c16 => ?_)
        · refine lv_iload_n hx hb dX9_probate_45 rfl (lv_at hl 2 rfl) ?_
          exact h_iret hQ hx hb hr hlocks rfl hK hI ⟨rfl, rfl, rfl⟩ dX9_probate_46
        · have i17 : iv r10 1 8 := iv_nle1 c16 i_r10 i_v3_14 (by decide)
          have i18 : iv v3_14 0 7 := iv_nle2 c16 i_r10 i_v3_14 (by decide)
          refine lv_iload_n hx hb dX9_probate_22 rfl (lv_at hl 2 rfl) ?_
          refine lv_aload_n hx hb dX9_probate_23 rfl (lv_at hl 0 rfl) ?_
          refine lv_iload_n hx hb dX9_probate_24 rfl (lv_at hl 3 rfl) ?_
          refine lv_iload_n hx hb dX9_probate_25 rfl (lv_at hl 1 rfl) ?_
          refine h_goi hI (by decide) (va_runV (As := [.int v3_14, .int p1]) (rest := [.int v2_14]) ⟨hx, hb, hml, hown, hts⟩ (h_keeperIf_X9 l D g σ Z hZ0 M N R y g_y v3_14 i18 p1 m0_KV m0_HV) (cwV 2 hts gX9_probate_X9_keeperIf rfl rfl rfl (by decide +kernel) ⟨Nat.le_of_ble_eq_true rfl, Nat.le_of_ble_eq_true rfl⟩) (h_preV hZ0 hK hE hI g_y (by decide) rfl) rfl rfl hl.1 rfl (lv_room (Nat.le_of_ble_eq_true rfl)) dX9_probate_26 ⟨Nat.le_of_ble_eq_true rfl, Nat.le_of_ble_eq_true rfl⟩) (fun r19 M20 N21 R22 H locs q23 z_M20 hI => ?_)
          obtain ⟨rfl, rfl, rfl, i_r19, z24⟩ := q23
          have J37 : ∀ (t1_37 : Int32) (H : Heap) (locs : List Loc) (ls : Array Slot), kI D g σ e_h_probate_X9 M s.heap M N R H locs → lv_has ls 4 [(0, .ref y), (1, .int p1), (3, .int v3_14)] → iv t1_37 0 1 → W p l e (headSpec wsX9_probate ({ frames := 4, cells := 0, slots := 0, locals := 88 })).room s m ar below meth c H locs 0 0 Q (F0 m 37 ls [.int t1_37, .int v2_14]) := by
            intro t1_37 H locs ls hI hl i_t1_37
            refine lv_iadd hx hb dX9_probate_37 ?_
            refine h_nm (lo := (-2147483648)) (hi := 2147483647) (iv_any _) (fun v25 e_v25 i_v25 => ?_)
            refine lv_istore_n (lv' := [(2, .int v25), (0, .ref y), (1, .int p1), (3, .int v3_14)]) hx hb dX9_probate_38 rfl hl (by decide) rfl (fun ls hl => ?_)
            obtain ⟨v26, e_v26⟩ : ∃ z : Int32, z = v3_14 + Int32.ofInt 1 := ⟨_, rfl⟩
            have i_v26 : iv v26 1 8 := by rw [e_v26]; exact iv_add i18 (ki_1) (by decide) (by decide) (by decide) (by decide)
            refine lv_iinc (v := v26) (lv' := [(3, .int v26), (2, .int v25), (0, .ref y), (1, .int p1)]) hx hb dX9_probate_39 hl (k := 3) rfl e_v26.symm (by decide) rfl (fun ls hl => ?_)
            refine lv_goto (tgt := 14) hx hb dX9_probate_42 (by decide) ?_
            exact ih14 v25 v26 H locs ls hI (lv_sub hl [2, 3, 1, 0] rfl) (iv_w (lo' := 0) (hi' := 8) i_v26 (by decide) (by decide)) (by have h9 := (h_inc e_v26 i18 ki_1 (by decide) (by decide)); omega)
          refine lv_if_ge (tgt := 36) hx hb dX9_probate_29 (by decide) (fun c27 => ?_) (fun c27 => ?_)
          · have i28 : iv r19 0 5 := iv_le2 c27 kc_0 i_r19 (by decide)
            refine lv_iconst (v := 0) hx hb dX9_probate_36 (by decide) ?_
            exact J37 (0 : Int32) H locs ls hI (lv_sub hl [0, 1, 3] rfl) (iv_w (lo' := 0) (hi' := 1) kc_0 (by decide) (by decide))
          · have i29 : iv r19 (-1) (-1) := iv_nle2 c27 kc_0 i_r19 (by decide)
            refine lv_iconst (v := 1) hx hb dX9_probate_32 (by decide) ?_
            refine lv_goto (tgt := 37) hx hb dX9_probate_33 (by decide) ?_
            exact J37 (1 : Int32) H locs ls hI (lv_sub hl [0, 1, 3] rfl) (iv_w (lo' := 0) (hi' := 1) kc_1 (by decide) (by decide))
    refine lv_istore_n (lv' := [(3, .int (0 : Int32)), (2, .int (0 : Int32)), (0, .ref y), (1, .int p1)]) hx hb dX9_probate_13 rfl hl (by decide) rfl (fun ls hl => ?_)
    exact J14 9 (0 : Int32) (0 : Int32) H locs ls hI (lv_sub hl [2, 3, 1, 0] rfl) (iv_w (lo' := 0) (hi' := 8) kc_0 (by decide) (by decide)) (by have h9 := kc_0; simp only [iv] at h9; omega)
  · have i30 : iv r1 0 0 := iv_eq1 c7 i_r1 kc_0
    refine lv_iconst (v := (-1)) hx hb dX9_probate_8 (by decide) ?_
    exact h_iret hQ hx hb hr hlocks rfl hK hI ⟨rfl, rfl, rfl⟩ dX9_probate_9
abbrev e_h_odds_X9 : List (Nat × Nat) := []
set_option maxHeartbeats 4000000 in
set_option maxRecDepth 100000 in
theorem h_odds_X9 (l : Launch) (D : va_G) (g : Nat → ClassId) (σ : Nat → Option Nat) (Z : State → Heap → Prop) (hZ0 : hZ σ Z) (M : hM) (N : hN) (R : hR) (y : Nat) (g_y : σ y = some 9) (p1 : Int32) (p2 : Int32) (p3 : Int32) : Met l yX9_odds wsX9_odds ({ frames := 2, cells := 0, slots := 0, locals := 43 }) (va_Pc [.ref y, .int p1, .int p2, .int p3] (hPre D g σ Z M N R)) (hQi D g σ e_h_odds_X9 M (fun (r : Int32) (M1 : hM) (N1 : hN) (R1 : hR) => M = M1 ∧ N = N1 ∧ R = R1)) 0 0 (hA σ) := by
  refine h_head (cc := cX9_odds) (maxL := 6) (ret := (some .int)) (by decide) rfl (Nat.le_of_ble_eq_true rfl) e_h_odds_X9 ?_
  intro p e s m below meth c ls Q ar hQ hx hb hr hlocks hml hown hts hK hE H locs hI hl
  have hown : s.vm.findClass RX9 = some m.cls := hown
  have hl : lv_has ls 6 [(0, .ref y), (1, .int p1), (2, .int p2), (3, .int p3)] := hl
  refine lv_aload_n hx hb dX9_odds_0 rfl (lv_at hl 0 rfl) ?_
  refine lv_iload_n hx hb dX9_odds_1 rfl (lv_at hl 1 rfl) ?_
  refine h_goi hI (by decide) (va_runV (As := [.int p1]) (rest := []) ⟨hx, hb, hml, hown, hts⟩ (h_isCat_X9 l D g σ Z hZ0 M N R y g_y p1) (cwV 1 hts gX9_odds_X9_isCat rfl rfl rfl (by decide +kernel) ⟨Nat.le_of_ble_eq_true rfl, Nat.le_of_ble_eq_true rfl⟩) (h_preV hZ0 hK hE hI g_y (by decide) rfl) rfl rfl hl.1 rfl (lv_room (Nat.le_of_ble_eq_true rfl)) dX9_odds_2 ⟨Nat.le_of_ble_eq_true rfl, Nat.le_of_ble_eq_true rfl⟩) (fun r1 M2 N3 R4 H locs q5 z_M2 hI => ?_)
  obtain ⟨rfl, rfl, rfl, i_r1, z6, z7⟩ := q5
  refine lv_if_eq (tgt := 34) hx hb dX9_odds_5 (by decide) (fun c8 => ?_) (fun c8 => ?_)
  · have i9 : iv r1 0 0 := iv_eq1 c8 i_r1 kc_0
    refine lv_iconst (v := (-1)) hx hb dX9_odds_34 (by decide) ?_
    exact h_iret hQ hx hb hr hlocks rfl hK hI ⟨rfl, rfl, rfl⟩ dX9_odds_35
  · have i10 : iv p1 0 5 := z6 c8
    have i11 : iv r1 1 1 := iv_neL c8 i_r1 (by decide) (by decide)
    refine lv_aload_n hx hb dX9_odds_8 rfl (lv_at hl 0 rfl) ?_
    refine lv_iload_n hx hb dX9_odds_9 rfl (lv_at hl 1 rfl) ?_
    refine h_goi hI (by decide) (va_runV (As := [.int p1]) (rest := []) ⟨hx, hb, hml, hown, hts⟩ (h_lives_X9 l D g σ Z hZ0 M N R y g_y p1) (cwV 1 hts gX9_odds_X9_lives rfl rfl rfl (by decide +kernel) ⟨Nat.le_of_ble_eq_true rfl, Nat.le_of_ble_eq_true rfl⟩) (h_preV hZ0 hK hE hI g_y (by decide) rfl) rfl rfl hl.1 rfl (lv_room (Nat.le_of_ble_eq_true rfl)) dX9_odds_10 ⟨Nat.le_of_ble_eq_true rfl, Nat.le_of_ble_eq_true rfl⟩) (fun r12 M13 N14 R15 H locs q16 z_M13 hI => ?_)
    obtain ⟨rfl, rfl, rfl, i_r12⟩ := q16
    refine lv_if_eq (tgt := 34) hx hb dX9_odds_13 (by decide) (fun c17 => ?_) (fun c17 => ?_)
    · have i18 : iv r12 0 0 := iv_eq1 c17 i_r12 kc_0
      refine lv_iconst (v := (-1)) hx hb dX9_odds_34 (by decide) ?_
      exact h_iret hQ hx hb hr hlocks rfl hK hI ⟨rfl, rfl, rfl⟩ dX9_odds_35
    · have i19 : iv r12 1 1 := iv_neL c17 i_r12 (by decide) (by decide)
      refine lv_iload_n hx hb dX9_odds_16 rfl (lv_at hl 2 rfl) ?_
      refine lv_iconst (v := 0) hx hb dX9_odds_17 (by decide) ?_
      refine lv_iconst (v := 4) hx hb dX9_odds_18 (by decide) ?_
      refine h_goi hI (by decide) (va_runS (As := [.int p2, .int (0 : Int32), .int (4 : Int32)]) (rest := []) ⟨hx, hb, hml, hown, hts⟩ (h_isIn_X9 l D g σ Z hZ0 M N R p2 (0 : Int32) (4 : Int32)) (va_cwS 3 hts gX9_odds_X9_isIn rfl rfl rfl (by decide +kernel) ⟨Nat.le_of_ble_eq_true rfl, Nat.le_of_ble_eq_true rfl⟩) (h_preS hZ0 hK hE hI) rfl rfl hl.1 rfl (lv_room (Nat.le_of_ble_eq_true rfl)) dX9_odds_19 ⟨Nat.le_of_ble_eq_true rfl, Nat.le_of_ble_eq_true rfl⟩) (fun r20 M21 N22 R23 H locs q24 z_M21 hI => ?_)
      obtain ⟨rfl, rfl, rfl, i_r20, z25⟩ := q24
      refine lv_if_eq (tgt := 34) hx hb dX9_odds_22 (by decide) (fun c26 => ?_) (fun c26 => ?_)
      · have i27 : iv r20 0 0 := iv_eq1 c26 i_r20 kc_0
        refine lv_iconst (v := (-1)) hx hb dX9_odds_34 (by decide) ?_
        exact h_iret hQ hx hb hr hlocks rfl hK hI ⟨rfl, rfl, rfl⟩ dX9_odds_35
      · have i28 : iv p2 0 4 := (fun h9 => iv_isin (z25 h9) kc_0 kc_4) c26
        have i29 : iv r20 1 1 := iv_neL c26 i_r20 (by decide) (by decide)
        refine lv_iload_n hx hb dX9_odds_25 rfl (lv_at hl 3 rfl) ?_
        refine lv_iconst (v := 0) hx hb dX9_odds_26 (by decide) ?_
        refine lv_iconst (v := 1) hx hb dX9_odds_27 (by decide) ?_
        refine h_goi hI (by decide) (va_runS (As := [.int p3, .int (0 : Int32), .int (1 : Int32)]) (rest := []) ⟨hx, hb, hml, hown, hts⟩ (h_isIn_X9 l D g σ Z hZ0 M N R p3 (0 : Int32) (1 : Int32)) (va_cwS 3 hts gX9_odds_X9_isIn rfl rfl rfl (by decide +kernel) ⟨Nat.le_of_ble_eq_true rfl, Nat.le_of_ble_eq_true rfl⟩) (h_preS hZ0 hK hE hI) rfl rfl hl.1 rfl (lv_room (Nat.le_of_ble_eq_true rfl)) dX9_odds_28 ⟨Nat.le_of_ble_eq_true rfl, Nat.le_of_ble_eq_true rfl⟩) (fun r30 M31 N32 R33 H locs q34 z_M31 hI => ?_)
        obtain ⟨rfl, rfl, rfl, i_r30, z35⟩ := q34
        refine lv_if_ne (tgt := 36) hx hb dX9_odds_31 (by decide) (fun c36 => ?_) (fun c36 => ?_)
        · have i37 : iv p3 0 1 := (fun h9 => iv_isin (z35 h9) kc_0 kc_1) c36
          have i38 : iv r30 1 1 := iv_neL c36 i_r30 (by decide) (by decide)
          refine lv_bipush (v := 100) hx hb dX9_odds_36 (by decide) ?_
          refine lv_aload_n hx hb dX9_odds_38 rfl (lv_at hl 0 rfl) ?_
          refine h_getr hx hb hts iX9_odds_X9 hown hK hI g_y (by decide) rfl rfl 15 (by decide) rfl 115 rfl (hts (.fieldLink RX9 33 "CatLeasesModel" "dies" "[I") (List.mem_of_getElem? (i := 1) rfl)) (fun _ h9 => h9) dX9_odds_39 (fun a39 e_a39 g_a39 => ?_)
          refine lv_aload_n hx hb dX9_odds_42 rfl (lv_at hl 0 rfl) ?_
          refine h_geti (lo := 0) (hi := 1) hx hb hts iX9_odds_X9 hown hK hI g_y (by decide) rfl rfl 35 (by decide) rfl rfl (hts (.fieldLink RX9 268 "CatLeasesModel" "bank" "I") (List.mem_of_getElem? (i := 2) rfl)) (fun _ h9 => h9) dX9_odds_43 (fun v40 e_v40 i_v40 => ?_)
          refine h_iald (j := v40.toNatClampNeg) (lo := (-2147483648)) (hi := 2147483647) hx hb hK hI g_a39 (by decide) rfl (iv_in (n := 2) i_v40 (by decide) (by decide)) rfl (iv_any _) dX9_odds_46 (fun v41 e_v41 i_v41 => ?_)
          refine lv_isub hx hb dX9_odds_47 ?_
          refine h_nm (lo := (-2147483648)) (hi := 2147483647) (iv_any _) (fun v42 e_v42 i_v42 => ?_)
          refine lv_iload_n hx hb dX9_odds_48 rfl (lv_at hl 2 rfl) ?_
          refine h_goi hI (by decide) (va_runS (As := [.int v42, .int p2]) (rest := []) ⟨hx, hb, hml, hown, hts⟩ (h_power_X9 l D g σ Z hZ0 M N R v42 p2 i28) (va_cwS 2 hts gX9_odds_X9_power rfl rfl rfl (by decide +kernel) ⟨Nat.le_of_ble_eq_true rfl, Nat.le_of_ble_eq_true rfl⟩) (h_preS hZ0 hK hE hI) rfl rfl hl.1 rfl (lv_room (Nat.le_of_ble_eq_true rfl)) dX9_odds_49 ⟨Nat.le_of_ble_eq_true rfl, Nat.le_of_ble_eq_true rfl⟩) (fun r43 M44 N45 R46 H locs q47 z_M44 hI => ?_)
          obtain ⟨rfl, rfl, rfl⟩ := q47
          refine lv_istore (lv' := [(4, .int r43), (0, .ref y), (1, .int p1), (2, .int p2), (3, .int p3)]) hx hb dX9_odds_52 hl (by decide) rfl (fun ls hl => ?_)
          refine lv_bipush (v := 100) hx hb dX9_odds_54 (by decide) ?_
          refine lv_iload_n hx hb dX9_odds_56 rfl (lv_at hl 3 rfl) ?_
          refine h_goi hI (by decide) (va_runS (As := [.int (100 : Int32), .int p2]) (rest := []) ⟨hx, hb, hml, hown, hts⟩ (h_power_100 l D g σ Z hZ0 M N R (100 : Int32) kc_100 p2 i28) (va_cwS 2 hts gX9_odds_X9_power rfl rfl rfl (by decide +kernel) ⟨Nat.le_of_ble_eq_true rfl, Nat.le_of_ble_eq_true rfl⟩) (h_preS hZ0 hK hE hI) rfl rfl hl.1 rfl (lv_room (Nat.le_of_ble_eq_true rfl)) dX9_odds_57 ⟨Nat.le_of_ble_eq_true rfl, Nat.le_of_ble_eq_true rfl⟩) (fun r48 M49 N50 R51 H locs q52 z_M49 hI => ?_)
          obtain ⟨rfl, rfl, rfl, i_r48⟩ := q52
          refine lv_istore (lv' := [(5, .int r48), (4, .int r43), (0, .ref y), (1, .int p1), (2, .int p2), (3, .int p3)]) hx hb dX9_odds_60 hl (by decide) rfl (fun ls hl => ?_)
          refine lv_iload_n hx hb dX9_odds_62 rfl (lv_at hl 5 rfl) ?_
          have J73 : ∀ (t0_73 : Int32) (H : Heap) (locs : List Loc) (ls : Array Slot), kI D g σ e_h_odds_X9 M s.heap M N R H locs → lv_has ls 6 [(4, .int r43), (5, .int r48)] → W p l e (headSpec wsX9_odds ({ frames := 2, cells := 0, slots := 0, locals := 43 })).room s m ar below meth c H locs 0 0 Q (F0 m 73 ls [.int t0_73]) := by
            intro t0_73 H locs ls hI hl
            refine lv_iload hx hb dX9_odds_73 (lv_at hl 1 rfl) ?_
            refine lv_iload hx hb dX9_odds_75 (lv_at hl 0 rfl) ?_
            refine h_goi hI (by decide) (va_runS (As := [.int r48, .int r43]) (rest := [.int t0_73]) ⟨hx, hb, hml, hown, hts⟩ (h_divisor_X9 l D g σ Z hZ0 M N R r48 (iv_w (lo' := 1) (hi' := 2147483647) i_r48 (by decide) (by decide)) r43) (va_cwS 2 hts gX9_odds_X9_divisor rfl rfl rfl (by decide +kernel) ⟨Nat.le_of_ble_eq_true rfl, Nat.le_of_ble_eq_true rfl⟩) (h_preS hZ0 hK hE hI) rfl rfl hl.1 rfl (lv_room (Nat.le_of_ble_eq_true rfl)) dX9_odds_77 ⟨Nat.le_of_ble_eq_true rfl, Nat.le_of_ble_eq_true rfl⟩) (fun r53 M54 N55 R56 H locs q57 z_M54 hI => ?_)
            obtain ⟨rfl, rfl, rfl, i_r53⟩ := q57
            refine lv_idiv hx hb dX9_odds_80 (iv_ne i_r53 kc_0 (by decide)) ?_
            refine h_nm (lo := (-2147483648)) (hi := 2147483647) (iv_any _) (fun v58 e_v58 i_v58 => ?_)
            exact h_iret hQ hx hb hr hlocks rfl hK hI ⟨rfl, rfl, rfl⟩ dX9_odds_81
          refine lv_if_ne (tgt := 71) hx hb dX9_odds_63 (by decide) (fun c59 => ?_) (fun c59 => ?_)
          · have i60 : iv p3 1 1 := iv_neL c59 i37 (by decide) (by decide)
            refine lv_iload hx hb dX9_odds_71 (lv_at hl 0 rfl) ?_
            exact J73 r48 H locs ls hI (lv_sub hl [1, 0] rfl)
          · have i61 : iv p3 0 0 := iv_eq1 c59 i37 kc_0
            refine lv_iload hx hb dX9_odds_66 (lv_at hl 1 rfl) ?_
            refine lv_goto (tgt := 73) hx hb dX9_odds_68 (by decide) ?_
            exact J73 r43 H locs ls hI (lv_sub hl [1, 0] rfl)
        · have i62 : iv r30 0 0 := iv_eq1 c36 i_r30 kc_0
          refine lv_iconst (v := (-1)) hx hb dX9_odds_34 (by decide) ?_
          exact h_iret hQ hx hb hr hlocks rfl hK hI ⟨rfl, rfl, rfl⟩ dX9_odds_35
