abbrev e_h_takeWord_X5 : List (Nat × Nat) := [(5, 10), (5, 12)]
set_option maxHeartbeats 4000000 in
set_option maxRecDepth 100000 in
theorem h_takeWord_X5 (l : Launch) (D : va_G) (g : Nat → ClassId) (σ : Nat → Option Nat) (Z : State → Heap → Prop) (hZ0 : hZ σ Z) (M : hM) (N : hN) (R : hR) (a : Nat) (g_a : σ a = some 5) : Met l yX5_takeWord wsX5_takeWord ({ frames := 1, cells := 0, slots := 0, locals := 23 }) (va_Pc [.ref a] (hPre D g σ Z M N R)) (hQv D g σ e_h_takeWord_X5 M (fun (M1 : hM) (N1 : hN) (R1 : hR) => R = R1)) 0 0 (hA σ) := by
  refine h_head (cc := cX5_takeWord) (maxL := 4) (ret := none) (by decide) rfl (Nat.le_of_ble_eq_true rfl) e_h_takeWord_X5 ?_
  intro p e s m below meth c ls Q ar hQ hx hb hr hlocks hml hown hts hK hE H locs hI hl
  have hown : s.vm.findClass RX5 = some m.cls := hown
  have hl : lv_has ls 4 [(0, .ref a)] := hl
  refine lv_lconst (v := 0) hx hb dX5_takeWord_0 (by decide) ?_
  refine lv_lstore_n (lv' := [(1, .long (0 : Int64)), (0, .ref a)]) hx hb dX5_takeWord_1 rfl hl (by decide) rfl (fun ls hl => ?_)
  refine lv_iconst (v := 0) hx hb dX5_takeWord_2 (by decide) ?_
  have J4 : ∀ (n : Nat) (M_4 : hM) (v1_4 : Int64) (v3_4 : Int32) (H : Heap) (locs : List Loc) (ls : Array Slot), kI D g σ e_h_takeWord_X5 M s.heap M_4 N R H locs → lv_has ls 4 [(0, .ref a), (1, .long v1_4), (3, .int v3_4)] → iv v3_4 0 1600 → 1601 ≤ v3_4.toInt + (n : Int) → W p l e (headSpec wsX5_takeWord ({ frames := 1, cells := 0, slots := 0, locals := 23 })).room s m ar below meth c H locs 0 0 Q (F0 m 4 ls []) := by
    intro n
    induction n with
    | zero => intro M_4 v1_4 v3_4 H locs ls hI hl i_v3_4 hn; exfalso; have hz := i_v3_4; simp only [iv] at hz; omega
    | succ n ih4 =>
      intro M_4 v1_4 v3_4 H locs ls hI hl i_v3_4 hn4
      refine lv_iload_n hx hb dX5_takeWord_4 rfl (lv_at hl 2 rfl) ?_
      refine lv_sipush (v := 1600) hx hb dX5_takeWord_5 (by decide) ?_
      have J54 : ∀ (H : Heap) (locs : List Loc) (ls : Array Slot), kI D g σ e_h_takeWord_X5 M s.heap M_4 N R H locs → lv_has ls 4 [(0, .ref a), (1, .long v1_4)] → W p l e (headSpec wsX5_takeWord ({ frames := 1, cells := 0, slots := 0, locals := 23 })).room s m ar below meth c H locs 0 0 Q (F0 m 54 ls []) := by
        intro H locs ls hI hl
        refine lv_aload_n hx hb dX5_takeWord_54 rfl (lv_at hl 0 rfl) ?_
        refine lv_lload_n hx hb dX5_takeWord_55 rfl (lv_at hl 1 rfl) ?_
        refine h_putl hx hb hts iX5_takeWord_X5 tyX5 tyX5_ok nmX5 hown hK hI g_a (by decide) rfl rfl 14 (by decide) rfl (hts (.fieldLink RX5 60 "CatLeases$Reader" "word" "J") (List.mem_of_getElem? (i := 2) rfl)) (fun _ h9 => h9) rfl (by decide +kernel) dX5_takeWord_56 (fun N1 H locs e_N1 hI => ?_)
        refine lv_aload_n hx hb dX5_takeWord_59 rfl (lv_at hl 0 rfl) ?_
        refine h_geti (lo := (-2147483648)) (hi := 2147483647) hx hb hts iX5_takeWord_X5 hown hK hI g_a (by decide) rfl rfl 10 (by decide) rfl rfl (hts (.fieldLink RX5 48 "CatLeases$Reader" "at" "I") (List.mem_of_getElem? (i := 1) rfl)) (fun _ h9 => h9) dX5_takeWord_60 (fun v2 e_v2 i_v2 => ?_)
        refine lv_aload_n hx hb dX5_takeWord_63 rfl (lv_at hl 0 rfl) ?_
        refine h_geti (lo := (-2147483648)) (hi := 2147483647) hx hb hts iX5_takeWord_X5 hown hK hI g_a (by decide) rfl rfl 11 (by decide) rfl rfl (hts (.fieldLink RX5 51 "CatLeases$Reader" "place" "I") (List.mem_of_getElem? (i := 3) rfl)) (fun _ h9 => h9) dX5_takeWord_64 (fun v3 e_v3 i_v3 => ?_)
        refine lv_isub hx hb dX5_takeWord_67 ?_
        refine h_nm (lo := (-2147483648)) (hi := 2147483647) (iv_any _) (fun v4 e_v4 i_v4 => ?_)
        refine lv_bipush (v := 8) hx hb dX5_takeWord_68 (by decide) ?_
        refine lv_icmp_le (tgt := 83) hx hb dX5_takeWord_70 (by decide) (fun c5 => ?_) (fun c5 => ?_)
        · have i6 : iv v4 (-2147483648) 8 := iv_le1 c5 i_v4 kc_8 (by decide)
          refine lv_aload_n hx hb dX5_takeWord_83 rfl (lv_at hl 0 rfl) ?_
          refine lv_aload_n hx hb dX5_takeWord_84 rfl (lv_at hl 0 rfl) ?_
          refine h_getr hx hb hts iX5_takeWord_X5 hown hK hI g_a (by decide) rfl rfl 3 (by decide) rfl 22 rfl (hts (.fieldLink RX5 25 "CatLeases$Reader" "words" "[J") (List.mem_of_getElem? (i := 5) rfl)) (fun _ h9 => h9) dX5_takeWord_85 (fun a7 e_a7 g_a7 => ?_)
          refine lv_aload_n hx hb dX5_takeWord_88 rfl (lv_at hl 0 rfl) ?_
          refine h_getr hx hb hts iX5_takeWord_X5 hown hK hI g_a (by decide) rfl rfl 3 (by decide) rfl 22 rfl (hts (.fieldLink RX5 25 "CatLeases$Reader" "words" "[J") (List.mem_of_getElem? (i := 5) rfl)) (fun _ h9 => h9) dX5_takeWord_89 (fun a8 e_a8 g_a8 => ?_)
          have q9 : a7 = a8 := (e_a7).trans e_a8.symm
          subst q9
          refine h_alen (v := 19) hx hb hK hI g_a7 (by decide) rfl (by decide) (by decide) dX5_takeWord_92 ?_
          refine h_goi hI (by decide) (va_runV (As := [.ref a7, .int (19 : Int32)]) (rest := []) ⟨hx, hb, hml, hown, hts⟩ (h_indexOfWord_22 l D g σ Z hZ0 M_4 N1 R a g_a a7 g_a7 (19 : Int32)) (cwV 2 hts gX5_takeWord_X5_indexOfWord rfl rfl rfl (by decide +kernel) ⟨Nat.le_of_ble_eq_true rfl, Nat.le_of_ble_eq_true rfl⟩) (h_preV hZ0 hK hE hI g_a (by decide) rfl) rfl rfl hl.1 rfl (lv_room (Nat.le_of_ble_eq_true rfl)) dX5_takeWord_93 ⟨Nat.le_of_ble_eq_true rfl, Nat.le_of_ble_eq_true rfl⟩) (fun r10 M11 N12 R13 H locs q14 z_M11 hI => ?_)
          obtain ⟨rfl, rfl, rfl, i_r10⟩ := q14
          refine lv_istore_n (lv' := [(3, .int r10), (0, .ref a), (1, .long v1_4)]) hx hb dX5_takeWord_96 rfl hl (by decide) rfl (fun ls hl => ?_)
          refine lv_aload_n hx hb dX5_takeWord_97 rfl (lv_at hl 1 rfl) ?_
          refine lv_iload_n hx hb dX5_takeWord_98 rfl (lv_at hl 0 rfl) ?_
          refine lv_iconst (v := (-1)) hx hb dX5_takeWord_99 (by decide) ?_
          have J110 : ∀ (t1_110 : Int32) (H : Heap) (locs : List Loc) (ls : Array Slot), kI D g σ e_h_takeWord_X5 M s.heap M_4 N1 R H locs → lv_has ls 4 [] → iv t1_110 0 256 → W p l e (headSpec wsX5_takeWord ({ frames := 1, cells := 0, slots := 0, locals := 23 })).room s m ar below meth c H locs 0 0 Q (F0 m 110 ls [.int t1_110, .ref a]) := by
            intro t1_110 H locs ls hI hl i_t1_110
            refine h_puti hx hb hts iX5_takeWord_X5 tyX5 tyX5_ok nmX5 hown hK hI g_a (by decide) rfl rfl 12 (by decide) rfl (hts (.fieldLink RX5 54 "CatLeases$Reader" "kind" "I") (List.mem_of_getElem? (i := 4) rfl)) (fun _ h9 => h9) rfl .int (by decide +kernel) rfl rfl (iv_w (lo' := (-2147483648)) (hi' := 2147483647) i_t1_110 (by decide) (by decide)) rfl dX5_takeWord_110 (fun M15 H locs e_M15 hI => ?_)
            exact h_vret hQ hx hb hr hlocks hK hI rfl dX5_takeWord_113
          refine lv_icmp_ne (tgt := 109) hx hb dX5_takeWord_100 (by decide) (fun c16 => ?_) (fun c16 => ?_)
          · have i17 : iv r10 0 18 := iv_neL c16 i_r10 (by decide) (by decide)
            refine lv_iload_n hx hb dX5_takeWord_109 rfl (lv_at hl 0 rfl) ?_
            exact J110 r10 H locs ls hI (lv_sub hl [] rfl) (iv_w (lo' := 0) (hi' := 256) i17 (by decide) (by decide))
          · have i18 : iv r10 (-1) (-1) := iv_eq1 c16 i_r10 kc_m1
            refine lv_sipush (v := 256) hx hb dX5_takeWord_103 (by decide) ?_
            refine lv_goto (tgt := 110) hx hb dX5_takeWord_106 (by decide) ?_
            exact J110 (256 : Int32) H locs ls hI (lv_sub hl [] rfl) (iv_w (lo' := 0) (hi' := 256) kc_256 (by decide) (by decide))
        · have i19 : iv v4 9 2147483647 := iv_nle1 c5 i_v4 kc_8 (by decide)
          refine lv_aload_n hx hb dX5_takeWord_73 rfl (lv_at hl 0 rfl) ?_
          refine lv_sipush (v := 259) hx hb dX5_takeWord_74 (by decide) ?_
          refine h_puti hx hb hts iX5_takeWord_X5 tyX5 tyX5_ok nmX5 hown hK hI g_a (by decide) rfl rfl 12 (by decide) rfl (hts (.fieldLink RX5 54 "CatLeases$Reader" "kind" "I") (List.mem_of_getElem? (i := 4) rfl)) (fun _ h9 => h9) rfl .int (by decide +kernel) rfl rfl (iv_w (lo' := (-2147483648)) (hi' := 2147483647) kc_259 (by decide) (by decide)) rfl dX5_takeWord_77 (fun M20 H locs e_M20 hI => ?_)
          refine lv_goto (tgt := 113) hx hb dX5_takeWord_80 (by decide) ?_
          exact h_vret hQ hx hb hr hlocks hK hI rfl dX5_takeWord_113
      refine lv_icmp_ge (tgt := 54) hx hb dX5_takeWord_8 (by decide) (fun c21 => ?_) (fun c21 => ?_)
      · have i22 : iv v3_4 1600 1600 := iv_le2 c21 kc_1600 i_v3_4 (by decide)
        exact J54 H locs ls hI (lv_sub hl [0, 1] rfl)
      · have i23 : iv v3_4 0 1599 := iv_nle2 c21 kc_1600 i_v3_4 (by decide)
        refine lv_aload_n hx hb dX5_takeWord_11 rfl (lv_at hl 0 rfl) ?_
        refine lv_aload_n hx hb dX5_takeWord_12 rfl (lv_at hl 0 rfl) ?_
        refine h_geti (lo := (-2147483648)) (hi := 2147483647) hx hb hts iX5_takeWord_X5 hown hK hI g_a (by decide) rfl rfl 10 (by decide) rfl rfl (hts (.fieldLink RX5 48 "CatLeases$Reader" "at" "I") (List.mem_of_getElem? (i := 1) rfl)) (fun _ h9 => h9) dX5_takeWord_13 (fun v24 e_v24 i_v24 => ?_)
        refine h_goi hI (by decide) (va_runV (As := [.int v24]) (rest := []) ⟨hx, hb, hml, hown, hts⟩ (h_byteAt_X5 l D g σ Z hZ0 M_4 N R a g_a v24) (cwV 1 hts gX5_takeWord_X5_byteAt rfl rfl rfl (by decide +kernel) ⟨Nat.le_of_ble_eq_true rfl, Nat.le_of_ble_eq_true rfl⟩) (h_preV hZ0 hK hE hI g_a (by decide) rfl) rfl rfl hl.1 rfl (lv_room (Nat.le_of_ble_eq_true rfl)) dX5_takeWord_16 ⟨Nat.le_of_ble_eq_true rfl, Nat.le_of_ble_eq_true rfl⟩) (fun r25 M26 N27 R28 H locs q29 z_M26 hI => ?_)
        obtain ⟨rfl, rfl, rfl, i_r25⟩ := q29
        refine h_goi hI (by decide) (va_runS (As := [.int r25]) (rest := []) ⟨hx, hb, hml, hown, hts⟩ (h_isLetter_X5 l D g σ Z hZ0 M_4 N R r25) (va_cwS 1 hts gX5_takeWord_X5_isLetter rfl rfl rfl (by decide +kernel) ⟨Nat.le_of_ble_eq_true rfl, Nat.le_of_ble_eq_true rfl⟩) (h_preS hZ0 hK hE hI) rfl rfl hl.1 rfl (lv_room (Nat.le_of_ble_eq_true rfl)) dX5_takeWord_19 ⟨Nat.le_of_ble_eq_true rfl, Nat.le_of_ble_eq_true rfl⟩) (fun r30 M31 N32 R33 H locs q34 z_M31 hI => ?_)
        obtain ⟨rfl, rfl, rfl, i_r30, z35⟩ := q34
        refine lv_if_eq (tgt := 54) hx hb dX5_takeWord_22 (by decide) (fun c36 => ?_) (fun c36 => ?_)
        · have i37 : iv r30 0 0 := iv_eq1 c36 i_r30 kc_0
          exact J54 H locs ls hI (lv_sub hl [0, 1] rfl)
        · have i38 : iv r25 97 122 := z35 c36
          have i39 : iv r30 1 1 := iv_neL c36 i_r30 (by decide) (by decide)
          refine lv_lload_n hx hb dX5_takeWord_25 rfl (lv_at hl 1 rfl) ?_
          refine lv_aload_n hx hb dX5_takeWord_26 rfl (lv_at hl 0 rfl) ?_
          refine lv_aload_n hx hb dX5_takeWord_27 rfl (lv_at hl 0 rfl) ?_
          refine h_geti (lo := (-2147483648)) (hi := 2147483647) hx hb hts iX5_takeWord_X5 hown hK hI g_a (by decide) rfl rfl 10 (by decide) rfl rfl (hts (.fieldLink RX5 48 "CatLeases$Reader" "at" "I") (List.mem_of_getElem? (i := 1) rfl)) (fun _ h9 => h9) dX5_takeWord_28 (fun v40 e_v40 i_v40 => ?_)
          have q41 : v24 = v40 := (e_v24).trans e_v40.symm
          subst q41
          refine h_goi hI (by decide) (va_runV (As := [.int v24]) (rest := [.long v1_4]) ⟨hx, hb, hml, hown, hts⟩ (h_byteAt_X5 l D g σ Z hZ0 M_4 N R a g_a v24) (cwV 1 hts gX5_takeWord_X5_byteAt rfl rfl rfl (by decide +kernel) ⟨Nat.le_of_ble_eq_true rfl, Nat.le_of_ble_eq_true rfl⟩) (h_preV hZ0 hK hE hI g_a (by decide) rfl) rfl rfl hl.1 rfl (lv_room (Nat.le_of_ble_eq_true rfl)) dX5_takeWord_31 ⟨Nat.le_of_ble_eq_true rfl, Nat.le_of_ble_eq_true rfl⟩) (fun r42 M43 N44 R45 H locs q46 z_M43 hI => ?_)
          obtain ⟨rfl, rfl, rfl, i_r42⟩ := q46
          refine h_gol hI (by decide) (va_runS (As := [.long v1_4, .int r42]) (rest := []) ⟨hx, hb, hml, hown, hts⟩ (h_joinLetter_X5 l D g σ Z hZ0 M_4 N R v1_4 r42) (va_cwS 2 hts gX5_takeWord_X5_joinLetter rfl rfl rfl (by decide +kernel) ⟨Nat.le_of_ble_eq_true rfl, Nat.le_of_ble_eq_true rfl⟩) (h_preS hZ0 hK hE hI) rfl rfl hl.1 rfl (lv_room (Nat.le_of_ble_eq_true rfl)) dX5_takeWord_34 ⟨Nat.le_of_ble_eq_true rfl, Nat.le_of_ble_eq_true rfl⟩) (fun w47 M48 N49 R50 H locs q51 z_M48 hI => ?_)
          obtain ⟨rfl, rfl, rfl⟩ := q51
          refine lv_lstore_n (lv' := [(1, .long w47), (0, .ref a), (3, .int v3_4)]) hx hb dX5_takeWord_37 rfl hl (by decide) rfl (fun ls hl => ?_)
          refine lv_aload_n hx hb dX5_takeWord_38 rfl (lv_at hl 1 rfl) ?_
          refine lv_dup hx hb dX5_takeWord_39 rfl ?_
          refine h_geti (lo := (-2147483648)) (hi := 2147483647) hx hb hts iX5_takeWord_X5 hown hK hI g_a (by decide) rfl rfl 10 (by decide) rfl rfl (hts (.fieldLink RX5 48 "CatLeases$Reader" "at" "I") (List.mem_of_getElem? (i := 1) rfl)) (fun _ h9 => h9) dX5_takeWord_40 (fun v52 e_v52 i_v52 => ?_)
          have q53 : v24 = v52 := (e_v24).trans e_v52.symm
          subst q53
          refine lv_iconst (v := 1) hx hb dX5_takeWord_43 (by decide) ?_
          refine lv_iadd hx hb dX5_takeWord_44 ?_
          refine h_nm (lo := (-2147483648)) (hi := 2147483647) (iv_any _) (fun v54 e_v54 i_v54 => ?_)
          refine h_puti hx hb hts iX5_takeWord_X5 tyX5 tyX5_ok nmX5 hown hK hI g_a (by decide) rfl rfl 10 (by decide) rfl (hts (.fieldLink RX5 48 "CatLeases$Reader" "at" "I") (List.mem_of_getElem? (i := 1) rfl)) (fun _ h9 => h9) rfl .int (by decide +kernel) rfl rfl i_v54 rfl dX5_takeWord_45 (fun M55 H locs e_M55 hI => ?_)
          obtain ⟨v56, e_v56⟩ : ∃ z : Int32, z = v3_4 + Int32.ofInt 1 := ⟨_, rfl⟩
          have i_v56 : iv v56 1 1600 := by rw [e_v56]; exact iv_add i23 (ki_1) (by decide) (by decide) (by decide) (by decide)
          refine lv_iinc (v := v56) (lv' := [(3, .int v56), (1, .long w47), (0, .ref a)]) hx hb dX5_takeWord_48 hl (k := 2) rfl e_v56.symm (by decide) rfl (fun ls hl => ?_)
          refine lv_goto (tgt := 4) hx hb dX5_takeWord_51 (by decide) ?_
          exact ih4 M55 w47 v56 H locs ls hI (lv_sub hl [2, 1, 0] rfl) (iv_w (lo' := 0) (hi' := 1600) i_v56 (by decide) (by decide)) (by have h9 := (h_inc e_v56 i23 ki_1 (by decide) (by decide)); omega)
  refine lv_istore_n (lv' := [(3, .int (0 : Int32)), (1, .long (0 : Int64)), (0, .ref a)]) hx hb dX5_takeWord_3 rfl hl (by decide) rfl (fun ls hl => ?_)
  exact J4 1601 M (0 : Int64) (0 : Int32) H locs ls hI (lv_sub hl [2, 1, 0] rfl) (iv_w (lo' := 0) (hi' := 1600) kc_0 (by decide) (by decide)) (by have h9 := kc_0; simp only [iv] at h9; omega)
abbrev e_h_takeNumber_X5 : List (Nat × Nat) := [(5, 10), (5, 12), (5, 13)]
set_option maxHeartbeats 4000000 in
set_option maxRecDepth 100000 in
theorem h_takeNumber_X5 (l : Launch) (D : va_G) (g : Nat → ClassId) (σ : Nat → Option Nat) (Z : State → Heap → Prop) (hZ0 : hZ σ Z) (M : hM) (N : hN) (R : hR) (a : Nat) (g_a : σ a = some 5) : Met l yX5_takeNumber wsX5_takeNumber ({ frames := 1, cells := 0, slots := 0, locals := 21 }) (va_Pc [.ref a] (hPre D g σ Z M N R)) (hQv D g σ e_h_takeNumber_X5 M (fun (M1 : hM) (N1 : hN) (R1 : hR) => N = N1 ∧ R = R1)) 0 0 (hA σ) := by
  refine h_head (cc := cX5_takeNumber) (maxL := 3) (ret := none) (by decide) rfl (Nat.le_of_ble_eq_true rfl) e_h_takeNumber_X5 ?_
  intro p e s m below meth c ls Q ar hQ hx hb hr hlocks hml hown hts hK hE H locs hI hl
  have hown : s.vm.findClass RX5 = some m.cls := hown
  have hl : lv_has ls 3 [(0, .ref a)] := hl
  refine lv_iconst (v := 0) hx hb dX5_takeNumber_0 (by decide) ?_
  refine lv_istore_n (lv' := [(1, .int (0 : Int32)), (0, .ref a)]) hx hb dX5_takeNumber_1 rfl hl (by decide) rfl (fun ls hl => ?_)
  refine lv_iconst (v := 0) hx hb dX5_takeNumber_2 (by decide) ?_
  have J4 : ∀ (n : Nat) (M_4 : hM) (v1_4 : Int32) (v2_4 : Int32) (H : Heap) (locs : List Loc) (ls : Array Slot), kI D g σ e_h_takeNumber_X5 M s.heap M_4 N R H locs → lv_has ls 3 [(0, .ref a), (1, .int v1_4), (2, .int v2_4)] → iv v2_4 0 1600 → 1601 ≤ v2_4.toInt + (n : Int) → W p l e (headSpec wsX5_takeNumber ({ frames := 1, cells := 0, slots := 0, locals := 21 })).room s m ar below meth c H locs 0 0 Q (F0 m 4 ls []) := by
    intro n
    induction n with
    | zero => intro M_4 v1_4 v2_4 H locs ls hI hl i_v2_4 hn; exfalso; have hz := i_v2_4; simp only [iv] at hz; omega
    | succ n ih4 =>
      intro M_4 v1_4 v2_4 H locs ls hI hl i_v2_4 hn4
      refine lv_iload_n hx hb dX5_takeNumber_4 rfl (lv_at hl 2 rfl) ?_
      refine lv_sipush (v := 1600) hx hb dX5_takeNumber_5 (by decide) ?_
      have J58 : ∀ (H : Heap) (locs : List Loc) (ls : Array Slot), kI D g σ e_h_takeNumber_X5 M s.heap M_4 N R H locs → lv_has ls 3 [(0, .ref a), (1, .int v1_4)] → W p l e (headSpec wsX5_takeNumber ({ frames := 1, cells := 0, slots := 0, locals := 21 })).room s m ar below meth c H locs 0 0 Q (F0 m 58 ls []) := by
        intro H locs ls hI hl
        refine lv_aload_n hx hb dX5_takeNumber_58 rfl (lv_at hl 0 rfl) ?_
        refine lv_iload_n hx hb dX5_takeNumber_59 rfl (lv_at hl 1 rfl) ?_
        refine h_puti hx hb hts iX5_takeNumber_X5 tyX5 tyX5_ok nmX5 hown hK hI g_a (by decide) rfl rfl 13 (by decide) rfl (hts (.fieldLink RX5 57 "CatLeases$Reader" "number" "I") (List.mem_of_getElem? (i := 2) rfl)) (fun _ h9 => h9) rfl .int (by decide +kernel) rfl rfl (iv_any v1_4) rfl dX5_takeNumber_60 (fun M1 H locs e_M1 hI => ?_)
        refine lv_aload_n hx hb dX5_takeNumber_63 rfl (lv_at hl 0 rfl) ?_
        refine lv_aload_n hx hb dX5_takeNumber_64 rfl (lv_at hl 0 rfl) ?_
        refine h_geti (lo := (-2147483648)) (hi := 2147483647) hx hb hts iX5_takeNumber_X5 hown hK hI g_a (by decide) rfl rfl 10 (by decide) rfl rfl (hts (.fieldLink RX5 48 "CatLeases$Reader" "at" "I") (List.mem_of_getElem? (i := 1) rfl)) (fun _ h9 => h9) dX5_takeNumber_65 (fun v2 e_v2 i_v2 => ?_)
        refine lv_aload_n hx hb dX5_takeNumber_68 rfl (lv_at hl 0 rfl) ?_
        refine h_geti (lo := (-2147483648)) (hi := 2147483647) hx hb hts iX5_takeNumber_X5 hown hK hI g_a (by decide) rfl rfl 11 (by decide) rfl rfl (hts (.fieldLink RX5 51 "CatLeases$Reader" "place" "I") (List.mem_of_getElem? (i := 3) rfl)) (fun _ h9 => h9) dX5_takeNumber_69 (fun v3 e_v3 i_v3 => ?_)
        refine lv_isub hx hb dX5_takeNumber_72 ?_
        refine h_nm (lo := (-2147483648)) (hi := 2147483647) (iv_any _) (fun v4 e_v4 i_v4 => ?_)
        refine lv_iconst (v := 4) hx hb dX5_takeNumber_73 (by decide) ?_
        have J100 : ∀ (t1_100 : Int32) (H : Heap) (locs : List Loc) (ls : Array Slot), kI D g σ e_h_takeNumber_X5 M s.heap M1 N R H locs → lv_has ls 3 [] → iv t1_100 257 259 → W p l e (headSpec wsX5_takeNumber ({ frames := 1, cells := 0, slots := 0, locals := 21 })).room s m ar below meth c H locs 0 0 Q (F0 m 100 ls [.int t1_100, .ref a]) := by
          intro t1_100 H locs ls hI hl i_t1_100
          refine h_puti hx hb hts iX5_takeNumber_X5 tyX5 tyX5_ok nmX5 hown hK hI g_a (by decide) rfl rfl 12 (by decide) rfl (hts (.fieldLink RX5 54 "CatLeases$Reader" "kind" "I") (List.mem_of_getElem? (i := 4) rfl)) (fun _ h9 => h9) rfl .int (by decide +kernel) rfl rfl (iv_w (lo' := (-2147483648)) (hi' := 2147483647) i_t1_100 (by decide) (by decide)) rfl dX5_takeNumber_100 (fun M5 H locs e_M5 hI => ?_)
          exact h_vret hQ hx hb hr hlocks hK hI ⟨rfl, rfl⟩ dX5_takeNumber_103
        have J91 : ∀ (H : Heap) (locs : List Loc) (ls : Array Slot), kI D g σ e_h_takeNumber_X5 M s.heap M1 N R H locs → lv_has ls 3 [] → W p l e (headSpec wsX5_takeNumber ({ frames := 1, cells := 0, slots := 0, locals := 21 })).room s m ar below meth c H locs 0 0 Q (F0 m 91 ls [.ref a]) := by
          intro H locs ls hI hl
          refine lv_sipush (v := 259) hx hb dX5_takeNumber_91 (by decide) ?_
          refine lv_goto (tgt := 100) hx hb dX5_takeNumber_94 (by decide) ?_
          exact J100 (259 : Int32) H locs ls hI hl (iv_w (lo' := 257) (hi' := 259) kc_259 (by decide) (by decide))
        refine lv_icmp_gt (tgt := 91) hx hb dX5_takeNumber_74 (by decide) (fun c6 => ?_) (fun c6 => ?_)
        · have i7 : iv v4 5 2147483647 := iv_lt2 c6 kc_4 i_v4 (by decide)
          exact J91 H locs ls hI (lv_sub hl [] rfl)
        · have i8 : iv v4 (-2147483648) 4 := iv_nlt2 c6 kc_4 i_v4 (by decide)
          refine lv_aload_n hx hb dX5_takeNumber_77 rfl (lv_at hl 0 rfl) ?_
          refine lv_aload_n hx hb dX5_takeNumber_78 rfl (lv_at hl 0 rfl) ?_
          refine h_geti (lo := (-2147483648)) (hi := 2147483647) hx hb hts iX5_takeNumber_X5 hown hK hI g_a (by decide) rfl rfl 10 (by decide) rfl rfl (hts (.fieldLink RX5 48 "CatLeases$Reader" "at" "I") (List.mem_of_getElem? (i := 1) rfl)) (fun _ h9 => h9) dX5_takeNumber_79 (fun v9 e_v9 i_v9 => ?_)
          have q10 : v2 = v9 := (e_v2).trans e_v9.symm
          subst q10
          refine h_goi hI (by decide) (va_runV (As := [.int v2]) (rest := [.ref a]) ⟨hx, hb, hml, hown, hts⟩ (h_byteAt_X5 l D g σ Z hZ0 M1 N R a g_a v2) (cwV 1 hts gX5_takeNumber_X5_byteAt rfl rfl rfl (by decide +kernel) ⟨Nat.le_of_ble_eq_true rfl, Nat.le_of_ble_eq_true rfl⟩) (h_preV hZ0 hK hE hI g_a (by decide) rfl) rfl rfl hl.1 rfl (lv_room (Nat.le_of_ble_eq_true rfl)) dX5_takeNumber_82 ⟨Nat.le_of_ble_eq_true rfl, Nat.le_of_ble_eq_true rfl⟩) (fun r11 M12 N13 R14 H locs q15 z_M12 hI => ?_)
          obtain ⟨rfl, rfl, rfl, i_r11⟩ := q15
          refine h_goi hI (by decide) (va_runS (As := [.int r11]) (rest := [.ref a]) ⟨hx, hb, hml, hown, hts⟩ (h_isLetter_X5 l D g σ Z hZ0 M1 N R r11) (va_cwS 1 hts gX5_takeNumber_X5_isLetter rfl rfl rfl (by decide +kernel) ⟨Nat.le_of_ble_eq_true rfl, Nat.le_of_ble_eq_true rfl⟩) (h_preS hZ0 hK hE hI) rfl rfl hl.1 rfl (lv_room (Nat.le_of_ble_eq_true rfl)) dX5_takeNumber_85 ⟨Nat.le_of_ble_eq_true rfl, Nat.le_of_ble_eq_true rfl⟩) (fun r16 M17 N18 R19 H locs q20 z_M17 hI => ?_)
          obtain ⟨rfl, rfl, rfl, i_r16, z21⟩ := q20
          refine lv_if_eq (tgt := 97) hx hb dX5_takeNumber_88 (by decide) (fun c22 => ?_) (fun c22 => ?_)
          · have i23 : iv r16 0 0 := iv_eq1 c22 i_r16 kc_0
            refine lv_sipush (v := 257) hx hb dX5_takeNumber_97 (by decide) ?_
            exact J100 (257 : Int32) H locs ls hI (lv_sub hl [] rfl) (iv_w (lo' := 257) (hi' := 259) kc_257 (by decide) (by decide))
          · have i24 : iv r11 97 122 := z21 c22
            have i25 : iv r16 1 1 := iv_neL c22 i_r16 (by decide) (by decide)
            exact J91 H locs ls hI (lv_sub hl [] rfl)
      refine lv_icmp_ge (tgt := 58) hx hb dX5_takeNumber_8 (by decide) (fun c26 => ?_) (fun c26 => ?_)
      · have i27 : iv v2_4 1600 1600 := iv_le2 c26 kc_1600 i_v2_4 (by decide)
        exact J58 H locs ls hI (lv_sub hl [0, 1] rfl)
      · have i28 : iv v2_4 0 1599 := iv_nle2 c26 kc_1600 i_v2_4 (by decide)
        refine lv_aload_n hx hb dX5_takeNumber_11 rfl (lv_at hl 0 rfl) ?_
        refine lv_aload_n hx hb dX5_takeNumber_12 rfl (lv_at hl 0 rfl) ?_
        refine h_geti (lo := (-2147483648)) (hi := 2147483647) hx hb hts iX5_takeNumber_X5 hown hK hI g_a (by decide) rfl rfl 10 (by decide) rfl rfl (hts (.fieldLink RX5 48 "CatLeases$Reader" "at" "I") (List.mem_of_getElem? (i := 1) rfl)) (fun _ h9 => h9) dX5_takeNumber_13 (fun v29 e_v29 i_v29 => ?_)
        refine h_goi hI (by decide) (va_runV (As := [.int v29]) (rest := []) ⟨hx, hb, hml, hown, hts⟩ (h_byteAt_X5 l D g σ Z hZ0 M_4 N R a g_a v29) (cwV 1 hts gX5_takeNumber_X5_byteAt rfl rfl rfl (by decide +kernel) ⟨Nat.le_of_ble_eq_true rfl, Nat.le_of_ble_eq_true rfl⟩) (h_preV hZ0 hK hE hI g_a (by decide) rfl) rfl rfl hl.1 rfl (lv_room (Nat.le_of_ble_eq_true rfl)) dX5_takeNumber_16 ⟨Nat.le_of_ble_eq_true rfl, Nat.le_of_ble_eq_true rfl⟩) (fun r30 M31 N32 R33 H locs q34 z_M31 hI => ?_)
        obtain ⟨rfl, rfl, rfl, i_r30⟩ := q34
        refine h_goi hI (by decide) (va_runS (As := [.int r30]) (rest := []) ⟨hx, hb, hml, hown, hts⟩ (h_isDigit_X5 l D g σ Z hZ0 M_4 N R r30) (va_cwS 1 hts gX5_takeNumber_X5_isDigit rfl rfl rfl (by decide +kernel) ⟨Nat.le_of_ble_eq_true rfl, Nat.le_of_ble_eq_true rfl⟩) (h_preS hZ0 hK hE hI) rfl rfl hl.1 rfl (lv_room (Nat.le_of_ble_eq_true rfl)) dX5_takeNumber_19 ⟨Nat.le_of_ble_eq_true rfl, Nat.le_of_ble_eq_true rfl⟩) (fun r35 M36 N37 R38 H locs q39 z_M36 hI => ?_)
        obtain ⟨rfl, rfl, rfl, i_r35, z40⟩ := q39
        refine lv_if_eq (tgt := 58) hx hb dX5_takeNumber_22 (by decide) (fun c41 => ?_) (fun c41 => ?_)
        · have i42 : iv r35 0 0 := iv_eq1 c41 i_r35 kc_0
          exact J58 H locs ls hI (lv_sub hl [0, 1] rfl)
        · have i43 : iv r30 48 57 := z40 c41
          have i44 : iv r35 1 1 := iv_neL c41 i_r35 (by decide) (by decide)
          refine lv_iload_n hx hb dX5_takeNumber_25 rfl (lv_at hl 1 rfl) ?_
          refine lv_bipush (v := 10) hx hb dX5_takeNumber_26 (by decide) ?_
          refine lv_imul hx hb dX5_takeNumber_28 ?_
          refine h_nm (lo := (-2147483648)) (hi := 2147483647) (iv_any _) (fun v45 e_v45 i_v45 => ?_)
          refine lv_aload_n hx hb dX5_takeNumber_29 rfl (lv_at hl 0 rfl) ?_
          refine lv_aload_n hx hb dX5_takeNumber_30 rfl (lv_at hl 0 rfl) ?_
          refine h_geti (lo := (-2147483648)) (hi := 2147483647) hx hb hts iX5_takeNumber_X5 hown hK hI g_a (by decide) rfl rfl 10 (by decide) rfl rfl (hts (.fieldLink RX5 48 "CatLeases$Reader" "at" "I") (List.mem_of_getElem? (i := 1) rfl)) (fun _ h9 => h9) dX5_takeNumber_31 (fun v46 e_v46 i_v46 => ?_)
          have q47 : v29 = v46 := (e_v29).trans e_v46.symm
          subst q47
          refine h_goi hI (by decide) (va_runV (As := [.int v29]) (rest := [.int v45]) ⟨hx, hb, hml, hown, hts⟩ (h_byteAt_X5 l D g σ Z hZ0 M_4 N R a g_a v29) (cwV 1 hts gX5_takeNumber_X5_byteAt rfl rfl rfl (by decide +kernel) ⟨Nat.le_of_ble_eq_true rfl, Nat.le_of_ble_eq_true rfl⟩) (h_preV hZ0 hK hE hI g_a (by decide) rfl) rfl rfl hl.1 rfl (lv_room (Nat.le_of_ble_eq_true rfl)) dX5_takeNumber_34 ⟨Nat.le_of_ble_eq_true rfl, Nat.le_of_ble_eq_true rfl⟩) (fun r48 M49 N50 R51 H locs q52 z_M49 hI => ?_)
          obtain ⟨rfl, rfl, rfl, i_r48⟩ := q52
          refine lv_bipush (v := 48) hx hb dX5_takeNumber_37 (by decide) ?_
          refine lv_isub hx hb dX5_takeNumber_39 ?_
          refine h_nm (lo := (-49)) (hi := 207) (iv_sub i_r48 kc_48 (by decide) (by decide) (by decide) (by decide)) (fun v53 e_v53 i_v53 => ?_)
          refine lv_iadd hx hb dX5_takeNumber_40 ?_
          refine h_nm (lo := (-2147483648)) (hi := 2147483647) (iv_any _) (fun v54 e_v54 i_v54 => ?_)
          refine lv_istore_n (lv' := [(1, .int v54), (0, .ref a), (2, .int v2_4)]) hx hb dX5_takeNumber_41 rfl hl (by decide) rfl (fun ls hl => ?_)
          refine lv_aload_n hx hb dX5_takeNumber_42 rfl (lv_at hl 1 rfl) ?_
          refine lv_dup hx hb dX5_takeNumber_43 rfl ?_
          refine h_geti (lo := (-2147483648)) (hi := 2147483647) hx hb hts iX5_takeNumber_X5 hown hK hI g_a (by decide) rfl rfl 10 (by decide) rfl rfl (hts (.fieldLink RX5 48 "CatLeases$Reader" "at" "I") (List.mem_of_getElem? (i := 1) rfl)) (fun _ h9 => h9) dX5_takeNumber_44 (fun v55 e_v55 i_v55 => ?_)
          have q56 : v29 = v55 := (e_v29).trans e_v55.symm
          subst q56
          refine lv_iconst (v := 1) hx hb dX5_takeNumber_47 (by decide) ?_
          refine lv_iadd hx hb dX5_takeNumber_48 ?_
          refine h_nm (lo := (-2147483648)) (hi := 2147483647) (iv_any _) (fun v57 e_v57 i_v57 => ?_)
          refine h_puti hx hb hts iX5_takeNumber_X5 tyX5 tyX5_ok nmX5 hown hK hI g_a (by decide) rfl rfl 10 (by decide) rfl (hts (.fieldLink RX5 48 "CatLeases$Reader" "at" "I") (List.mem_of_getElem? (i := 1) rfl)) (fun _ h9 => h9) rfl .int (by decide +kernel) rfl rfl i_v57 rfl dX5_takeNumber_49 (fun M58 H locs e_M58 hI => ?_)
          obtain ⟨v59, e_v59⟩ : ∃ z : Int32, z = v2_4 + Int32.ofInt 1 := ⟨_, rfl⟩
          have i_v59 : iv v59 1 1600 := by rw [e_v59]; exact iv_add i28 (ki_1) (by decide) (by decide) (by decide) (by decide)
          refine lv_iinc (v := v59) (lv' := [(2, .int v59), (1, .int v54), (0, .ref a)]) hx hb dX5_takeNumber_52 hl (k := 2) rfl e_v59.symm (by decide) rfl (fun ls hl => ?_)
          refine lv_goto (tgt := 4) hx hb dX5_takeNumber_55 (by decide) ?_
          exact ih4 M58 v54 v59 H locs ls hI (lv_sub hl [2, 1, 0] rfl) (iv_w (lo' := 0) (hi' := 1600) i_v59 (by decide) (by decide)) (by have h9 := (h_inc e_v59 i28 ki_1 (by decide) (by decide)); omega)
  refine lv_istore_n (lv' := [(2, .int (0 : Int32)), (1, .int (0 : Int32)), (0, .ref a)]) hx hb dX5_takeNumber_3 rfl hl (by decide) rfl (fun ls hl => ?_)
  exact J4 1601 M (0 : Int32) (0 : Int32) H locs ls hI (lv_sub hl [2, 1, 0] rfl) (iv_w (lo' := 0) (hi' := 1600) kc_0 (by decide) (by decide)) (by have h9 := kc_0; simp only [iv] at h9; omega)
abbrev e_h_advance_X5 : List (Nat × Nat) := [(5, 10), (5, 11), (5, 12), (5, 13)]
set_option maxHeartbeats 4000000 in
set_option maxRecDepth 100000 in
theorem h_advance_X5 (l : Launch) (D : va_G) (g : Nat → ClassId) (σ : Nat → Option Nat) (Z : State → Heap → Prop) (hZ0 : hZ σ Z) (M : hM) (N : hN) (R : hR) (a : Nat) (g_a : σ a = some 5) : Met l yX5_advance wsX5_advance ({ frames := 4, cells := 0, slots := 0, locals := 91 }) (va_Pc [.ref a] (hPre D g σ Z M N R)) (hQv D g σ e_h_advance_X5 M (fun (M1 : hM) (N1 : hN) (R1 : hR) => R = R1)) 0 0 (hA σ) := by
  refine h_head (cc := cX5_advance) (maxL := 2) (ret := none) (by decide) rfl (Nat.le_of_ble_eq_true rfl) e_h_advance_X5 ?_
  intro p e s m below meth c ls Q ar hQ hx hb hr hlocks hml hown hts hK hE H locs hI hl
  have hown : s.vm.findClass RX5 = some m.cls := hown
  have hl : lv_has ls 2 [(0, .ref a)] := hl
  refine lv_iconst (v := 0) hx hb dX5_advance_0 (by decide) ?_
  have J2 : ∀ (n : Nat) (M_2 : hM) (v1_2 : Int32) (H : Heap) (locs : List Loc) (ls : Array Slot), kI D g σ e_h_advance_X5 M s.heap M_2 N R H locs → lv_has ls 2 [(0, .ref a), (1, .int v1_2)] → iv v1_2 0 1600 → 1601 ≤ v1_2.toInt + (n : Int) → W p l e (headSpec wsX5_advance ({ frames := 4, cells := 0, slots := 0, locals := 91 })).room s m ar below meth c H locs 0 0 Q (F0 m 2 ls []) := by
    intro n
    induction n with
    | zero => intro M_2 v1_2 H locs ls hI hl i_v1_2 hn; exfalso; have hz := i_v1_2; simp only [iv] at hz; omega
    | succ n ih2 =>
      intro M_2 v1_2 H locs ls hI hl i_v1_2 hn2
      refine lv_iload_n hx hb dX5_advance_2 rfl (lv_at hl 1 rfl) ?_
      refine lv_sipush (v := 1600) hx hb dX5_advance_3 (by decide) ?_
      have J39 : ∀ (H : Heap) (locs : List Loc) (ls : Array Slot), kI D g σ e_h_advance_X5 M s.heap M_2 N R H locs → lv_has ls 2 [(0, .ref a)] → W p l e (headSpec wsX5_advance ({ frames := 4, cells := 0, slots := 0, locals := 91 })).room s m ar below meth c H locs 0 0 Q (F0 m 39 ls []) := by
        intro H locs ls hI hl
        refine lv_aload_n hx hb dX5_advance_39 rfl (lv_at hl 0 rfl) ?_
        refine lv_aload_n hx hb dX5_advance_40 rfl (lv_at hl 0 rfl) ?_
        refine h_geti (lo := (-2147483648)) (hi := 2147483647) hx hb hts iX5_advance_X5 hown hK hI g_a (by decide) rfl rfl 10 (by decide) rfl rfl (hts (.fieldLink RX5 48 "CatLeases$Reader" "at" "I") (List.mem_of_getElem? (i := 1) rfl)) (fun _ h9 => h9) dX5_advance_41 (fun v1 e_v1 i_v1 => ?_)
        refine h_puti hx hb hts iX5_advance_X5 tyX5 tyX5_ok nmX5 hown hK hI g_a (by decide) rfl rfl 11 (by decide) rfl (hts (.fieldLink RX5 51 "CatLeases$Reader" "place" "I") (List.mem_of_getElem? (i := 2) rfl)) (fun _ h9 => h9) rfl .int (by decide +kernel) rfl rfl i_v1 rfl dX5_advance_44 (fun M2 H locs e_M2 hI => ?_)
        refine lv_aload_n hx hb dX5_advance_47 rfl (lv_at hl 0 rfl) ?_
        refine lv_aload_n hx hb dX5_advance_48 rfl (lv_at hl 0 rfl) ?_
        refine h_geti (lo := (-2147483648)) (hi := 2147483647) hx hb hts iX5_advance_X5 hown hK hI g_a (by decide) rfl rfl 10 (by decide) rfl rfl (hts (.fieldLink RX5 48 "CatLeases$Reader" "at" "I") (List.mem_of_getElem? (i := 1) rfl)) (fun _ h9 => h9) dX5_advance_49 (fun v3 e_v3 i_v3 => ?_)
        have q4 : v1 = v3 := ((e_v1).trans (u2_st (a := a) (k := 10) e_M2 (u2_k (by decide))).symm).trans e_v3.symm
        subst q4
        refine h_goi hI (by decide) (va_runV (As := [.int v1]) (rest := []) ⟨hx, hb, hml, hown, hts⟩ (h_byteAt_X5 l D g σ Z hZ0 M2 N R a g_a v1) (cwV 1 hts gX5_advance_X5_byteAt rfl rfl rfl (by decide +kernel) ⟨Nat.le_of_ble_eq_true rfl, Nat.le_of_ble_eq_true rfl⟩) (h_preV hZ0 hK hE hI g_a (by decide) rfl) rfl rfl hl.1 rfl (lv_room (Nat.le_of_ble_eq_true rfl)) dX5_advance_52 ⟨Nat.le_of_ble_eq_true rfl, Nat.le_of_ble_eq_true rfl⟩) (fun r5 M6 N7 R8 H locs q9 z_M6 hI => ?_)
        obtain ⟨rfl, rfl, rfl, i_r5⟩ := q9
        refine lv_istore_n (lv' := [(1, .int r5), (0, .ref a)]) hx hb dX5_advance_55 rfl hl (by decide) rfl (fun ls hl => ?_)
        refine lv_iload_n hx hb dX5_advance_56 rfl (lv_at hl 0 rfl) ?_
        refine lv_if_ge (tgt := 70) hx hb dX5_advance_57 (by decide) (fun c10 => ?_) (fun c10 => ?_)
        · have i11 : iv r5 0 255 := iv_le2 c10 kc_0 i_r5 (by decide)
          refine lv_iload_n hx hb dX5_advance_70 rfl (lv_at hl 0 rfl) ?_
          refine h_goi hI (by decide) (va_runS (As := [.int r5]) (rest := []) ⟨hx, hb, hml, hown, hts⟩ (h_isLetter_X5 l D g σ Z hZ0 M2 N R r5) (va_cwS 1 hts gX5_advance_X5_isLetter rfl rfl rfl (by decide +kernel) ⟨Nat.le_of_ble_eq_true rfl, Nat.le_of_ble_eq_true rfl⟩) (h_preS hZ0 hK hE hI) rfl rfl hl.1 rfl (lv_room (Nat.le_of_ble_eq_true rfl)) dX5_advance_71 ⟨Nat.le_of_ble_eq_true rfl, Nat.le_of_ble_eq_true rfl⟩) (fun r12 M13 N14 R15 H locs q16 z_M13 hI => ?_)
          obtain ⟨rfl, rfl, rfl, i_r12, z17⟩ := q16
          refine lv_if_eq (tgt := 84) hx hb dX5_advance_74 (by decide) (fun c18 => ?_) (fun c18 => ?_)
          · have i19 : iv r12 0 0 := iv_eq1 c18 i_r12 kc_0
            refine lv_iload_n hx hb dX5_advance_84 rfl (lv_at hl 0 rfl) ?_
            refine h_goi hI (by decide) (va_runS (As := [.int r5]) (rest := []) ⟨hx, hb, hml, hown, hts⟩ (h_isDigit_X5 l D g σ Z hZ0 M2 N R r5) (va_cwS 1 hts gX5_advance_X5_isDigit rfl rfl rfl (by decide +kernel) ⟨Nat.le_of_ble_eq_true rfl, Nat.le_of_ble_eq_true rfl⟩) (h_preS hZ0 hK hE hI) rfl rfl hl.1 rfl (lv_room (Nat.le_of_ble_eq_true rfl)) dX5_advance_85 ⟨Nat.le_of_ble_eq_true rfl, Nat.le_of_ble_eq_true rfl⟩) (fun r20 M21 N22 R23 H locs q24 z_M21 hI => ?_)
            obtain ⟨rfl, rfl, rfl, i_r20, z25⟩ := q24
            refine lv_if_eq (tgt := 98) hx hb dX5_advance_88 (by decide) (fun c26 => ?_) (fun c26 => ?_)
            · have i27 : iv r20 0 0 := iv_eq1 c26 i_r20 kc_0
              obtain ⟨aw, vw, hz⟩ := hZ0.2.2
              refine h_ldcw hx hb hown (hz _ _ hE).1 dX5_advance_98 ?_
              refine lv_iload_n hx hb dX5_advance_101 rfl (lv_at hl 0 rfl) ?_
              obtain ⟨v28, e_v28⟩ : ∃ z : Int32, (r5.toUInt32 % 65536).toInt32 = z := ⟨_, rfl⟩
              refine lv_i2c (v := v28) hx hb dX5_advance_102 e_v28 ?_
              refine h_goi hI (by decide) (va_runV (As := [.int v28]) (rest := []) ⟨hx, hb, hml, hown, hts⟩ (h_indexOf1 l D g σ Z hZ0 M2 N R aw vw hz v28) (cwV 1 hts gX5_advance_J0_indexOf_0f7a4 rfl rfl rfl (by decide +kernel) ⟨Nat.le_of_ble_eq_true rfl, Nat.le_of_ble_eq_true rfl⟩) (h_preVS hZ0 hK hE hI (hz _ _ hE).2.1) rfl rfl hl.1 rfl (lv_room (Nat.le_of_ble_eq_true rfl)) dX5_advance_103 ⟨Nat.le_of_ble_eq_true rfl, Nat.le_of_ble_eq_true rfl⟩) (fun r29 M30 N31 R32 H locs q9 _ hI => ?_)
              obtain ⟨rfl, rfl, rfl, i_r29⟩ := q9
              refine lv_if_lt (tgt := 127) hx hb dX5_advance_106 (by decide) (fun c33 => ?_) (fun c33 => ?_)
              · have i34 : iv r29 (-1) (-1) := iv_lt1 c33 i_r29 kc_0 (by decide)
                refine lv_aload_n hx hb dX5_advance_127 rfl (lv_at hl 1 rfl) ?_
                refine lv_sipush (v := 259) hx hb dX5_advance_128 (by decide) ?_
                refine h_puti hx hb hts iX5_advance_X5 tyX5 tyX5_ok nmX5 hown hK hI g_a (by decide) rfl rfl 12 (by decide) rfl (hts (.fieldLink RX5 54 "CatLeases$Reader" "kind" "I") (List.mem_of_getElem? (i := 3) rfl)) (fun _ h9 => h9) rfl .int (by decide +kernel) rfl rfl (iv_w (lo' := (-2147483648)) (hi' := 2147483647) kc_259 (by decide) (by decide)) rfl dX5_advance_131 (fun M35 H locs e_M35 hI => ?_)
                exact h_vret hQ hx hb hr hlocks hK hI rfl dX5_advance_134
              · have i36 : iv r29 0 10 := iv_nlt1 c33 i_r29 kc_0 (by decide)
                refine lv_aload_n hx hb dX5_advance_109 rfl (lv_at hl 1 rfl) ?_
                refine lv_iload_n hx hb dX5_advance_110 rfl (lv_at hl 0 rfl) ?_
                refine h_puti hx hb hts iX5_advance_X5 tyX5 tyX5_ok nmX5 hown hK hI g_a (by decide) rfl rfl 12 (by decide) rfl (hts (.fieldLink RX5 54 "CatLeases$Reader" "kind" "I") (List.mem_of_getElem? (i := 3) rfl)) (fun _ h9 => h9) rfl .int (by decide +kernel) rfl rfl (iv_w (lo' := (-2147483648)) (hi' := 2147483647) i11 (by decide) (by decide)) rfl dX5_advance_111 (fun M37 H locs e_M37 hI => ?_)
                refine lv_aload_n hx hb dX5_advance_114 rfl (lv_at hl 1 rfl) ?_
                refine lv_dup hx hb dX5_advance_115 rfl ?_
                refine h_geti (lo := (-2147483648)) (hi := 2147483647) hx hb hts iX5_advance_X5 hown hK hI g_a (by decide) rfl rfl 10 (by decide) rfl rfl (hts (.fieldLink RX5 48 "CatLeases$Reader" "at" "I") (List.mem_of_getElem? (i := 1) rfl)) (fun _ h9 => h9) dX5_advance_116 (fun v38 e_v38 i_v38 => ?_)
                have q39 : v1 = v38 := (((e_v1).trans (u2_st (a := a) (k := 10) e_M2 (u2_k (by decide))).symm).trans (u2_st (a := a) (k := 10) e_M37 (u2_k (by decide))).symm).trans e_v38.symm
                subst q39
                refine lv_iconst (v := 1) hx hb dX5_advance_119 (by decide) ?_
                refine lv_iadd hx hb dX5_advance_120 ?_
                refine h_nm (lo := (-2147483648)) (hi := 2147483647) (iv_any _) (fun v40 e_v40 i_v40 => ?_)
                refine h_puti hx hb hts iX5_advance_X5 tyX5 tyX5_ok nmX5 hown hK hI g_a (by decide) rfl rfl 10 (by decide) rfl (hts (.fieldLink RX5 48 "CatLeases$Reader" "at" "I") (List.mem_of_getElem? (i := 1) rfl)) (fun _ h9 => h9) rfl .int (by decide +kernel) rfl rfl i_v40 rfl dX5_advance_121 (fun M41 H locs e_M41 hI => ?_)
                refine lv_goto (tgt := 134) hx hb dX5_advance_124 (by decide) ?_
                exact h_vret hQ hx hb hr hlocks hK hI rfl dX5_advance_134
            · have i42 : iv r5 48 57 := z25 c26
              have i43 : iv r20 1 1 := iv_neL c26 i_r20 (by decide) (by decide)
              refine lv_aload_n hx hb dX5_advance_91 rfl (lv_at hl 1 rfl) ?_
              refine h_gov hI (by decide) (va_runV (As := []) (rest := []) ⟨hx, hb, hml, hown, hts⟩ (h_takeNumber_X5 l D g σ Z hZ0 M2 N R a g_a) (cwV 0 hts gX5_advance_X5_takeNumber rfl rfl rfl (by decide +kernel) ⟨Nat.le_of_ble_eq_true rfl, Nat.le_of_ble_eq_true rfl⟩) (h_preV hZ0 hK hE hI g_a (by decide) rfl) rfl rfl hl.1 rfl (lv_room (Nat.le_of_ble_eq_true rfl)) dX5_advance_92 ⟨Nat.le_of_ble_eq_true rfl, Nat.le_of_ble_eq_true rfl⟩) (fun M45 N46 R47 H locs q48 z_M45 hI => ?_)
              obtain ⟨rfl, rfl⟩ := q48
              refine lv_goto (tgt := 134) hx hb dX5_advance_95 (by decide) ?_
              exact h_vret hQ hx hb hr hlocks hK hI rfl dX5_advance_134
          · have i49 : iv r5 97 122 := z17 c18
            have i50 : iv r12 1 1 := iv_neL c18 i_r12 (by decide) (by decide)
            refine lv_aload_n hx hb dX5_advance_77 rfl (lv_at hl 1 rfl) ?_
            refine h_gov hI (by decide) (va_runV (As := []) (rest := []) ⟨hx, hb, hml, hown, hts⟩ (h_takeWord_X5 l D g σ Z hZ0 M2 N R a g_a) (cwV 0 hts gX5_advance_X5_takeWord rfl rfl rfl (by decide +kernel) ⟨Nat.le_of_ble_eq_true rfl, Nat.le_of_ble_eq_true rfl⟩) (h_preV hZ0 hK hE hI g_a (by decide) rfl) rfl rfl hl.1 rfl (lv_room (Nat.le_of_ble_eq_true rfl)) dX5_advance_78 ⟨Nat.le_of_ble_eq_true rfl, Nat.le_of_ble_eq_true rfl⟩) (fun M52 N53 R54 H locs q55 z_M52 hI => ?_)
            subst q55
            refine lv_goto (tgt := 134) hx hb dX5_advance_81 (by decide) ?_
            exact h_vret hQ hx hb hr hlocks hK hI rfl dX5_advance_134
        · have i56 : iv r5 (-1) (-1) := iv_nle2 c10 kc_0 i_r5 (by decide)
          refine lv_aload_n hx hb dX5_advance_60 rfl (lv_at hl 1 rfl) ?_
          refine lv_sipush (v := 258) hx hb dX5_advance_61 (by decide) ?_
          refine h_puti hx hb hts iX5_advance_X5 tyX5 tyX5_ok nmX5 hown hK hI g_a (by decide) rfl rfl 12 (by decide) rfl (hts (.fieldLink RX5 54 "CatLeases$Reader" "kind" "I") (List.mem_of_getElem? (i := 3) rfl)) (fun _ h9 => h9) rfl .int (by decide +kernel) rfl rfl (iv_w (lo' := (-2147483648)) (hi' := 2147483647) kc_258 (by decide) (by decide)) rfl dX5_advance_64 (fun M57 H locs e_M57 hI => ?_)
          refine lv_goto (tgt := 134) hx hb dX5_advance_67 (by decide) ?_
          exact h_vret hQ hx hb hr hlocks hK hI rfl dX5_advance_134
      refine lv_icmp_ge (tgt := 39) hx hb dX5_advance_6 (by decide) (fun c58 => ?_) (fun c58 => ?_)
      · have i59 : iv v1_2 1600 1600 := iv_le2 c58 kc_1600 i_v1_2 (by decide)
        exact J39 H locs ls hI (lv_sub hl [0] rfl)
      · have i60 : iv v1_2 0 1599 := iv_nle2 c58 kc_1600 i_v1_2 (by decide)
        refine lv_aload_n hx hb dX5_advance_9 rfl (lv_at hl 0 rfl) ?_
        refine lv_aload_n hx hb dX5_advance_10 rfl (lv_at hl 0 rfl) ?_
        refine h_geti (lo := (-2147483648)) (hi := 2147483647) hx hb hts iX5_advance_X5 hown hK hI g_a (by decide) rfl rfl 10 (by decide) rfl rfl (hts (.fieldLink RX5 48 "CatLeases$Reader" "at" "I") (List.mem_of_getElem? (i := 1) rfl)) (fun _ h9 => h9) dX5_advance_11 (fun v61 e_v61 i_v61 => ?_)
        refine h_goi hI (by decide) (va_runV (As := [.int v61]) (rest := []) ⟨hx, hb, hml, hown, hts⟩ (h_byteAt_X5 l D g σ Z hZ0 M_2 N R a g_a v61) (cwV 1 hts gX5_advance_X5_byteAt rfl rfl rfl (by decide +kernel) ⟨Nat.le_of_ble_eq_true rfl, Nat.le_of_ble_eq_true rfl⟩) (h_preV hZ0 hK hE hI g_a (by decide) rfl) rfl rfl hl.1 rfl (lv_room (Nat.le_of_ble_eq_true rfl)) dX5_advance_14 ⟨Nat.le_of_ble_eq_true rfl, Nat.le_of_ble_eq_true rfl⟩) (fun r62 M63 N64 R65 H locs q66 z_M63 hI => ?_)
        obtain ⟨rfl, rfl, rfl, i_r62⟩ := q66
        refine h_goi hI (by decide) (va_runS (As := [.int r62]) (rest := []) ⟨hx, hb, hml, hown, hts⟩ (h_isBlank_X5 l D g σ Z hZ0 M_2 N R r62) (va_cwS 1 hts gX5_advance_X5_isBlank rfl rfl rfl (by decide +kernel) ⟨Nat.le_of_ble_eq_true rfl, Nat.le_of_ble_eq_true rfl⟩) (h_preS hZ0 hK hE hI) rfl rfl hl.1 rfl (lv_room (Nat.le_of_ble_eq_true rfl)) dX5_advance_17 ⟨Nat.le_of_ble_eq_true rfl, Nat.le_of_ble_eq_true rfl⟩) (fun r67 M68 N69 R70 H locs q71 z_M68 hI => ?_)
        obtain ⟨rfl, rfl, rfl, i_r67⟩ := q71
        refine lv_if_eq (tgt := 39) hx hb dX5_advance_20 (by decide) (fun c72 => ?_) (fun c72 => ?_)
        · have i73 : iv r67 0 0 := iv_eq1 c72 i_r67 kc_0
          exact J39 H locs ls hI (lv_sub hl [0] rfl)
        · have i74 : iv r67 1 1 := iv_neL c72 i_r67 (by decide) (by decide)
          refine lv_aload_n hx hb dX5_advance_23 rfl (lv_at hl 0 rfl) ?_
          refine lv_dup hx hb dX5_advance_24 rfl ?_
          refine h_geti (lo := (-2147483648)) (hi := 2147483647) hx hb hts iX5_advance_X5 hown hK hI g_a (by decide) rfl rfl 10 (by decide) rfl rfl (hts (.fieldLink RX5 48 "CatLeases$Reader" "at" "I") (List.mem_of_getElem? (i := 1) rfl)) (fun _ h9 => h9) dX5_advance_25 (fun v75 e_v75 i_v75 => ?_)
          have q76 : v61 = v75 := (e_v61).trans e_v75.symm
          subst q76
          refine lv_iconst (v := 1) hx hb dX5_advance_28 (by decide) ?_
          refine lv_iadd hx hb dX5_advance_29 ?_
          refine h_nm (lo := (-2147483648)) (hi := 2147483647) (iv_any _) (fun v77 e_v77 i_v77 => ?_)
          refine h_puti hx hb hts iX5_advance_X5 tyX5 tyX5_ok nmX5 hown hK hI g_a (by decide) rfl rfl 10 (by decide) rfl (hts (.fieldLink RX5 48 "CatLeases$Reader" "at" "I") (List.mem_of_getElem? (i := 1) rfl)) (fun _ h9 => h9) rfl .int (by decide +kernel) rfl rfl i_v77 rfl dX5_advance_30 (fun M78 H locs e_M78 hI => ?_)
          obtain ⟨v79, e_v79⟩ : ∃ z : Int32, z = v1_2 + Int32.ofInt 1 := ⟨_, rfl⟩
          have i_v79 : iv v79 1 1600 := by rw [e_v79]; exact iv_add i60 (ki_1) (by decide) (by decide) (by decide) (by decide)
          refine lv_iinc (v := v79) (lv' := [(1, .int v79), (0, .ref a)]) hx hb dX5_advance_33 hl (k := 1) rfl e_v79.symm (by decide) rfl (fun ls hl => ?_)
          refine lv_goto (tgt := 2) hx hb dX5_advance_36 (by decide) ?_
          exact ih2 M78 v79 H locs ls hI (lv_sub hl [1, 0] rfl) (iv_w (lo' := 0) (hi' := 1600) i_v79 (by decide) (by decide)) (by have h9 := (h_inc e_v79 i60 ki_1 (by decide) (by decide)); omega)
  refine lv_istore_n (lv' := [(1, .int (0 : Int32)), (0, .ref a)]) hx hb dX5_advance_1 rfl hl (by decide) rfl (fun ls hl => ?_)
  exact J2 1601 M (0 : Int32) H locs ls hI (lv_sub hl [1, 0] rfl) (iv_w (lo' := 0) (hi' := 1600) kc_0 (by decide) (by decide)) (by have h9 := kc_0; simp only [iv] at h9; omega)
abbrev e_h_fail_X5 : List (Nat × Nat) := [(5, 1), (5, 2)]
set_option maxHeartbeats 4000000 in
set_option maxRecDepth 100000 in
theorem h_fail_X5 (l : Launch) (D : va_G) (g : Nat → ClassId) (σ : Nat → Option Nat) (Z : State → Heap → Prop) (hZ0 : hZ σ Z) (M : hM) (N : hN) (R : hR) (a : Nat) (g_a : σ a = some 5) (p1 : Int32) (p2 : Int32) : Met l yX5_fail wsX5_fail ({ frames := 0, cells := 0, slots := 0, locals := 0 }) (va_Pc [.ref a, .int p1, .int p2] (hPre D g σ Z M N R)) (hQi D g σ e_h_fail_X5 M (fun (r : Int32) (M1 : hM) (N1 : hN) (R1 : hR) => N = N1 ∧ R = R1 ∧ iv r 0 0)) 0 0 (hA σ) := by
  refine h_head (cc := cX5_fail) (maxL := 3) (ret := (some .boolean)) (by decide) rfl (Nat.le_of_ble_eq_true rfl) e_h_fail_X5 ?_
  intro p e s m below meth c ls Q ar hQ hx hb hr hlocks hml hown hts hK hE H locs hI hl
  have hown : s.vm.findClass RX5 = some m.cls := hown
  have hl : lv_has ls 3 [(0, .ref a), (1, .int p1), (2, .int p2)] := hl
  refine lv_aload_n hx hb dX5_fail_0 rfl (lv_at hl 0 rfl) ?_
  refine lv_iload_n hx hb dX5_fail_1 rfl (lv_at hl 1 rfl) ?_
  refine h_puti hx hb hts iX5_fail_X5 tyX5 tyX5_ok nmX5 hown hK hI g_a (by decide) rfl rfl 1 (by decide) rfl (hts (.fieldLink RX5 18 "CatLeases$Reader" "fault" "I") (List.mem_of_getElem? (i := 1) rfl)) (fun _ h9 => h9) rfl .int (by decide +kernel) rfl rfl (iv_any p1) rfl dX5_fail_2 (fun M1 H locs e_M1 hI => ?_)
  refine lv_aload_n hx hb dX5_fail_5 rfl (lv_at hl 0 rfl) ?_
  refine lv_iload_n hx hb dX5_fail_6 rfl (lv_at hl 2 rfl) ?_
  refine h_puti hx hb hts iX5_fail_X5 tyX5 tyX5_ok nmX5 hown hK hI g_a (by decide) rfl rfl 2 (by decide) rfl (hts (.fieldLink RX5 22 "CatLeases$Reader" "faultPlace" "I") (List.mem_of_getElem? (i := 2) rfl)) (fun _ h9 => h9) rfl .int (by decide +kernel) rfl rfl (iv_any p2) rfl dX5_fail_7 (fun M2 H locs e_M2 hI => ?_)
  refine lv_iconst (v := 0) hx hb dX5_fail_10 (by decide) ?_
  exact h_iret hQ hx hb hr hlocks rfl hK hI ⟨rfl, rfl, kc_0⟩ dX5_fail_11
abbrev e_h_refuse_X5 : List (Nat × Nat) := [(5, 1), (5, 2)]
set_option maxHeartbeats 4000000 in
set_option maxRecDepth 100000 in
theorem h_refuse_X5 (l : Launch) (D : va_G) (g : Nat → ClassId) (σ : Nat → Option Nat) (Z : State → Heap → Prop) (hZ0 : hZ σ Z) (M : hM) (N : hN) (R : hR) (a : Nat) (g_a : σ a = some 5) : Met l yX5_refuse wsX5_refuse ({ frames := 1, cells := 0, slots := 0, locals := 22 }) (va_Pc [.ref a] (hPre D g σ Z M N R)) (hQi D g σ e_h_refuse_X5 M (fun (r : Int32) (M1 : hM) (N1 : hN) (R1 : hR) => N = N1 ∧ R = R1 ∧ iv r 0 0)) 0 0 (hA σ) := by
  refine h_head (cc := cX5_refuse) (maxL := 1) (ret := (some .boolean)) (by decide) rfl (Nat.le_of_ble_eq_true rfl) e_h_refuse_X5 ?_
  intro p e s m below meth c ls Q ar hQ hx hb hr hlocks hml hown hts hK hE H locs hI hl
  have hown : s.vm.findClass RX5 = some m.cls := hown
  have hl : lv_has ls 1 [(0, .ref a)] := hl
  refine lv_aload_n hx hb dX5_refuse_0 rfl (lv_at hl 0 rfl) ?_
  refine lv_aload_n hx hb dX5_refuse_1 rfl (lv_at hl 0 rfl) ?_
  refine h_geti (lo := (-2147483648)) (hi := 2147483647) hx hb hts iX5_refuse_X5 hown hK hI g_a (by decide) rfl rfl 12 (by decide) rfl rfl (hts (.fieldLink RX5 54 "CatLeases$Reader" "kind" "I") (List.mem_of_getElem? (i := 1) rfl)) (fun _ h9 => h9) dX5_refuse_2 (fun v1 e_v1 i_v1 => ?_)
  refine lv_sipush (v := 259) hx hb dX5_refuse_5 (by decide) ?_
  have J16 : ∀ (t1_16 : Int32) (H : Heap) (locs : List Loc) (ls : Array Slot), kI D g σ e_h_refuse_X5 M s.heap M N R H locs → lv_has ls 1 [(0, .ref a)] → iv t1_16 1 2 → W p l e (headSpec wsX5_refuse ({ frames := 1, cells := 0, slots := 0, locals := 22 })).room s m ar below meth c H locs 0 0 Q (F0 m 16 ls [.int t1_16, .ref a]) := by
    intro t1_16 H locs ls hI hl i_t1_16
    refine lv_aload_n hx hb dX5_refuse_16 rfl (lv_at hl 0 rfl) ?_
    refine h_geti (lo := (-2147483648)) (hi := 2147483647) hx hb hts iX5_refuse_X5 hown hK hI g_a (by decide) rfl rfl 11 (by decide) rfl rfl (hts (.fieldLink RX5 51 "CatLeases$Reader" "place" "I") (List.mem_of_getElem? (i := 2) rfl)) (fun _ h9 => h9) dX5_refuse_17 (fun v2 e_v2 i_v2 => ?_)
    refine h_goi hI (by decide) (va_runV (As := [.int t1_16, .int v2]) (rest := []) ⟨hx, hb, hml, hown, hts⟩ (h_fail_X5 l D g σ Z hZ0 M N R a g_a t1_16 v2) (cwV 2 hts gX5_refuse_X5_fail rfl rfl rfl (by decide +kernel) ⟨Nat.le_of_ble_eq_true rfl, Nat.le_of_ble_eq_true rfl⟩) (h_preV hZ0 hK hE hI g_a (by decide) rfl) rfl rfl hl.1 rfl (lv_room (Nat.le_of_ble_eq_true rfl)) dX5_refuse_20 ⟨Nat.le_of_ble_eq_true rfl, Nat.le_of_ble_eq_true rfl⟩) (fun r3 M4 N5 R6 H locs q7 z_M4 hI => ?_)
    obtain ⟨rfl, rfl, i_r3⟩ := q7
    exact h_iret hQ hx hb hr hlocks (nar_z (iv_w (lo' := 0) (hi' := 1) i_r3 (by decide) (by decide))) hK hI ⟨rfl, rfl, i_r3⟩ dX5_refuse_23
  refine lv_icmp_ne (tgt := 15) hx hb dX5_refuse_8 (by decide) (fun c8 => ?_) (fun c8 => ?_)
  · refine lv_iconst (v := 2) hx hb dX5_refuse_15 (by decide) ?_
    exact J16 (2 : Int32) H locs ls hI hl (iv_w (lo' := 1) (hi' := 2) kc_2 (by decide) (by decide))
  · have i9 : iv v1 259 259 := iv_eq1 c8 i_v1 kc_259
    refine lv_iconst (v := 1) hx hb dX5_refuse_11 (by decide) ?_
    refine lv_goto (tgt := 16) hx hb dX5_refuse_12 (by decide) ?_
    exact J16 (1 : Int32) H locs ls hI hl (iv_w (lo' := 1) (hi' := 2) kc_1 (by decide) (by decide))
abbrev e_h_readNewName_23 : List (Nat × Nat) := [(5, 1), (5, 2), (5, 10), (5, 11), (5, 12), (5, 13)]
set_option maxHeartbeats 4000000 in
set_option maxRecDepth 100000 in
theorem h_readNewName_23 (l : Launch) (D : va_G) (g : Nat → ClassId) (σ : Nat → Option Nat) (Z : State → Heap → Prop) (hZ0 : hZ σ Z) (M : hM) (N : hN) (R : hR) (a : Nat) (g_a : σ a = some 5) (b : Nat) (g_b : σ b = some 23) (p2 : Int32) (h_p2 : iv p2 0 5) : Met l yX5_readNewName wsX5_readNewName ({ frames := 5, cells := 0, slots := 0, locals := 112 }) (va_Pc [.ref a, .ref b, .int p2] (hPre D g σ Z M N R)) (hQi D g σ e_h_readNewName_23 M (fun (r : Int32) (M1 : hM) (N1 : hN) (R1 : hR) => R = R1 ∧ iv r 0 1)) 0 0 (hA σ) := by
  refine h_head (cc := cX5_readNewName) (maxL := 3) (ret := (some .boolean)) (by decide) rfl (Nat.le_of_ble_eq_true rfl) e_h_readNewName_23 ?_
  intro p e s m below meth c ls Q ar hQ hx hb hr hlocks hml hown hts hK hE H locs hI hl
  have hown : s.vm.findClass RX5 = some m.cls := hown
  have hl : lv_has ls 3 [(0, .ref a), (1, .ref b), (2, .int p2)] := hl
  refine lv_aload_n hx hb dX5_readNewName_0 rfl (lv_at hl 0 rfl) ?_
  refine h_geti (lo := (-2147483648)) (hi := 2147483647) hx hb hts iX5_readNewName_X5 hown hK hI g_a (by decide) rfl rfl 12 (by decide) rfl rfl (hts (.fieldLink RX5 54 "CatLeases$Reader" "kind" "I") (List.mem_of_getElem? (i := 1) rfl)) (fun _ h9 => h9) dX5_readNewName_1 (fun v1 e_v1 i_v1 => ?_)
  refine lv_sipush (v := 256) hx hb dX5_readNewName_4 (by decide) ?_
  have J16 : ∀ (H : Heap) (locs : List Loc) (ls : Array Slot), kI D g σ e_h_readNewName_23 M s.heap M N R H locs → lv_has ls 3 [(0, .ref a)] → W p l e (headSpec wsX5_readNewName ({ frames := 5, cells := 0, slots := 0, locals := 112 })).room s m ar below meth c H locs 0 0 Q (F0 m 16 ls []) := by
    intro H locs ls hI hl
    refine lv_aload_n hx hb dX5_readNewName_16 rfl (lv_at hl 0 rfl) ?_
    refine h_goi hI (by decide) (va_runV (As := []) (rest := []) ⟨hx, hb, hml, hown, hts⟩ (h_refuse_X5 l D g σ Z hZ0 M N R a g_a) (cwV 0 hts gX5_readNewName_X5_refuse rfl rfl rfl (by decide +kernel) ⟨Nat.le_of_ble_eq_true rfl, Nat.le_of_ble_eq_true rfl⟩) (h_preV hZ0 hK hE hI g_a (by decide) rfl) rfl rfl hl.1 rfl (lv_room (Nat.le_of_ble_eq_true rfl)) dX5_readNewName_17 ⟨Nat.le_of_ble_eq_true rfl, Nat.le_of_ble_eq_true rfl⟩) (fun r2 M3 N4 R5 H locs q6 z_M3 hI => ?_)
    obtain ⟨rfl, rfl, i_r2⟩ := q6
    exact h_iret hQ hx hb hr hlocks (nar_z (iv_w (lo' := 0) (hi' := 1) i_r2 (by decide) (by decide))) hK hI ⟨rfl, (iv_w (lo' := 0) (hi' := 1) i_r2 (by decide) (by decide))⟩ dX5_readNewName_20
  refine lv_icmp_ne (tgt := 16) hx hb dX5_readNewName_7 (by decide) (fun c7 => ?_) (fun c7 => ?_)
  · exact J16 H locs ls hI (lv_sub hl [0] rfl)
  · have i8 : iv v1 256 256 := iv_eq1 c7 i_v1 kc_256
    refine lv_iload_n hx hb dX5_readNewName_10 rfl (lv_at hl 2 rfl) ?_
    refine lv_aload_n hx hb dX5_readNewName_11 rfl (lv_at hl 1 rfl) ?_
    refine h_alen (v := 6) hx hb hK hI g_b (by decide) rfl (by decide) (by decide) dX5_readNewName_12 ?_
    refine lv_icmp_lt (tgt := 21) hx hb dX5_readNewName_13 (by decide) (fun c9 => ?_) (fun c9 => ?_)
    · refine lv_aload_n hx hb dX5_readNewName_21 rfl (lv_at hl 0 rfl) ?_
      refine lv_aload_n hx hb dX5_readNewName_22 rfl (lv_at hl 1 rfl) ?_
      refine lv_iload_n hx hb dX5_readNewName_23 rfl (lv_at hl 2 rfl) ?_
      refine h_goi hI (by decide) (va_runV (As := [.ref b, .int p2]) (rest := []) ⟨hx, hb, hml, hown, hts⟩ (h_indexOfWord_23 l D g σ Z hZ0 M N R a g_a b g_b p2) (cwV 2 hts gX5_readNewName_X5_indexOfWord rfl rfl rfl (by decide +kernel) ⟨Nat.le_of_ble_eq_true rfl, Nat.le_of_ble_eq_true rfl⟩) (h_preV hZ0 hK hE hI g_a (by decide) rfl) rfl rfl hl.1 rfl (lv_room (Nat.le_of_ble_eq_true rfl)) dX5_readNewName_24 ⟨Nat.le_of_ble_eq_true rfl, Nat.le_of_ble_eq_true rfl⟩) (fun r10 M11 N12 R13 H locs q14 z_M11 hI => ?_)
      obtain ⟨rfl, rfl, rfl, i_r10⟩ := q14
      refine lv_iconst (v := (-1)) hx hb dX5_readNewName_27 (by decide) ?_
      refine lv_icmp_eq (tgt := 41) hx hb dX5_readNewName_28 (by decide) (fun c15 => ?_) (fun c15 => ?_)
      · have i16 : iv r10 (-1) (-1) := iv_eq1 c15 i_r10 kc_m1
        refine lv_aload_n hx hb dX5_readNewName_41 rfl (lv_at hl 1 rfl) ?_
        refine lv_iload_n hx hb dX5_readNewName_42 rfl (lv_at hl 2 rfl) ?_
        refine lv_aload_n hx hb dX5_readNewName_43 rfl (lv_at hl 0 rfl) ?_
        refine h_getl hx hb hts iX5_readNewName_X5 hown hK hI g_a (by decide) rfl rfl 14 (by decide) rfl  (hts (.fieldLink RX5 60 "CatLeases$Reader" "word" "J") (List.mem_of_getElem? (i := 3) rfl)) (fun _ h9 => h9) dX5_readNewName_44 (fun w17 e_w17 => ?_)
        refine h_last (j := p2.toNatClampNeg) hx hb hK hI g_b (by decide) rfl (iv_in (n := 6) h_p2 (by decide) (by decide)) rfl dX5_readNewName_47 (fun N18 H locs e_N18 hI => ?_)
        refine lv_aload_n hx hb dX5_readNewName_48 rfl (lv_at hl 0 rfl) ?_
        refine h_gov hI (by decide) (va_runV (As := []) (rest := []) ⟨hx, hb, hml, hown, hts⟩ (h_advance_X5 l D g σ Z hZ0 M N18 R a g_a) (cwV 0 hts gX5_readNewName_X5_advance rfl rfl rfl (by decide +kernel) ⟨Nat.le_of_ble_eq_true rfl, Nat.le_of_ble_eq_true rfl⟩) (h_preV hZ0 hK hE hI g_a (by decide) rfl) rfl rfl hl.1 rfl (lv_room (Nat.le_of_ble_eq_true rfl)) dX5_readNewName_49 ⟨Nat.le_of_ble_eq_true rfl, Nat.le_of_ble_eq_true rfl⟩) (fun M20 N21 R22 H locs q23 z_M20 hI => ?_)
        subst q23
        refine lv_iconst (v := 1) hx hb dX5_readNewName_52 (by decide) ?_
        exact h_iret hQ hx hb hr hlocks rfl hK hI ⟨rfl, (iv_w (lo' := 0) (hi' := 1) kc_1 (by decide) (by decide))⟩ dX5_readNewName_53
      · have i24 : iv r10 0 5 := iv_neL c15 i_r10 (by decide) (by decide)
        refine lv_aload_n hx hb dX5_readNewName_31 rfl (lv_at hl 0 rfl) ?_
        refine lv_iconst (v := 3) hx hb dX5_readNewName_32 (by decide) ?_
        refine lv_aload_n hx hb dX5_readNewName_33 rfl (lv_at hl 0 rfl) ?_
        refine h_geti (lo := (-2147483648)) (hi := 2147483647) hx hb hts iX5_readNewName_X5 hown hK hI g_a (by decide) rfl rfl 11 (by decide) rfl rfl (hts (.fieldLink RX5 51 "CatLeases$Reader" "place" "I") (List.mem_of_getElem? (i := 2) rfl)) (fun _ h9 => h9) dX5_readNewName_34 (fun v25 e_v25 i_v25 => ?_)
        refine h_goi hI (by decide) (va_runV (As := [.int (3 : Int32), .int v25]) (rest := []) ⟨hx, hb, hml, hown, hts⟩ (h_fail_X5 l D g σ Z hZ0 M N R a g_a (3 : Int32) v25) (cwV 2 hts gX5_readNewName_X5_fail rfl rfl rfl (by decide +kernel) ⟨Nat.le_of_ble_eq_true rfl, Nat.le_of_ble_eq_true rfl⟩) (h_preV hZ0 hK hE hI g_a (by decide) rfl) rfl rfl hl.1 rfl (lv_room (Nat.le_of_ble_eq_true rfl)) dX5_readNewName_37 ⟨Nat.le_of_ble_eq_true rfl, Nat.le_of_ble_eq_true rfl⟩) (fun r26 M27 N28 R29 H locs q30 z_M27 hI => ?_)
        obtain ⟨rfl, rfl, i_r26⟩ := q30
        exact h_iret hQ hx hb hr hlocks (nar_z (iv_w (lo' := 0) (hi' := 1) i_r26 (by decide) (by decide))) hK hI ⟨rfl, (iv_w (lo' := 0) (hi' := 1) i_r26 (by decide) (by decide))⟩ dX5_readNewName_40
    · exfalso; have h8 := h_p2; have h9 := kc_6; simp only [iv] at h8 h9; rw [Int32.lt_iff_toInt_lt] at c9; omega
abbrev e_h_readNewName_24 : List (Nat × Nat) := [(5, 1), (5, 2), (5, 10), (5, 11), (5, 12), (5, 13)]
set_option maxHeartbeats 4000000 in
set_option maxRecDepth 100000 in
theorem h_readNewName_24 (l : Launch) (D : va_G) (g : Nat → ClassId) (σ : Nat → Option Nat) (Z : State → Heap → Prop) (hZ0 : hZ σ Z) (M : hM) (N : hN) (R : hR) (a : Nat) (g_a : σ a = some 5) (b : Nat) (g_b : σ b = some 24) (p2 : Int32) (h_p2 : iv p2 0 7) : Met l yX5_readNewName wsX5_readNewName ({ frames := 5, cells := 0, slots := 0, locals := 112 }) (va_Pc [.ref a, .ref b, .int p2] (hPre D g σ Z M N R)) (hQi D g σ e_h_readNewName_24 M (fun (r : Int32) (M1 : hM) (N1 : hN) (R1 : hR) => R = R1 ∧ iv r 0 1)) 0 0 (hA σ) := by
  refine h_head (cc := cX5_readNewName) (maxL := 3) (ret := (some .boolean)) (by decide) rfl (Nat.le_of_ble_eq_true rfl) e_h_readNewName_24 ?_
  intro p e s m below meth c ls Q ar hQ hx hb hr hlocks hml hown hts hK hE H locs hI hl
  have hown : s.vm.findClass RX5 = some m.cls := hown
  have hl : lv_has ls 3 [(0, .ref a), (1, .ref b), (2, .int p2)] := hl
  refine lv_aload_n hx hb dX5_readNewName_0 rfl (lv_at hl 0 rfl) ?_
  refine h_geti (lo := (-2147483648)) (hi := 2147483647) hx hb hts iX5_readNewName_X5 hown hK hI g_a (by decide) rfl rfl 12 (by decide) rfl rfl (hts (.fieldLink RX5 54 "CatLeases$Reader" "kind" "I") (List.mem_of_getElem? (i := 1) rfl)) (fun _ h9 => h9) dX5_readNewName_1 (fun v1 e_v1 i_v1 => ?_)
  refine lv_sipush (v := 256) hx hb dX5_readNewName_4 (by decide) ?_
  have J16 : ∀ (H : Heap) (locs : List Loc) (ls : Array Slot), kI D g σ e_h_readNewName_24 M s.heap M N R H locs → lv_has ls 3 [(0, .ref a)] → W p l e (headSpec wsX5_readNewName ({ frames := 5, cells := 0, slots := 0, locals := 112 })).room s m ar below meth c H locs 0 0 Q (F0 m 16 ls []) := by
    intro H locs ls hI hl
    refine lv_aload_n hx hb dX5_readNewName_16 rfl (lv_at hl 0 rfl) ?_
    refine h_goi hI (by decide) (va_runV (As := []) (rest := []) ⟨hx, hb, hml, hown, hts⟩ (h_refuse_X5 l D g σ Z hZ0 M N R a g_a) (cwV 0 hts gX5_readNewName_X5_refuse rfl rfl rfl (by decide +kernel) ⟨Nat.le_of_ble_eq_true rfl, Nat.le_of_ble_eq_true rfl⟩) (h_preV hZ0 hK hE hI g_a (by decide) rfl) rfl rfl hl.1 rfl (lv_room (Nat.le_of_ble_eq_true rfl)) dX5_readNewName_17 ⟨Nat.le_of_ble_eq_true rfl, Nat.le_of_ble_eq_true rfl⟩) (fun r2 M3 N4 R5 H locs q6 z_M3 hI => ?_)
    obtain ⟨rfl, rfl, i_r2⟩ := q6
    exact h_iret hQ hx hb hr hlocks (nar_z (iv_w (lo' := 0) (hi' := 1) i_r2 (by decide) (by decide))) hK hI ⟨rfl, (iv_w (lo' := 0) (hi' := 1) i_r2 (by decide) (by decide))⟩ dX5_readNewName_20
  refine lv_icmp_ne (tgt := 16) hx hb dX5_readNewName_7 (by decide) (fun c7 => ?_) (fun c7 => ?_)
  · exact J16 H locs ls hI (lv_sub hl [0] rfl)
  · have i8 : iv v1 256 256 := iv_eq1 c7 i_v1 kc_256
    refine lv_iload_n hx hb dX5_readNewName_10 rfl (lv_at hl 2 rfl) ?_
    refine lv_aload_n hx hb dX5_readNewName_11 rfl (lv_at hl 1 rfl) ?_
    refine h_alen (v := 8) hx hb hK hI g_b (by decide) rfl (by decide) (by decide) dX5_readNewName_12 ?_
    refine lv_icmp_lt (tgt := 21) hx hb dX5_readNewName_13 (by decide) (fun c9 => ?_) (fun c9 => ?_)
    · refine lv_aload_n hx hb dX5_readNewName_21 rfl (lv_at hl 0 rfl) ?_
      refine lv_aload_n hx hb dX5_readNewName_22 rfl (lv_at hl 1 rfl) ?_
      refine lv_iload_n hx hb dX5_readNewName_23 rfl (lv_at hl 2 rfl) ?_
      refine h_goi hI (by decide) (va_runV (As := [.ref b, .int p2]) (rest := []) ⟨hx, hb, hml, hown, hts⟩ (h_indexOfWord_24 l D g σ Z hZ0 M N R a g_a b g_b p2) (cwV 2 hts gX5_readNewName_X5_indexOfWord rfl rfl rfl (by decide +kernel) ⟨Nat.le_of_ble_eq_true rfl, Nat.le_of_ble_eq_true rfl⟩) (h_preV hZ0 hK hE hI g_a (by decide) rfl) rfl rfl hl.1 rfl (lv_room (Nat.le_of_ble_eq_true rfl)) dX5_readNewName_24 ⟨Nat.le_of_ble_eq_true rfl, Nat.le_of_ble_eq_true rfl⟩) (fun r10 M11 N12 R13 H locs q14 z_M11 hI => ?_)
      obtain ⟨rfl, rfl, rfl, i_r10⟩ := q14
      refine lv_iconst (v := (-1)) hx hb dX5_readNewName_27 (by decide) ?_
      refine lv_icmp_eq (tgt := 41) hx hb dX5_readNewName_28 (by decide) (fun c15 => ?_) (fun c15 => ?_)
      · have i16 : iv r10 (-1) (-1) := iv_eq1 c15 i_r10 kc_m1
        refine lv_aload_n hx hb dX5_readNewName_41 rfl (lv_at hl 1 rfl) ?_
        refine lv_iload_n hx hb dX5_readNewName_42 rfl (lv_at hl 2 rfl) ?_
        refine lv_aload_n hx hb dX5_readNewName_43 rfl (lv_at hl 0 rfl) ?_
        refine h_getl hx hb hts iX5_readNewName_X5 hown hK hI g_a (by decide) rfl rfl 14 (by decide) rfl  (hts (.fieldLink RX5 60 "CatLeases$Reader" "word" "J") (List.mem_of_getElem? (i := 3) rfl)) (fun _ h9 => h9) dX5_readNewName_44 (fun w17 e_w17 => ?_)
        refine h_last (j := p2.toNatClampNeg) hx hb hK hI g_b (by decide) rfl (iv_in (n := 8) h_p2 (by decide) (by decide)) rfl dX5_readNewName_47 (fun N18 H locs e_N18 hI => ?_)
        refine lv_aload_n hx hb dX5_readNewName_48 rfl (lv_at hl 0 rfl) ?_
        refine h_gov hI (by decide) (va_runV (As := []) (rest := []) ⟨hx, hb, hml, hown, hts⟩ (h_advance_X5 l D g σ Z hZ0 M N18 R a g_a) (cwV 0 hts gX5_readNewName_X5_advance rfl rfl rfl (by decide +kernel) ⟨Nat.le_of_ble_eq_true rfl, Nat.le_of_ble_eq_true rfl⟩) (h_preV hZ0 hK hE hI g_a (by decide) rfl) rfl rfl hl.1 rfl (lv_room (Nat.le_of_ble_eq_true rfl)) dX5_readNewName_49 ⟨Nat.le_of_ble_eq_true rfl, Nat.le_of_ble_eq_true rfl⟩) (fun M20 N21 R22 H locs q23 z_M20 hI => ?_)
        subst q23
        refine lv_iconst (v := 1) hx hb dX5_readNewName_52 (by decide) ?_
        exact h_iret hQ hx hb hr hlocks rfl hK hI ⟨rfl, (iv_w (lo' := 0) (hi' := 1) kc_1 (by decide) (by decide))⟩ dX5_readNewName_53
      · have i24 : iv r10 0 7 := iv_neL c15 i_r10 (by decide) (by decide)
        refine lv_aload_n hx hb dX5_readNewName_31 rfl (lv_at hl 0 rfl) ?_
        refine lv_iconst (v := 3) hx hb dX5_readNewName_32 (by decide) ?_
        refine lv_aload_n hx hb dX5_readNewName_33 rfl (lv_at hl 0 rfl) ?_
        refine h_geti (lo := (-2147483648)) (hi := 2147483647) hx hb hts iX5_readNewName_X5 hown hK hI g_a (by decide) rfl rfl 11 (by decide) rfl rfl (hts (.fieldLink RX5 51 "CatLeases$Reader" "place" "I") (List.mem_of_getElem? (i := 2) rfl)) (fun _ h9 => h9) dX5_readNewName_34 (fun v25 e_v25 i_v25 => ?_)
        refine h_goi hI (by decide) (va_runV (As := [.int (3 : Int32), .int v25]) (rest := []) ⟨hx, hb, hml, hown, hts⟩ (h_fail_X5 l D g σ Z hZ0 M N R a g_a (3 : Int32) v25) (cwV 2 hts gX5_readNewName_X5_fail rfl rfl rfl (by decide +kernel) ⟨Nat.le_of_ble_eq_true rfl, Nat.le_of_ble_eq_true rfl⟩) (h_preV hZ0 hK hE hI g_a (by decide) rfl) rfl rfl hl.1 rfl (lv_room (Nat.le_of_ble_eq_true rfl)) dX5_readNewName_37 ⟨Nat.le_of_ble_eq_true rfl, Nat.le_of_ble_eq_true rfl⟩) (fun r26 M27 N28 R29 H locs q30 z_M27 hI => ?_)
        obtain ⟨rfl, rfl, i_r26⟩ := q30
        exact h_iret hQ hx hb hr hlocks (nar_z (iv_w (lo' := 0) (hi' := 1) i_r26 (by decide) (by decide))) hK hI ⟨rfl, (iv_w (lo' := 0) (hi' := 1) i_r26 (by decide) (by decide))⟩ dX5_readNewName_40
    · exfalso; have h8 := h_p2; have h9 := kc_8; simp only [iv] at h8 h9; rw [Int32.lt_iff_toInt_lt] at c9; omega
abbrev e_h_readNewName_25 : List (Nat × Nat) := [(5, 1), (5, 2), (5, 10), (5, 11), (5, 12), (5, 13)]
set_option maxHeartbeats 4000000 in
set_option maxRecDepth 100000 in
theorem h_readNewName_25 (l : Launch) (D : va_G) (g : Nat → ClassId) (σ : Nat → Option Nat) (Z : State → Heap → Prop) (hZ0 : hZ σ Z) (M : hM) (N : hN) (R : hR) (a : Nat) (g_a : σ a = some 5) (b : Nat) (g_b : σ b = some 25) (p2 : Int32) (h_p2 : iv p2 0 6) : Met l yX5_readNewName wsX5_readNewName ({ frames := 5, cells := 0, slots := 0, locals := 112 }) (va_Pc [.ref a, .ref b, .int p2] (hPre D g σ Z M N R)) (hQi D g σ e_h_readNewName_25 M (fun (r : Int32) (M1 : hM) (N1 : hN) (R1 : hR) => R = R1 ∧ iv r 0 1)) 0 0 (hA σ) := by
  refine h_head (cc := cX5_readNewName) (maxL := 3) (ret := (some .boolean)) (by decide) rfl (Nat.le_of_ble_eq_true rfl) e_h_readNewName_25 ?_
  intro p e s m below meth c ls Q ar hQ hx hb hr hlocks hml hown hts hK hE H locs hI hl
  have hown : s.vm.findClass RX5 = some m.cls := hown
  have hl : lv_has ls 3 [(0, .ref a), (1, .ref b), (2, .int p2)] := hl
  refine lv_aload_n hx hb dX5_readNewName_0 rfl (lv_at hl 0 rfl) ?_
  refine h_geti (lo := (-2147483648)) (hi := 2147483647) hx hb hts iX5_readNewName_X5 hown hK hI g_a (by decide) rfl rfl 12 (by decide) rfl rfl (hts (.fieldLink RX5 54 "CatLeases$Reader" "kind" "I") (List.mem_of_getElem? (i := 1) rfl)) (fun _ h9 => h9) dX5_readNewName_1 (fun v1 e_v1 i_v1 => ?_)
  refine lv_sipush (v := 256) hx hb dX5_readNewName_4 (by decide) ?_
  have J16 : ∀ (H : Heap) (locs : List Loc) (ls : Array Slot), kI D g σ e_h_readNewName_25 M s.heap M N R H locs → lv_has ls 3 [(0, .ref a)] → W p l e (headSpec wsX5_readNewName ({ frames := 5, cells := 0, slots := 0, locals := 112 })).room s m ar below meth c H locs 0 0 Q (F0 m 16 ls []) := by
    intro H locs ls hI hl
    refine lv_aload_n hx hb dX5_readNewName_16 rfl (lv_at hl 0 rfl) ?_
    refine h_goi hI (by decide) (va_runV (As := []) (rest := []) ⟨hx, hb, hml, hown, hts⟩ (h_refuse_X5 l D g σ Z hZ0 M N R a g_a) (cwV 0 hts gX5_readNewName_X5_refuse rfl rfl rfl (by decide +kernel) ⟨Nat.le_of_ble_eq_true rfl, Nat.le_of_ble_eq_true rfl⟩) (h_preV hZ0 hK hE hI g_a (by decide) rfl) rfl rfl hl.1 rfl (lv_room (Nat.le_of_ble_eq_true rfl)) dX5_readNewName_17 ⟨Nat.le_of_ble_eq_true rfl, Nat.le_of_ble_eq_true rfl⟩) (fun r2 M3 N4 R5 H locs q6 z_M3 hI => ?_)
    obtain ⟨rfl, rfl, i_r2⟩ := q6
    exact h_iret hQ hx hb hr hlocks (nar_z (iv_w (lo' := 0) (hi' := 1) i_r2 (by decide) (by decide))) hK hI ⟨rfl, (iv_w (lo' := 0) (hi' := 1) i_r2 (by decide) (by decide))⟩ dX5_readNewName_20
  refine lv_icmp_ne (tgt := 16) hx hb dX5_readNewName_7 (by decide) (fun c7 => ?_) (fun c7 => ?_)
  · exact J16 H locs ls hI (lv_sub hl [0] rfl)
  · have i8 : iv v1 256 256 := iv_eq1 c7 i_v1 kc_256
    refine lv_iload_n hx hb dX5_readNewName_10 rfl (lv_at hl 2 rfl) ?_
    refine lv_aload_n hx hb dX5_readNewName_11 rfl (lv_at hl 1 rfl) ?_
    refine h_alen (v := 7) hx hb hK hI g_b (by decide) rfl (by decide) (by decide) dX5_readNewName_12 ?_
    refine lv_icmp_lt (tgt := 21) hx hb dX5_readNewName_13 (by decide) (fun c9 => ?_) (fun c9 => ?_)
    · refine lv_aload_n hx hb dX5_readNewName_21 rfl (lv_at hl 0 rfl) ?_
      refine lv_aload_n hx hb dX5_readNewName_22 rfl (lv_at hl 1 rfl) ?_
      refine lv_iload_n hx hb dX5_readNewName_23 rfl (lv_at hl 2 rfl) ?_
      refine h_goi hI (by decide) (va_runV (As := [.ref b, .int p2]) (rest := []) ⟨hx, hb, hml, hown, hts⟩ (h_indexOfWord_25 l D g σ Z hZ0 M N R a g_a b g_b p2) (cwV 2 hts gX5_readNewName_X5_indexOfWord rfl rfl rfl (by decide +kernel) ⟨Nat.le_of_ble_eq_true rfl, Nat.le_of_ble_eq_true rfl⟩) (h_preV hZ0 hK hE hI g_a (by decide) rfl) rfl rfl hl.1 rfl (lv_room (Nat.le_of_ble_eq_true rfl)) dX5_readNewName_24 ⟨Nat.le_of_ble_eq_true rfl, Nat.le_of_ble_eq_true rfl⟩) (fun r10 M11 N12 R13 H locs q14 z_M11 hI => ?_)
      obtain ⟨rfl, rfl, rfl, i_r10⟩ := q14
      refine lv_iconst (v := (-1)) hx hb dX5_readNewName_27 (by decide) ?_
      refine lv_icmp_eq (tgt := 41) hx hb dX5_readNewName_28 (by decide) (fun c15 => ?_) (fun c15 => ?_)
      · have i16 : iv r10 (-1) (-1) := iv_eq1 c15 i_r10 kc_m1
        refine lv_aload_n hx hb dX5_readNewName_41 rfl (lv_at hl 1 rfl) ?_
        refine lv_iload_n hx hb dX5_readNewName_42 rfl (lv_at hl 2 rfl) ?_
        refine lv_aload_n hx hb dX5_readNewName_43 rfl (lv_at hl 0 rfl) ?_
        refine h_getl hx hb hts iX5_readNewName_X5 hown hK hI g_a (by decide) rfl rfl 14 (by decide) rfl  (hts (.fieldLink RX5 60 "CatLeases$Reader" "word" "J") (List.mem_of_getElem? (i := 3) rfl)) (fun _ h9 => h9) dX5_readNewName_44 (fun w17 e_w17 => ?_)
        refine h_last (j := p2.toNatClampNeg) hx hb hK hI g_b (by decide) rfl (iv_in (n := 7) h_p2 (by decide) (by decide)) rfl dX5_readNewName_47 (fun N18 H locs e_N18 hI => ?_)
        refine lv_aload_n hx hb dX5_readNewName_48 rfl (lv_at hl 0 rfl) ?_
        refine h_gov hI (by decide) (va_runV (As := []) (rest := []) ⟨hx, hb, hml, hown, hts⟩ (h_advance_X5 l D g σ Z hZ0 M N18 R a g_a) (cwV 0 hts gX5_readNewName_X5_advance rfl rfl rfl (by decide +kernel) ⟨Nat.le_of_ble_eq_true rfl, Nat.le_of_ble_eq_true rfl⟩) (h_preV hZ0 hK hE hI g_a (by decide) rfl) rfl rfl hl.1 rfl (lv_room (Nat.le_of_ble_eq_true rfl)) dX5_readNewName_49 ⟨Nat.le_of_ble_eq_true rfl, Nat.le_of_ble_eq_true rfl⟩) (fun M20 N21 R22 H locs q23 z_M20 hI => ?_)
        subst q23
        refine lv_iconst (v := 1) hx hb dX5_readNewName_52 (by decide) ?_
        exact h_iret hQ hx hb hr hlocks rfl hK hI ⟨rfl, (iv_w (lo' := 0) (hi' := 1) kc_1 (by decide) (by decide))⟩ dX5_readNewName_53
      · have i24 : iv r10 0 6 := iv_neL c15 i_r10 (by decide) (by decide)
        refine lv_aload_n hx hb dX5_readNewName_31 rfl (lv_at hl 0 rfl) ?_
        refine lv_iconst (v := 3) hx hb dX5_readNewName_32 (by decide) ?_
        refine lv_aload_n hx hb dX5_readNewName_33 rfl (lv_at hl 0 rfl) ?_
        refine h_geti (lo := (-2147483648)) (hi := 2147483647) hx hb hts iX5_readNewName_X5 hown hK hI g_a (by decide) rfl rfl 11 (by decide) rfl rfl (hts (.fieldLink RX5 51 "CatLeases$Reader" "place" "I") (List.mem_of_getElem? (i := 2) rfl)) (fun _ h9 => h9) dX5_readNewName_34 (fun v25 e_v25 i_v25 => ?_)
        refine h_goi hI (by decide) (va_runV (As := [.int (3 : Int32), .int v25]) (rest := []) ⟨hx, hb, hml, hown, hts⟩ (h_fail_X5 l D g σ Z hZ0 M N R a g_a (3 : Int32) v25) (cwV 2 hts gX5_readNewName_X5_fail rfl rfl rfl (by decide +kernel) ⟨Nat.le_of_ble_eq_true rfl, Nat.le_of_ble_eq_true rfl⟩) (h_preV hZ0 hK hE hI g_a (by decide) rfl) rfl rfl hl.1 rfl (lv_room (Nat.le_of_ble_eq_true rfl)) dX5_readNewName_37 ⟨Nat.le_of_ble_eq_true rfl, Nat.le_of_ble_eq_true rfl⟩) (fun r26 M27 N28 R29 H locs q30 z_M27 hI => ?_)
        obtain ⟨rfl, rfl, i_r26⟩ := q30
        exact h_iret hQ hx hb hr hlocks (nar_z (iv_w (lo' := 0) (hi' := 1) i_r26 (by decide) (by decide))) hK hI ⟨rfl, (iv_w (lo' := 0) (hi' := 1) i_r26 (by decide) (by decide))⟩ dX5_readNewName_40
    · exfalso; have h8 := h_p2; have h9 := kc_7; simp only [iv] at h8 h9; rw [Int32.lt_iff_toInt_lt] at c9; omega
abbrev e_h_readKnownName_23 : List (Nat × Nat) := [(5, 1), (5, 2), (5, 10), (5, 11), (5, 12), (5, 13)]
set_option maxHeartbeats 4000000 in
set_option maxRecDepth 100000 in
theorem h_readKnownName_23 (l : Launch) (D : va_G) (g : Nat → ClassId) (σ : Nat → Option Nat) (Z : State → Heap → Prop) (hZ0 : hZ σ Z) (M : hM) (N : hN) (R : hR) (a : Nat) (g_a : σ a = some 5) (b : Nat) (g_b : σ b = some 23) (p2 : Int32) : Met l yX5_readKnownName wsX5_readKnownName ({ frames := 5, cells := 0, slots := 0, locals := 112 }) (va_Pc [.ref a, .ref b, .int p2] (hPre D g σ Z M N R)) (hQi D g σ e_h_readKnownName_23 M (fun (r : Int32) (M1 : hM) (N1 : hN) (R1 : hR) => R = R1 ∧ iv r (-1) 5)) 0 0 (hA σ) := by
  refine h_head (cc := cX5_readKnownName) (maxL := 4) (ret := (some .int)) (by decide) rfl (Nat.le_of_ble_eq_true rfl) e_h_readKnownName_23 ?_
  intro p e s m below meth c ls Q ar hQ hx hb hr hlocks hml hown hts hK hE H locs hI hl
  have hown : s.vm.findClass RX5 = some m.cls := hown
  have hl : lv_has ls 4 [(0, .ref a), (1, .ref b), (2, .int p2)] := hl
  refine lv_aload_n hx hb dX5_readKnownName_0 rfl (lv_at hl 0 rfl) ?_
  refine h_geti (lo := (-2147483648)) (hi := 2147483647) hx hb hts iX5_readKnownName_X5 hown hK hI g_a (by decide) rfl rfl 12 (by decide) rfl rfl (hts (.fieldLink RX5 54 "CatLeases$Reader" "kind" "I") (List.mem_of_getElem? (i := 1) rfl)) (fun _ h9 => h9) dX5_readKnownName_1 (fun v1 e_v1 i_v1 => ?_)
  refine lv_sipush (v := 256) hx hb dX5_readKnownName_4 (by decide) ?_
  refine lv_icmp_eq (tgt := 17) hx hb dX5_readKnownName_7 (by decide) (fun c2 => ?_) (fun c2 => ?_)
  · have i3 : iv v1 256 256 := iv_eq1 c2 i_v1 kc_256
    refine lv_aload_n hx hb dX5_readKnownName_17 rfl (lv_at hl 0 rfl) ?_
    refine lv_aload_n hx hb dX5_readKnownName_18 rfl (lv_at hl 1 rfl) ?_
    refine lv_iload_n hx hb dX5_readKnownName_19 rfl (lv_at hl 2 rfl) ?_
    refine h_goi hI (by decide) (va_runV (As := [.ref b, .int p2]) (rest := []) ⟨hx, hb, hml, hown, hts⟩ (h_indexOfWord_23 l D g σ Z hZ0 M N R a g_a b g_b p2) (cwV 2 hts gX5_readKnownName_X5_indexOfWord rfl rfl rfl (by decide +kernel) ⟨Nat.le_of_ble_eq_true rfl, Nat.le_of_ble_eq_true rfl⟩) (h_preV hZ0 hK hE hI g_a (by decide) rfl) rfl rfl hl.1 rfl (lv_room (Nat.le_of_ble_eq_true rfl)) dX5_readKnownName_20 ⟨Nat.le_of_ble_eq_true rfl, Nat.le_of_ble_eq_true rfl⟩) (fun r4 M5 N6 R7 H locs q8 z_M5 hI => ?_)
    obtain ⟨rfl, rfl, rfl, i_r4⟩ := q8
    refine lv_istore_n (lv' := [(3, .int r4), (0, .ref a), (1, .ref b), (2, .int p2)]) hx hb dX5_readKnownName_23 rfl hl (by decide) rfl (fun ls hl => ?_)
    refine lv_iload_n hx hb dX5_readKnownName_24 rfl (lv_at hl 0 rfl) ?_
    refine lv_iconst (v := (-1)) hx hb dX5_readKnownName_25 (by decide) ?_
    refine lv_icmp_ne (tgt := 41) hx hb dX5_readKnownName_26 (by decide) (fun c9 => ?_) (fun c9 => ?_)
    · have i10 : iv r4 0 5 := iv_neL c9 i_r4 (by decide) (by decide)
      refine lv_aload_n hx hb dX5_readKnownName_41 rfl (lv_at hl 1 rfl) ?_
      refine h_gov hI (by decide) (va_runV (As := []) (rest := []) ⟨hx, hb, hml, hown, hts⟩ (h_advance_X5 l D g σ Z hZ0 M N R a g_a) (cwV 0 hts gX5_readKnownName_X5_advance rfl rfl rfl (by decide +kernel) ⟨Nat.le_of_ble_eq_true rfl, Nat.le_of_ble_eq_true rfl⟩) (h_preV hZ0 hK hE hI g_a (by decide) rfl) rfl rfl hl.1 rfl (lv_room (Nat.le_of_ble_eq_true rfl)) dX5_readKnownName_42 ⟨Nat.le_of_ble_eq_true rfl, Nat.le_of_ble_eq_true rfl⟩) (fun M12 N13 R14 H locs q15 z_M12 hI => ?_)
      subst q15
      refine lv_iload_n hx hb dX5_readKnownName_45 rfl (lv_at hl 0 rfl) ?_
      exact h_iret hQ hx hb hr hlocks rfl hK hI ⟨rfl, (iv_w (lo' := (-1)) (hi' := 5) i10 (by decide) (by decide))⟩ dX5_readKnownName_46
    · have i16 : iv r4 (-1) (-1) := iv_eq1 c9 i_r4 kc_m1
      refine lv_aload_n hx hb dX5_readKnownName_29 rfl (lv_at hl 1 rfl) ?_
      refine lv_iconst (v := 5) hx hb dX5_readKnownName_30 (by decide) ?_
      refine lv_aload_n hx hb dX5_readKnownName_31 rfl (lv_at hl 1 rfl) ?_
      refine h_geti (lo := (-2147483648)) (hi := 2147483647) hx hb hts iX5_readKnownName_X5 hown hK hI g_a (by decide) rfl rfl 11 (by decide) rfl rfl (hts (.fieldLink RX5 51 "CatLeases$Reader" "place" "I") (List.mem_of_getElem? (i := 2) rfl)) (fun _ h9 => h9) dX5_readKnownName_32 (fun v17 e_v17 i_v17 => ?_)
      refine h_goi hI (by decide) (va_runV (As := [.int (5 : Int32), .int v17]) (rest := []) ⟨hx, hb, hml, hown, hts⟩ (h_fail_X5 l D g σ Z hZ0 M N R a g_a (5 : Int32) v17) (cwV 2 hts gX5_readKnownName_X5_fail rfl rfl rfl (by decide +kernel) ⟨Nat.le_of_ble_eq_true rfl, Nat.le_of_ble_eq_true rfl⟩) (h_preV hZ0 hK hE hI g_a (by decide) rfl) rfl rfl hl.1 rfl (lv_room (Nat.le_of_ble_eq_true rfl)) dX5_readKnownName_35 ⟨Nat.le_of_ble_eq_true rfl, Nat.le_of_ble_eq_true rfl⟩) (fun r18 M19 N20 R21 H locs q22 z_M19 hI => ?_)
      obtain ⟨rfl, rfl, i_r18⟩ := q22
      refine lv_pop hx hb dX5_readKnownName_38 rfl ?_
      refine lv_iconst (v := (-1)) hx hb dX5_readKnownName_39 (by decide) ?_
      exact h_iret hQ hx hb hr hlocks rfl hK hI ⟨rfl, (iv_w (lo' := (-1)) (hi' := 5) kc_m1 (by decide) (by decide))⟩ dX5_readKnownName_40
  · refine lv_aload_n hx hb dX5_readKnownName_10 rfl (lv_at hl 0 rfl) ?_
    refine h_goi hI (by decide) (va_runV (As := []) (rest := []) ⟨hx, hb, hml, hown, hts⟩ (h_refuse_X5 l D g σ Z hZ0 M N R a g_a) (cwV 0 hts gX5_readKnownName_X5_refuse rfl rfl rfl (by decide +kernel) ⟨Nat.le_of_ble_eq_true rfl, Nat.le_of_ble_eq_true rfl⟩) (h_preV hZ0 hK hE hI g_a (by decide) rfl) rfl rfl hl.1 rfl (lv_room (Nat.le_of_ble_eq_true rfl)) dX5_readKnownName_11 ⟨Nat.le_of_ble_eq_true rfl, Nat.le_of_ble_eq_true rfl⟩) (fun r23 M24 N25 R26 H locs q27 z_M24 hI => ?_)
    obtain ⟨rfl, rfl, i_r23⟩ := q27
    refine lv_pop hx hb dX5_readKnownName_14 rfl ?_
    refine lv_iconst (v := (-1)) hx hb dX5_readKnownName_15 (by decide) ?_
    exact h_iret hQ hx hb hr hlocks rfl hK hI ⟨rfl, (iv_w (lo' := (-1)) (hi' := 5) kc_m1 (by decide) (by decide))⟩ dX5_readKnownName_16
