abbrev e_h_read_X5 : List (Nat × Nat) := [(2, 2), (4, 0), (4, 1), (4, 2), (4, 3), (4, 4), (5, 1), (5, 2), (5, 8), (5, 9), (5, 10), (5, 11), (5, 12), (5, 13), (7, 5), (7, 6), (7, 7), (12, 999), (13, 999), (14, 999), (15, 999), (17, 999)]
set_option maxHeartbeats 4000000 in
set_option maxRecDepth 100000 in
theorem h_read_X5 (l : Launch) (D : va_G) (g : Nat → ClassId) (σ : Nat → Option Nat) (Z : State → Heap → Prop) (hZ0 : hZ σ Z) (M : hM) (N : hN) (R : hR) (a : Nat) (g_a : σ a = some 5) (b : Nat) (g_b : σ b = some 10) (p2 : Int32) : Met l yX5_read wsX5_read ({ frames := 61, cells := 0, slots := 0, locals := 1391 }) (va_Pc [.ref a, .ref b, .int p2] (hPre D g σ Z M N R)) (hQi D g σ e_h_read_X5 M (fun (r : Int32) (M1 : hM) (N1 : hN) (R1 : hR) => iv r 0 1)) 0 0 (hA σ) := by
  refine h_head (cc := cX5_read) (maxL := 5) (ret := (some .boolean)) (by decide) rfl (Nat.le_of_ble_eq_true rfl) e_h_read_X5 ?_
  intro p e s m below meth c ls Q ar hQ hx hb hr hlocks hml hown hts hK hE H locs hI hl
  have hown : s.vm.findClass RX5 = some m.cls := hown
  have hl : lv_has ls 5 [(0, .ref a), (1, .ref b), (2, .int p2)] := hl
  refine lv_aload_n hx hb dX5_read_0 rfl (lv_at hl 0 rfl) ?_
  refine lv_aload_n hx hb dX5_read_1 rfl (lv_at hl 1 rfl) ?_
  refine h_putr hx hb hts iX5_read_X5 tyX5 tyX5_ok nmX5 hown hK hI g_a (by decide) rfl rfl 7 (by decide) rfl (hts (.fieldLink RX5 38 "CatLeases$Reader" "text" "[B") (List.mem_of_getElem? (i := 1) rfl)) (fun _ h9 => h9) rfl (.array .byte) (by decide +kernel) rfl rfl 10 (by decide) g_b dX5_read_2 (fun R1 H locs e_R1 hI => ?_)
  refine lv_aload_n hx hb dX5_read_5 rfl (lv_at hl 0 rfl) ?_
  refine lv_iload_n hx hb dX5_read_6 rfl (lv_at hl 2 rfl) ?_
  refine lv_aload_n hx hb dX5_read_7 rfl (lv_at hl 1 rfl) ?_
  refine h_alen (v := 1600) hx hb hK hI g_b (by decide) rfl (by decide) (by decide) dX5_read_8 ?_
  refine va_mmin hx hb (hml.trans hl.1.symm) hown (hts (.methodLink RX5 81 Lib.Math.min.name) (List.mem_of_getElem? (i := 2) rfl)) (hts (.static Lib.Math.min.name) (List.mem_of_getElem? (i := 3) rfl)) (hts (.initialized "java/lang/Math") (List.mem_of_getElem? (i := 4) rfl)) (hts (.code Lib.Math.min.name Lib.Math.min.code 2 (some .int)) (List.mem_of_getElem? (i := 5) rfl)) (Nat.le_of_ble_eq_true rfl) (Nat.le_of_ble_eq_true rfl) (Nat.le_of_ble_eq_true rfl) (Nat.le_of_ble_eq_true rfl) dX5_read_9 ?_
  refine h_nm (lo := (-2147483648)) (hi := 1600) (iv_min (iv_any p2) kc_1600 (by decide) (by decide) (by decide)) (fun v2 e_v2 i_v2 => ?_)
  refine h_puti hx hb hts iX5_read_X5 tyX5 tyX5_ok nmX5 hown hK hI g_a (by decide) rfl rfl 8 (by decide) rfl (hts (.fieldLink RX5 42 "CatLeases$Reader" "length" "I") (List.mem_of_getElem? (i := 6) rfl)) (fun _ h9 => h9) rfl .int (by decide +kernel) rfl rfl i_v2 rfl dX5_read_12 (fun M3 H locs e_M3 hI => ?_)
  refine lv_aload_n hx hb dX5_read_15 rfl (lv_at hl 0 rfl) ?_
  refine h_getr hx hb hts iX5_read_X5 hown hK hI g_a (by decide) rfl rfl 0 (by decide) rfl 4 rfl (hts (.fieldLink RX5 12 "CatLeases$Reader" "mews" "LCatLeases$Mews;") (List.mem_of_getElem? (i := 7) rfl)) (fun _ h9 => h9) dX5_read_16 (fun a4 e_a4 g_a4 => ?_)
  refine h_gov hI (by decide) (va_runV (As := []) (rest := []) ⟨hx, hb, hml, hown, hts⟩ (h_empty_X4 l D g σ Z hZ0 M3 N R1 a4 g_a4) (cwV 0 hts gX5_read_X4_empty rfl rfl rfl (by decide +kernel) ⟨Nat.le_of_ble_eq_true rfl, Nat.le_of_ble_eq_true rfl⟩) (h_preV hZ0 hK hE hI g_a4 (by decide) rfl) rfl rfl hl.1 rfl (lv_room (Nat.le_of_ble_eq_true rfl)) dX5_read_19 ⟨Nat.le_of_ble_eq_true rfl, Nat.le_of_ble_eq_true rfl⟩) (fun M6 N7 R8 H locs q9 z_M6 hI => ?_)
  obtain ⟨rfl, rfl⟩ := q9
  refine lv_aload_n hx hb dX5_read_22 rfl (lv_at hl 0 rfl) ?_
  refine lv_iconst (v := 0) hx hb dX5_read_23 (by decide) ?_
  refine h_puti hx hb hts iX5_read_X5 tyX5 tyX5_ok nmX5 hown hK hI g_a (by decide) rfl rfl 9 (by decide) rfl (hts (.fieldLink RX5 45 "CatLeases$Reader" "toldOnce" "I") (List.mem_of_getElem? (i := 8) rfl)) (fun _ h9 => h9) rfl .int (by decide +kernel) rfl rfl (iv_w (lo' := (-2147483648)) (hi' := 2147483647) kc_0 (by decide) (by decide)) rfl dX5_read_24 (fun M10 H locs e_M10 hI => ?_)
  refine lv_aload_n hx hb dX5_read_27 rfl (lv_at hl 0 rfl) ?_
  refine lv_iconst (v := 0) hx hb dX5_read_28 (by decide) ?_
  refine h_puti hx hb hts iX5_read_X5 tyX5 tyX5_ok nmX5 hown hK hI g_a (by decide) rfl rfl 1 (by decide) rfl (hts (.fieldLink RX5 18 "CatLeases$Reader" "fault" "I") (List.mem_of_getElem? (i := 9) rfl)) (fun _ h9 => h9) rfl .int (by decide +kernel) rfl rfl (iv_w (lo' := (-2147483648)) (hi' := 2147483647) kc_0 (by decide) (by decide)) rfl dX5_read_29 (fun M11 H locs e_M11 hI => ?_)
  refine lv_aload_n hx hb dX5_read_32 rfl (lv_at hl 0 rfl) ?_
  refine lv_iconst (v := (-1)) hx hb dX5_read_33 (by decide) ?_
  refine h_puti hx hb hts iX5_read_X5 tyX5 tyX5_ok nmX5 hown hK hI g_a (by decide) rfl rfl 2 (by decide) rfl (hts (.fieldLink RX5 22 "CatLeases$Reader" "faultPlace" "I") (List.mem_of_getElem? (i := 10) rfl)) (fun _ h9 => h9) rfl .int (by decide +kernel) rfl rfl (iv_w (lo' := (-2147483648)) (hi' := 2147483647) kc_m1 (by decide) (by decide)) rfl dX5_read_34 (fun M12 H locs e_M12 hI => ?_)
  refine lv_aload_n hx hb dX5_read_37 rfl (lv_at hl 0 rfl) ?_
  refine lv_iconst (v := 0) hx hb dX5_read_38 (by decide) ?_
  refine h_puti hx hb hts iX5_read_X5 tyX5 tyX5_ok nmX5 hown hK hI g_a (by decide) rfl rfl 10 (by decide) rfl (hts (.fieldLink RX5 48 "CatLeases$Reader" "at" "I") (List.mem_of_getElem? (i := 11) rfl)) (fun _ h9 => h9) rfl .int (by decide +kernel) rfl rfl (iv_w (lo' := (-2147483648)) (hi' := 2147483647) kc_0 (by decide) (by decide)) rfl dX5_read_39 (fun M13 H locs e_M13 hI => ?_)
  refine lv_aload_n hx hb dX5_read_42 rfl (lv_at hl 0 rfl) ?_
  refine h_gov hI (by decide) (va_runV (As := []) (rest := []) ⟨hx, hb, hml, hown, hts⟩ (h_advance_X5 l D g σ Z hZ0 M13 N R1 a g_a) (cwV 0 hts gX5_read_X5_advance rfl rfl rfl (by decide +kernel) ⟨Nat.le_of_ble_eq_true rfl, Nat.le_of_ble_eq_true rfl⟩) (h_preV hZ0 hK hE hI g_a (by decide) rfl) rfl rfl hl.1 rfl (lv_room (Nat.le_of_ble_eq_true rfl)) dX5_read_43 ⟨Nat.le_of_ble_eq_true rfl, Nat.le_of_ble_eq_true rfl⟩) (fun M15 N16 R17 H locs q18 z_M15 hI => ?_)
  subst q18
  refine lv_iconst (v := 1) hx hb dX5_read_46 (by decide) ?_
  refine lv_istore_n (lv' := [(3, .int (1 : Int32)), (0, .ref a), (1, .ref b), (2, .int p2)]) hx hb dX5_read_47 rfl hl (by decide) rfl (fun ls hl => ?_)
  refine lv_iconst (v := 0) hx hb dX5_read_48 (by decide) ?_
  have J51 : ∀ (n : Nat) (M_51 : hM) (N_51 : hN) (v3_51 : Int32) (v4_51 : Int32) (H : Heap) (locs : List Loc) (ls : Array Slot), kI D g σ e_h_read_X5 M s.heap M_51 N_51 R1 H locs → lv_has ls 5 [(0, .ref a), (3, .int v3_51), (4, .int v4_51)] → v2 = M_51 a 8 → iv v3_51 0 1 → iv v4_51 0 1601 → 1602 ≤ v4_51.toInt + (n : Int) → W p l e (headSpec wsX5_read ({ frames := 61, cells := 0, slots := 0, locals := 1391 })).room s m ar below meth c H locs 0 0 Q (F0 m 51 ls []) := by
    intro n
    induction n with
    | zero => intro M_51 N_51 v3_51 v4_51 H locs ls hI hl k0_51 i_v3_51 i_v4_51 hn; exfalso; have hz := i_v4_51; simp only [iv] at hz; omega
    | succ n ih51 =>
      intro M_51 N_51 v3_51 v4_51 H locs ls hI hl k0_51 i_v3_51 i_v4_51 hn51
      refine lv_iload hx hb dX5_read_51 (lv_at hl 2 rfl) ?_
      refine lv_aload_n hx hb dX5_read_53 rfl (lv_at hl 0 rfl) ?_
      refine h_geti (lo := (-2147483648)) (hi := 1600) hx hb hts iX5_read_X5 hown hK hI g_a (by decide) rfl rfl 8 (by decide) rfl rfl (hts (.fieldLink RX5 42 "CatLeases$Reader" "length" "I") (List.mem_of_getElem? (i := 6) rfl)) (fun _ h9 => h9) dX5_read_54 (fun v19 e_v19 i_v19 => ?_)
      have q20 : v2 = v19 := (k0_51).trans e_v19.symm
      subst q20
      have J85 : ∀ (H : Heap) (locs : List Loc) (ls : Array Slot), kI D g σ e_h_read_X5 M s.heap M_51 N_51 R1 H locs → lv_has ls 5 [(0, .ref a), (3, .int v3_51)] → W p l e (headSpec wsX5_read ({ frames := 61, cells := 0, slots := 0, locals := 1391 })).room s m ar below meth c H locs 0 0 Q (F0 m 85 ls []) := by
        intro H locs ls hI hl
        refine lv_iload_n hx hb dX5_read_85 rfl (lv_at hl 1 rfl) ?_
        refine lv_if_eq (tgt := 93) hx hb dX5_read_86 (by decide) (fun c21 => ?_) (fun c21 => ?_)
        · have i22 : iv v3_51 0 0 := iv_eq1 c21 i_v3_51 kc_0
          refine lv_iload_n hx hb dX5_read_93 rfl (lv_at hl 1 rfl) ?_
          exact h_iret hQ hx hb hr hlocks (nar_z (iv_w (lo' := 0) (hi' := 1) i22 (by decide) (by decide))) hK hI (iv_w (lo' := 0) (hi' := 1) i22 (by decide) (by decide)) dX5_read_94
        · have i23 : iv v3_51 1 1 := iv_neL c21 i_v3_51 (by decide) (by decide)
          refine lv_aload_n hx hb dX5_read_89 rfl (lv_at hl 0 rfl) ?_
          refine h_gov hI (by decide) (va_runV (As := []) (rest := []) ⟨hx, hb, hml, hown, hts⟩ (h_finish_X5 l D g σ Z hZ0 M_51 N_51 R1 a g_a) (cwV 0 hts gX5_read_X5_finish rfl rfl rfl (by decide +kernel) ⟨Nat.le_of_ble_eq_true rfl, Nat.le_of_ble_eq_true rfl⟩) (h_preV hZ0 hK hE hI g_a (by decide) rfl) rfl rfl hl.1 rfl (lv_room (Nat.le_of_ble_eq_true rfl)) dX5_read_90 ⟨Nat.le_of_ble_eq_true rfl, Nat.le_of_ble_eq_true rfl⟩) (fun M25 N26 R27 H locs q28 z_M25 hI => ?_)
          obtain ⟨rfl, rfl⟩ := q28
          refine lv_iload_n hx hb dX5_read_93 rfl (lv_at hl 1 rfl) ?_
          exact h_iret hQ hx hb hr hlocks (nar_z (iv_w (lo' := 0) (hi' := 1) i23 (by decide) (by decide))) hK hI (iv_w (lo' := 0) (hi' := 1) i23 (by decide) (by decide)) dX5_read_94
      refine lv_icmp_gt (tgt := 85) hx hb dX5_read_57 (by decide) (fun c29 => ?_) (fun c29 => ?_)
      · exact J85 H locs ls hI (lv_sub hl [0, 1] rfl)
      · have i30 : iv v2 0 1600 := iv_nlt1 c29 i_v2 i_v4_51 (by decide)
        have i31 : iv v4_51 0 1600 := iv_nlt2 c29 i_v2 i_v4_51 (by decide)
        refine lv_iload_n hx hb dX5_read_60 rfl (lv_at hl 1 rfl) ?_
        refine lv_if_eq (tgt := 85) hx hb dX5_read_61 (by decide) (fun c32 => ?_) (fun c32 => ?_)
        · have i33 : iv v3_51 0 0 := iv_eq1 c32 i_v3_51 kc_0
          exact J85 H locs ls hI (lv_sub hl [0, 1] rfl)
        · have i34 : iv v3_51 1 1 := iv_neL c32 i_v3_51 (by decide) (by decide)
          refine lv_aload_n hx hb dX5_read_64 rfl (lv_at hl 0 rfl) ?_
          refine h_geti (lo := (-2147483648)) (hi := 2147483647) hx hb hts iX5_read_X5 hown hK hI g_a (by decide) rfl rfl 12 (by decide) rfl rfl (hts (.fieldLink RX5 54 "CatLeases$Reader" "kind" "I") (List.mem_of_getElem? (i := 12) rfl)) (fun _ h9 => h9) dX5_read_65 (fun v35 e_v35 i_v35 => ?_)
          refine lv_sipush (v := 258) hx hb dX5_read_68 (by decide) ?_
          refine lv_icmp_eq (tgt := 85) hx hb dX5_read_71 (by decide) (fun c36 => ?_) (fun c36 => ?_)
          · have i37 : iv v35 258 258 := iv_eq1 c36 i_v35 kc_258
            exact J85 H locs ls hI (lv_sub hl [0, 1] rfl)
          · refine lv_aload_n hx hb dX5_read_74 rfl (lv_at hl 0 rfl) ?_
            refine h_goi hI (by decide) (va_runV (As := []) (rest := []) ⟨hx, hb, hml, hown, hts⟩ (h_readLine_X5 l D g σ Z hZ0 M_51 N_51 R1 a g_a) (cwV 0 hts gX5_read_X5_readLine rfl rfl rfl (by decide +kernel) ⟨Nat.le_of_ble_eq_true rfl, Nat.le_of_ble_eq_true rfl⟩) (h_preV hZ0 hK hE hI g_a (by decide) rfl) rfl rfl hl.1 rfl (lv_room (Nat.le_of_ble_eq_true rfl)) dX5_read_75 ⟨Nat.le_of_ble_eq_true rfl, Nat.le_of_ble_eq_true rfl⟩) (fun r38 M39 N40 R41 H locs q42 z_M39 hI => ?_)
            obtain ⟨rfl, i_r38⟩ := q42
            refine lv_istore_n (lv' := [(3, .int r38), (0, .ref a), (4, .int v4_51)]) hx hb dX5_read_78 rfl hl (by decide) rfl (fun ls hl => ?_)
            obtain ⟨v43, e_v43⟩ : ∃ z : Int32, z = v4_51 + Int32.ofInt 1 := ⟨_, rfl⟩
            have i_v43 : iv v43 1 1601 := by rw [e_v43]; exact iv_add i31 (ki_1) (by decide) (by decide) (by decide) (by decide)
            refine lv_iinc (v := v43) (lv' := [(4, .int v43), (3, .int r38), (0, .ref a)]) hx hb dX5_read_79 hl (k := 2) rfl e_v43.symm (by decide) rfl (fun ls hl => ?_)
            refine lv_goto (tgt := 51) hx hb dX5_read_82 (by decide) ?_
            exact ih51 M39 N40 r38 v43 H locs ls hI (lv_sub hl [2, 1, 0] rfl) ((k0_51).trans (z_M39 a 5 8 g_a rfl).symm) i_r38 (iv_w (lo' := 0) (hi' := 1601) i_v43 (by decide) (by decide)) (by have h9 := (h_inc e_v43 i31 ki_1 (by decide) (by decide)); omega)
  refine lv_istore (lv' := [(4, .int (0 : Int32)), (3, .int (1 : Int32)), (0, .ref a), (1, .ref b), (2, .int p2)]) hx hb dX5_read_49 hl (by decide) rfl (fun ls hl => ?_)
  exact J51 1602 M15 N16 (1 : Int32) (0 : Int32) H locs ls hI (lv_sub hl [2, 1, 0] rfl) ((((((((u2_wr e_M3)).trans (z_M6 a 5 8 g_a rfl).symm).trans (u2_st (a := a) (k := 8) e_M10 (u2_k (by decide))).symm).trans (u2_st (a := a) (k := 8) e_M11 (u2_k (by decide))).symm).trans (u2_st (a := a) (k := 8) e_M12 (u2_k (by decide))).symm).trans (u2_st (a := a) (k := 8) e_M13 (u2_k (by decide))).symm).trans (z_M15 a 5 8 g_a rfl).symm) (iv_w (lo' := 0) (hi' := 1) kc_1 (by decide) (by decide)) (iv_w (lo' := 0) (hi' := 1601) kc_0 (by decide) (by decide)) (by have h9 := kc_0; simp only [iv] at h9; omega)
