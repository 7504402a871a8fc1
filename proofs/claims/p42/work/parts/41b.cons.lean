abbrev e_h_emit_X9 : List (Nat × Nat) := [(9, 37), (130, 999), (131, 999)]
set_option maxHeartbeats 4000000 in
set_option maxRecDepth 100000 in
theorem h_emit_X9 (l : Launch) (D : va_G) (g : Nat → ClassId) (σ : Nat → Option Nat) (Z : State → Heap → Prop) (hZ0 : hZ σ Z) (M : hM) (N : hN) (R : hR) (y : Nat) (g_y : σ y = some 9) (p1 : Int32) (p2 : Int32) (hc9 : CB9 M y) : Met l yX9_emit wsX9_emit ({ frames := 0, cells := 0, slots := 0, locals := 0 }) (va_Pc [.ref y, .int p1, .int p2] (hPre D g σ Z M N R)) (hQv D g σ e_h_emit_X9 M (fun (M1 : hM) (N1 : hN) (R1 : hR) => N = N1 ∧ R = R1 ∧ (EM M M1 R y p1) ∧ (PC M M1 R y))) 0 0 (hA σ) := by
  refine h_head (cc := cX9_emit) (maxL := 3) (ret := none) (by decide) rfl (Nat.le_of_ble_eq_true rfl) e_h_emit_X9 ?_
  intro p e s m below meth c ls Q ar hQ hx hb hr hlocks hml hown hts hK hE H locs hI hl
  have hown : s.vm.findClass RX9 = some m.cls := hown
  have hl : lv_has ls 3 [(0, .ref y), (1, .int p1), (2, .int p2)] := hl
  have m36 : iv (M y 36) 0 1 := (hI.iv1 (a := y) (j := 36) (lo := 0) (hi := 1) (n := 67) g_y rfl (by decide) rfl)
  refine lv_aload_n hx hb dX9_emit_0 rfl (lv_at hl 0 rfl) ?_
  refine h_getr hx hb hts iX9_emit_X9 hown hK hI g_y (by decide) rfl rfl 30 (by decide) rfl 130 rfl (hts (.fieldLink RX9 79 "CatLeasesModel" "code" "[I") (List.mem_of_getElem? (i := 1) rfl)) (fun _ h9 => h9) dX9_emit_1 (fun a1 e_a1 g_a1 => ?_)
  refine lv_aload_n hx hb dX9_emit_4 rfl (lv_at hl 0 rfl) ?_
  refine h_geti (lo := 0) (hi := 1120) hx hb hts iX9_emit_X9 hown hK hI g_y (by decide) rfl rfl 37 (by decide) rfl rfl (hts (.fieldLink RX9 262 "CatLeasesModel" "codes" "I") (List.mem_of_getElem? (i := 2) rfl)) (fun _ h9 => h9) dX9_emit_5 (fun v2 e_v2 i_v2 => ?_)
  have ic9 : iv v2 0 1119 := by have h9 := hc9; unfold CB9 at h9; rw [← e_v2] at h9; have h8 := (hI.iv1 (a := y) (j := 36) (lo := 0) (hi := 1) (n := 67) g_y rfl (by decide) rfl); simp only [iv] at h8 ⊢; omega
  refine lv_iload_n hx hb dX9_emit_8 rfl (lv_at hl 1 rfl) ?_
  refine h_iast (j := v2.toNatClampNeg) hx hb hK hI g_a1 (by decide) rfl (iv_in (n := 1120) ic9 (by decide) (by decide)) rfl (iv_any _) rfl dX9_emit_9 (fun M3 H locs e_M3 hI => ?_)
  refine lv_aload_n hx hb dX9_emit_10 rfl (lv_at hl 0 rfl) ?_
  refine h_getr hx hb hts iX9_emit_X9 hown hK hI g_y (by decide) rfl rfl 31 (by decide) rfl 131 rfl (hts (.fieldLink RX9 82 "CatLeasesModel" "codeNumber" "[I") (List.mem_of_getElem? (i := 3) rfl)) (fun _ h9 => h9) dX9_emit_11 (fun a4 e_a4 g_a4 => ?_)
  refine lv_aload_n hx hb dX9_emit_14 rfl (lv_at hl 0 rfl) ?_
  refine h_geti (lo := 0) (hi := 1120) hx hb hts iX9_emit_X9 hown hK hI g_y (by decide) rfl rfl 37 (by decide) rfl rfl (hts (.fieldLink RX9 262 "CatLeasesModel" "codes" "I") (List.mem_of_getElem? (i := 2) rfl)) (fun _ h9 => h9) dX9_emit_15 (fun v5 e_v5 i_v5 => ?_)
  have q6 : v2 = v5 := ((e_v2).trans (u2_st (a := y) (k := 37) e_M3 (u2_a (so_ne g_y g_a1 (by decide)))).symm).trans e_v5.symm
  subst q6
  refine lv_iload_n hx hb dX9_emit_18 rfl (lv_at hl 2 rfl) ?_
  refine h_iast (j := v2.toNatClampNeg) hx hb hK hI g_a4 (by decide) rfl (iv_in (n := 1120) ic9 (by decide) (by decide)) rfl (iv_any _) rfl dX9_emit_19 (fun M7 H locs e_M7 hI => ?_)
  refine lv_aload_n hx hb dX9_emit_20 rfl (lv_at hl 0 rfl) ?_
  refine lv_dup hx hb dX9_emit_21 rfl ?_
  refine h_geti (lo := 0) (hi := 1120) hx hb hts iX9_emit_X9 hown hK hI g_y (by decide) rfl rfl 37 (by decide) rfl rfl (hts (.fieldLink RX9 262 "CatLeasesModel" "codes" "I") (List.mem_of_getElem? (i := 2) rfl)) (fun _ h9 => h9) dX9_emit_22 (fun v8 e_v8 i_v8 => ?_)
  have q9 : v2 = v8 := (((e_v2).trans (u2_st (a := y) (k := 37) e_M3 (u2_a (so_ne g_y g_a1 (by decide)))).symm).trans (u2_st (a := y) (k := 37) e_M7 (u2_a (so_ne g_y g_a4 (by decide)))).symm).trans e_v8.symm
  subst q9
  refine lv_iconst (v := 1) hx hb dX9_emit_25 (by decide) ?_
  refine lv_iadd hx hb dX9_emit_26 ?_
  refine h_nm (lo := 1) (hi := 1120) (iv_add ic9 kc_1 (by decide) (by decide) (by decide) (by decide)) (fun v10 e_v10 i_v10 => ?_)
  refine h_puti hx hb hts iX9_emit_X9 tyX9 tyX9_ok nmX9 hown hK hI g_y (by decide) rfl rfl 37 (by decide) rfl (hts (.fieldLink RX9 262 "CatLeasesModel" "codes" "I") (List.mem_of_getElem? (i := 2) rfl)) (fun _ h9 => h9) rfl .int (by decide +kernel) rfl rfl (iv_w (lo' := 0) (hi' := 1120) i_v10 (by decide) (by decide)) rfl dX9_emit_27 (fun M11 H locs e_M11 hI => ?_)
  have em9 := EM_of g_y hI.2.1 e_M3 e_M7 e_M11 e_a1 e_a4 e_v2 rfl (h_inc e_v10 ic9 kc_1 (by decide) (by decide)) hc9 m36
  exact h_vret hQ hx hb hr hlocks hK hI ⟨rfl, rfl, em9.1, em9.2⟩ dX9_emit_30
abbrev e_h_pushE_X9 : List (Nat × Nat) := [(9, 39), (132, 999), (133, 999)]
set_option maxHeartbeats 4000000 in
set_option maxRecDepth 100000 in
theorem h_pushE_X9 (l : Launch) (D : va_G) (g : Nat → ClassId) (σ : Nat → Option Nat) (Z : State → Heap → Prop) (hZ0 : hZ σ Z) (M : hM) (N : hN) (R : hR) (y : Nat) (g_y : σ y = some 9) (p1 : Int32) (p2 : Int32) (hp9 : iv (M y 39) 0 89) : Met l yX9_pushE wsX9_pushE ({ frames := 0, cells := 0, slots := 0, locals := 0 }) (va_Pc [.ref y, .int p1, .int p2] (hPre D g σ Z M N R)) (hQv D g σ e_h_pushE_X9 M (fun (M1 : hM) (N1 : hN) (R1 : hR) => N = N1 ∧ R = R1 ∧ (PE M M1 R y p1 p2))) 0 0 (hA σ) := by
  refine h_head (cc := cX9_pushE) (maxL := 3) (ret := none) (by decide) rfl (Nat.le_of_ble_eq_true rfl) e_h_pushE_X9 ?_
  intro p e s m below meth c ls Q ar hQ hx hb hr hlocks hml hown hts hK hE H locs hI hl
  have hown : s.vm.findClass RX9 = some m.cls := hown
  have hl : lv_has ls 3 [(0, .ref y), (1, .int p1), (2, .int p2)] := hl
  refine lv_aload_n hx hb dX9_pushE_0 rfl (lv_at hl 0 rfl) ?_
  refine h_getr hx hb hts iX9_pushE_X9 hown hK hI g_y (by decide) rfl rfl 32 (by decide) rfl 132 rfl (hts (.fieldLink RX9 85 "CatLeasesModel" "eWhat" "[I") (List.mem_of_getElem? (i := 1) rfl)) (fun _ h9 => h9) dX9_pushE_1 (fun a1 e_a1 g_a1 => ?_)
  refine lv_aload_n hx hb dX9_pushE_4 rfl (lv_at hl 0 rfl) ?_
  refine h_geti (lo := 0) (hi := 90) hx hb hts iX9_pushE_X9 hown hK hI g_y (by decide) rfl rfl 39 (by decide) rfl rfl (hts (.fieldLink RX9 327 "CatLeasesModel" "piled" "I") (List.mem_of_getElem? (i := 2) rfl)) (fun _ h9 => h9) dX9_pushE_5 (fun v2 e_v2 i_v2 => ?_)
  have ic9 : iv v2 0 89 := by rw [e_v2]; exact hp9
  refine lv_iload_n hx hb dX9_pushE_8 rfl (lv_at hl 1 rfl) ?_
  refine h_iast (j := v2.toNatClampNeg) hx hb hK hI g_a1 (by decide) rfl (iv_in (n := 90) ic9 (by decide) (by decide)) rfl (iv_any _) rfl dX9_pushE_9 (fun M3 H locs e_M3 hI => ?_)
  refine lv_aload_n hx hb dX9_pushE_10 rfl (lv_at hl 0 rfl) ?_
  refine h_getr hx hb hts iX9_pushE_X9 hown hK hI g_y (by decide) rfl rfl 33 (by decide) rfl 133 rfl (hts (.fieldLink RX9 88 "CatLeasesModel" "eSign" "[I") (List.mem_of_getElem? (i := 3) rfl)) (fun _ h9 => h9) dX9_pushE_11 (fun a4 e_a4 g_a4 => ?_)
  refine lv_aload_n hx hb dX9_pushE_14 rfl (lv_at hl 0 rfl) ?_
  refine h_geti (lo := 0) (hi := 90) hx hb hts iX9_pushE_X9 hown hK hI g_y (by decide) rfl rfl 39 (by decide) rfl rfl (hts (.fieldLink RX9 327 "CatLeasesModel" "piled" "I") (List.mem_of_getElem? (i := 2) rfl)) (fun _ h9 => h9) dX9_pushE_15 (fun v5 e_v5 i_v5 => ?_)
  have q6 : v2 = v5 := ((e_v2).trans (u2_st (a := y) (k := 39) e_M3 (u2_a (so_ne g_y g_a1 (by decide)))).symm).trans e_v5.symm
  subst q6
  refine lv_iload_n hx hb dX9_pushE_18 rfl (lv_at hl 2 rfl) ?_
  refine h_iast (j := v2.toNatClampNeg) hx hb hK hI g_a4 (by decide) rfl (iv_in (n := 90) ic9 (by decide) (by decide)) rfl (iv_any _) rfl dX9_pushE_19 (fun M7 H locs e_M7 hI => ?_)
  refine lv_aload_n hx hb dX9_pushE_20 rfl (lv_at hl 0 rfl) ?_
  refine lv_dup hx hb dX9_pushE_21 rfl ?_
  refine h_geti (lo := 0) (hi := 90) hx hb hts iX9_pushE_X9 hown hK hI g_y (by decide) rfl rfl 39 (by decide) rfl rfl (hts (.fieldLink RX9 327 "CatLeasesModel" "piled" "I") (List.mem_of_getElem? (i := 2) rfl)) (fun _ h9 => h9) dX9_pushE_22 (fun v8 e_v8 i_v8 => ?_)
  have q9 : v2 = v8 := (((e_v2).trans (u2_st (a := y) (k := 39) e_M3 (u2_a (so_ne g_y g_a1 (by decide)))).symm).trans (u2_st (a := y) (k := 39) e_M7 (u2_a (so_ne g_y g_a4 (by decide)))).symm).trans e_v8.symm
  subst q9
  refine lv_iconst (v := 1) hx hb dX9_pushE_25 (by decide) ?_
  refine lv_iadd hx hb dX9_pushE_26 ?_
  refine h_nm (lo := 1) (hi := 90) (iv_add ic9 kc_1 (by decide) (by decide) (by decide) (by decide)) (fun v10 e_v10 i_v10 => ?_)
  refine h_puti hx hb hts iX9_pushE_X9 tyX9 tyX9_ok nmX9 hown hK hI g_y (by decide) rfl rfl 39 (by decide) rfl (hts (.fieldLink RX9 327 "CatLeasesModel" "piled" "I") (List.mem_of_getElem? (i := 2) rfl)) (fun _ h9 => h9) rfl .int (by decide +kernel) rfl rfl (iv_w (lo' := 0) (hi' := 90) i_v10 (by decide) (by decide)) rfl dX9_pushE_27 (fun M11 H locs e_M11 hI => ?_)
  exact h_vret hQ hx hb hr hlocks hK hI ⟨rfl, rfl, (PE_of g_y hI.2.1 e_M3 e_M7 e_M11 e_a1 e_a4 e_v2 rfl (h_inc e_v10 ic9 kc_1 (by decide) (by decide)))⟩ dX9_pushE_30
abbrev e_h_wordHere_X9 : List (Nat × Nat) := []
set_option maxHeartbeats 4000000 in
set_option maxRecDepth 100000 in
theorem h_wordHere_X9 (l : Launch) (D : va_G) (g : Nat → ClassId) (σ : Nat → Option Nat) (Z : State → Heap → Prop) (hZ0 : hZ σ Z) (M : hM) (N : hN) (R : hR) (y : Nat) (g_y : σ y = some 9) : Met l yX9_wordHere wsX9_wordHere ({ frames := 1, cells := 0, slots := 0, locals := 22 }) (va_Pc [.ref y] (hPre D g σ Z M N R)) (hQi D g σ e_h_wordHere_X9 M (fun (r : Int32) (M1 : hM) (N1 : hN) (R1 : hR) => M = M1 ∧ N = N1 ∧ R = R1 ∧ iv r 0 119 ∧ (¬ r = 0 → iv r 97 122 ∧ M y 8 = 3))) 0 0 (hA σ) := by
  refine h_head (cc := cX9_wordHere) (maxL := 1) (ret := (some .int)) (by decide) rfl (Nat.le_of_ble_eq_true rfl) e_h_wordHere_X9 ?_
  intro p e s m below meth c ls Q ar hQ hx hb hr hlocks hml hown hts hK hE H locs hI hl
  have hown : s.vm.findClass RX9 = some m.cls := hown
  have hl : lv_has ls 1 [(0, .ref y)] := hl
  refine lv_aload_n hx hb dX9_wordHere_0 rfl (lv_at hl 0 rfl) ?_
  refine lv_ldc2 (v := 448546566771) hx hb hown (hts (.constantLong RX9 170 (448546566771)) (List.mem_of_getElem? (i := 1) rfl)) dX9_wordHere_1 ?_
  refine h_goi hI (by decide) (va_runV (As := [.long (448546566771 : Int64)]) (rest := []) ⟨hx, hb, hml, hown, hts⟩ (h_isWord_X9 l D g σ Z hZ0 M N R y g_y (448546566771 : Int64)) (cwV 1 hts gX9_wordHere_X9_isWord rfl rfl rfl (by decide +kernel) ⟨Nat.le_of_ble_eq_true rfl, Nat.le_of_ble_eq_true rfl⟩) (h_preV hZ0 hK hE hI g_y (by decide) rfl) rfl rfl hl.1 rfl (lv_room (Nat.le_of_ble_eq_true rfl)) dX9_wordHere_4 ⟨Nat.le_of_ble_eq_true rfl, Nat.le_of_ble_eq_true rfl⟩) (fun r1 M2 N3 R4 H locs q5 z_M2 hI => ?_)
  obtain ⟨rfl, rfl, rfl, i_r1, z6, z7⟩ := q5
  refine lv_if_eq (tgt := 13) hx hb dX9_wordHere_7 (by decide) (fun c8 => ?_) (fun c8 => ?_)
  · have i9 : iv r1 0 0 := iv_eq1 c8 i_r1 kc_0
    refine lv_aload_n hx hb dX9_wordHere_13 rfl (lv_at hl 0 rfl) ?_
    refine lv_ldc2 (v := 512735736947) hx hb hown (hts (.constantLong RX9 160 (512735736947)) (List.mem_of_getElem? (i := 2) rfl)) dX9_wordHere_14 ?_
    refine h_goi hI (by decide) (va_runV (As := [.long (512735736947 : Int64)]) (rest := []) ⟨hx, hb, hml, hown, hts⟩ (h_isWord_X9 l D g σ Z hZ0 M N R y g_y (512735736947 : Int64)) (cwV 1 hts gX9_wordHere_X9_isWord rfl rfl rfl (by decide +kernel) ⟨Nat.le_of_ble_eq_true rfl, Nat.le_of_ble_eq_true rfl⟩) (h_preV hZ0 hK hE hI g_y (by decide) rfl) rfl rfl hl.1 rfl (lv_room (Nat.le_of_ble_eq_true rfl)) dX9_wordHere_17 ⟨Nat.le_of_ble_eq_true rfl, Nat.le_of_ble_eq_true rfl⟩) (fun r10 M11 N12 R13 H locs q14 z_M11 hI => ?_)
    obtain ⟨rfl, rfl, rfl, i_r10, z15, z16⟩ := q14
    refine lv_if_eq (tgt := 26) hx hb dX9_wordHere_20 (by decide) (fun c17 => ?_) (fun c17 => ?_)
    · have i18 : iv r10 0 0 := iv_eq1 c17 i_r10 kc_0
      refine lv_aload_n hx hb dX9_wordHere_26 rfl (lv_at hl 0 rfl) ?_
      refine lv_ldc2 (v := 2002874989) hx hb hown (hts (.constantLong RX9 172 (2002874989)) (List.mem_of_getElem? (i := 3) rfl)) dX9_wordHere_27 ?_
      refine h_goi hI (by decide) (va_runV (As := [.long (2002874989 : Int64)]) (rest := []) ⟨hx, hb, hml, hown, hts⟩ (h_isWord_X9 l D g σ Z hZ0 M N R y g_y (2002874989 : Int64)) (cwV 1 hts gX9_wordHere_X9_isWord rfl rfl rfl (by decide +kernel) ⟨Nat.le_of_ble_eq_true rfl, Nat.le_of_ble_eq_true rfl⟩) (h_preV hZ0 hK hE hI g_y (by decide) rfl) rfl rfl hl.1 rfl (lv_room (Nat.le_of_ble_eq_true rfl)) dX9_wordHere_30 ⟨Nat.le_of_ble_eq_true rfl, Nat.le_of_ble_eq_true rfl⟩) (fun r19 M20 N21 R22 H locs q23 z_M20 hI => ?_)
      obtain ⟨rfl, rfl, rfl, i_r19, z24, z25⟩ := q23
      refine lv_if_eq (tgt := 39) hx hb dX9_wordHere_33 (by decide) (fun c26 => ?_) (fun c26 => ?_)
      · have i27 : iv r19 0 0 := iv_eq1 c26 i_r19 kc_0
        refine lv_aload_n hx hb dX9_wordHere_39 rfl (lv_at hl 0 rfl) ?_
        refine lv_ldc2 (v := 28826327576835187) hx hb hown (hts (.constantLong RX9 174 (28826327576835187)) (List.mem_of_getElem? (i := 4) rfl)) dX9_wordHere_40 ?_
        refine h_goi hI (by decide) (va_runV (As := [.long (28826327576835187 : Int64)]) (rest := []) ⟨hx, hb, hml, hown, hts⟩ (h_isWord_X9 l D g σ Z hZ0 M N R y g_y (28826327576835187 : Int64)) (cwV 1 hts gX9_wordHere_X9_isWord rfl rfl rfl (by decide +kernel) ⟨Nat.le_of_ble_eq_true rfl, Nat.le_of_ble_eq_true rfl⟩) (h_preV hZ0 hK hE hI g_y (by decide) rfl) rfl rfl hl.1 rfl (lv_room (Nat.le_of_ble_eq_true rfl)) dX9_wordHere_43 ⟨Nat.le_of_ble_eq_true rfl, Nat.le_of_ble_eq_true rfl⟩) (fun r28 M29 N30 R31 H locs q32 z_M29 hI => ?_)
        obtain ⟨rfl, rfl, rfl, i_r28, z33, z34⟩ := q32
        refine lv_if_eq (tgt := 52) hx hb dX9_wordHere_46 (by decide) (fun c35 => ?_) (fun c35 => ?_)
        · have i36 : iv r28 0 0 := iv_eq1 c35 i_r28 kc_0
          refine lv_aload_n hx hb dX9_wordHere_52 rfl (lv_at hl 0 rfl) ?_
          refine lv_ldc2 (v := 126943688746340) hx hb hown (hts (.constantLong RX9 184 (126943688746340)) (List.mem_of_getElem? (i := 5) rfl)) dX9_wordHere_53 ?_
          refine h_goi hI (by decide) (va_runV (As := [.long (126943688746340 : Int64)]) (rest := []) ⟨hx, hb, hml, hown, hts⟩ (h_isWord_X9 l D g σ Z hZ0 M N R y g_y (126943688746340 : Int64)) (cwV 1 hts gX9_wordHere_X9_isWord rfl rfl rfl (by decide +kernel) ⟨Nat.le_of_ble_eq_true rfl, Nat.le_of_ble_eq_true rfl⟩) (h_preV hZ0 hK hE hI g_y (by decide) rfl) rfl rfl hl.1 rfl (lv_room (Nat.le_of_ble_eq_true rfl)) dX9_wordHere_56 ⟨Nat.le_of_ble_eq_true rfl, Nat.le_of_ble_eq_true rfl⟩) (fun r37 M38 N39 R40 H locs q41 z_M38 hI => ?_)
          obtain ⟨rfl, rfl, rfl, i_r37, z42, z43⟩ := q41
          refine lv_if_eq (tgt := 65) hx hb dX9_wordHere_59 (by decide) (fun c44 => ?_) (fun c44 => ?_)
          · have i45 : iv r37 0 0 := iv_eq1 c44 i_r37 kc_0
            refine lv_aload_n hx hb dX9_wordHere_65 rfl (lv_at hl 0 rfl) ?_
            refine lv_ldc2 (v := 491495845235) hx hb hown (hts (.constantLong RX9 186 (491495845235)) (List.mem_of_getElem? (i := 6) rfl)) dX9_wordHere_66 ?_
            refine h_goi hI (by decide) (va_runV (As := [.long (491495845235 : Int64)]) (rest := []) ⟨hx, hb, hml, hown, hts⟩ (h_isWord_X9 l D g σ Z hZ0 M N R y g_y (491495845235 : Int64)) (cwV 1 hts gX9_wordHere_X9_isWord rfl rfl rfl (by decide +kernel) ⟨Nat.le_of_ble_eq_true rfl, Nat.le_of_ble_eq_true rfl⟩) (h_preV hZ0 hK hE hI g_y (by decide) rfl) rfl rfl hl.1 rfl (lv_room (Nat.le_of_ble_eq_true rfl)) dX9_wordHere_69 ⟨Nat.le_of_ble_eq_true rfl, Nat.le_of_ble_eq_true rfl⟩) (fun r46 M47 N48 R49 H locs q50 z_M47 hI => ?_)
            obtain ⟨rfl, rfl, rfl, i_r46, z51, z52⟩ := q50
            refine lv_if_eq (tgt := 78) hx hb dX9_wordHere_72 (by decide) (fun c53 => ?_) (fun c53 => ?_)
            · have i54 : iv r46 0 0 := iv_eq1 c53 i_r46 kc_0
              refine lv_aload_n hx hb dX9_wordHere_78 rfl (lv_at hl 0 rfl) ?_
              refine lv_ldc2 (v := 31935733760812402) hx hb hown (hts (.constantLong RX9 188 (31935733760812402)) (List.mem_of_getElem? (i := 7) rfl)) dX9_wordHere_79 ?_
              refine h_goi hI (by decide) (va_runV (As := [.long (31935733760812402 : Int64)]) (rest := []) ⟨hx, hb, hml, hown, hts⟩ (h_isWord_X9 l D g σ Z hZ0 M N R y g_y (31935733760812402 : Int64)) (cwV 1 hts gX9_wordHere_X9_isWord rfl rfl rfl (by decide +kernel) ⟨Nat.le_of_ble_eq_true rfl, Nat.le_of_ble_eq_true rfl⟩) (h_preV hZ0 hK hE hI g_y (by decide) rfl) rfl rfl hl.1 rfl (lv_room (Nat.le_of_ble_eq_true rfl)) dX9_wordHere_82 ⟨Nat.le_of_ble_eq_true rfl, Nat.le_of_ble_eq_true rfl⟩) (fun r55 M56 N57 R58 H locs q59 z_M56 hI => ?_)
              obtain ⟨rfl, rfl, rfl, i_r55, z60, z61⟩ := q59
              refine lv_if_eq (tgt := 93) hx hb dX9_wordHere_85 (by decide) (fun c62 => ?_) (fun c62 => ?_)
              · have i63 : iv r55 0 0 := iv_eq1 c62 i_r55 kc_0
                refine lv_iconst (v := 0) hx hb dX9_wordHere_93 (by decide) ?_
                exact h_iret hQ hx hb hr hlocks rfl hK hI ⟨rfl, rfl, rfl, (iv_w (lo' := 0) (hi' := 119) kc_0 (by decide) (by decide)), (fun h9 => absurd rfl h9)⟩ dX9_wordHere_94
              · obtain ⟨v64, e_v64⟩ : ∃ z : Int32, z = M y 8 := ⟨_, rfl⟩
                have i65 : iv v64 3 3 := by rw [e_v64, (z60 c62).1]; exact kc_3
                have i66 : iv r55 1 1 := iv_neL c62 i_r55 (by decide) (by decide)
                refine lv_bipush (v := 113) hx hb dX9_wordHere_88 (by decide) ?_
                refine lv_goto (tgt := 94) hx hb dX9_wordHere_90 (by decide) ?_
                exact h_iret hQ hx hb hr hlocks rfl hK hI ⟨rfl, rfl, rfl, (iv_w (lo' := 0) (hi' := 119) kc_113 (by decide) (by decide)), (fun _ => ⟨iv_w kc_113 (by decide) (by decide), (z60 c62).1⟩)⟩ dX9_wordHere_94
            · obtain ⟨v67, e_v67⟩ : ∃ z : Int32, z = M y 8 := ⟨_, rfl⟩
              have i68 : iv v67 3 3 := by rw [e_v67, (z51 c53).1]; exact kc_3
              have i69 : iv r46 1 1 := iv_neL c53 i_r46 (by decide) (by decide)
              refine lv_bipush (v := 114) hx hb dX9_wordHere_75 (by decide) ?_
              exact h_iret hQ hx hb hr hlocks rfl hK hI ⟨rfl, rfl, rfl, (iv_w (lo' := 0) (hi' := 119) kc_114 (by decide) (by decide)), (fun _ => ⟨iv_w kc_114 (by decide) (by decide), (z51 c53).1⟩)⟩ dX9_wordHere_77
          · obtain ⟨v70, e_v70⟩ : ∃ z : Int32, z = M y 8 := ⟨_, rfl⟩
            have i71 : iv v70 3 3 := by rw [e_v70, (z42 c44).1]; exact kc_3
            have i72 : iv r37 1 1 := iv_neL c44 i_r37 (by decide) (by decide)
            refine lv_bipush (v := 115) hx hb dX9_wordHere_62 (by decide) ?_
            exact h_iret hQ hx hb hr hlocks rfl hK hI ⟨rfl, rfl, rfl, (iv_w (lo' := 0) (hi' := 119) kc_115 (by decide) (by decide)), (fun _ => ⟨iv_w kc_115 (by decide) (by decide), (z42 c44).1⟩)⟩ dX9_wordHere_64
        · obtain ⟨v73, e_v73⟩ : ∃ z : Int32, z = M y 8 := ⟨_, rfl⟩
          have i74 : iv v73 3 3 := by rw [e_v73, (z33 c35).1]; exact kc_3
          have i75 : iv r28 1 1 := iv_neL c35 i_r28 (by decide) (by decide)
          refine lv_bipush (v := 102) hx hb dX9_wordHere_49 (by decide) ?_
          exact h_iret hQ hx hb hr hlocks rfl hK hI ⟨rfl, rfl, rfl, (iv_w (lo' := 0) (hi' := 119) kc_102 (by decide) (by decide)), (fun _ => ⟨iv_w kc_102 (by decide) (by decide), (z33 c35).1⟩)⟩ dX9_wordHere_51
      · obtain ⟨v76, e_v76⟩ : ∃ z : Int32, z = M y 8 := ⟨_, rfl⟩
        have i77 : iv v76 3 3 := by rw [e_v76, (z24 c26).1]; exact kc_3
        have i78 : iv r19 1 1 := iv_neL c26 i_r19 (by decide) (by decide)
        refine lv_bipush (v := 109) hx hb dX9_wordHere_36 (by decide) ?_
        exact h_iret hQ hx hb hr hlocks rfl hK hI ⟨rfl, rfl, rfl, (iv_w (lo' := 0) (hi' := 119) kc_109 (by decide) (by decide)), (fun _ => ⟨iv_w kc_109 (by decide) (by decide), (z24 c26).1⟩)⟩ dX9_wordHere_38
    · obtain ⟨v79, e_v79⟩ : ∃ z : Int32, z = M y 8 := ⟨_, rfl⟩
      have i80 : iv v79 3 3 := by rw [e_v79, (z15 c17).1]; exact kc_3
      have i81 : iv r10 1 1 := iv_neL c17 i_r10 (by decide) (by decide)
      refine lv_bipush (v := 119) hx hb dX9_wordHere_23 (by decide) ?_
      exact h_iret hQ hx hb hr hlocks rfl hK hI ⟨rfl, rfl, rfl, (iv_w (lo' := 0) (hi' := 119) kc_119 (by decide) (by decide)), (fun _ => ⟨iv_w kc_119 (by decide) (by decide), (z15 c17).1⟩)⟩ dX9_wordHere_25
  · obtain ⟨v82, e_v82⟩ : ∃ z : Int32, z = M y 8 := ⟨_, rfl⟩
    have i83 : iv v82 3 3 := by rw [e_v82, (z6 c8).1]; exact kc_3
    have i84 : iv r1 1 1 := iv_neL c8 i_r1 (by decide) (by decide)
    refine lv_bipush (v := 104) hx hb dX9_wordHere_10 (by decide) ?_
    exact h_iret hQ hx hb hr hlocks rfl hK hI ⟨rfl, rfl, rfl, (iv_w (lo' := 0) (hi' := 119) kc_104 (by decide) (by decide)), (fun _ => ⟨iv_w kc_104 (by decide) (by decide), (z6 c8).1⟩)⟩ dX9_wordHere_12
abbrev e_h_rankHere_X9 : List (Nat × Nat) := []
set_option maxHeartbeats 4000000 in
set_option maxRecDepth 100000 in
theorem h_rankHere_X9 (l : Launch) (D : va_G) (g : Nat → ClassId) (σ : Nat → Option Nat) (Z : State → Heap → Prop) (hZ0 : hZ σ Z) (M : hM) (N : hN) (R : hR) (y : Nat) (g_y : σ y = some 9) : Met l yX9_rankHere wsX9_rankHere ({ frames := 2, cells := 0, slots := 0, locals := 42 }) (va_Pc [.ref y] (hPre D g σ Z M N R)) (hQi D g σ e_h_rankHere_X9 M (fun (r : Int32) (M1 : hM) (N1 : hN) (R1 : hR) => M = M1 ∧ N = N1 ∧ R = R1 ∧ iv r 0 6 ∧ (RK M R y r))) 0 0 (hA σ) := by
  refine h_head (cc := cX9_rankHere) (maxL := 1) (ret := (some .int)) (by decide) rfl (Nat.le_of_ble_eq_true rfl) e_h_rankHere_X9 ?_
  intro p e s m below meth c ls Q ar hQ hx hb hr hlocks hml hown hts hK hE H locs hI hl
  have hown : s.vm.findClass RX9 = some m.cls := hown
  have hl : lv_has ls 1 [(0, .ref y)] := hl
  refine lv_aload_n hx hb dX9_rankHere_0 rfl (lv_at hl 0 rfl) ?_
  refine lv_ldc2 (v := 6385252) hx hb hown (hts (.constantLong RX9 192 (6385252)) (List.mem_of_getElem? (i := 1) rfl)) dX9_rankHere_1 ?_
  refine h_goi hI (by decide) (va_runV (As := [.long (6385252 : Int64)]) (rest := []) ⟨hx, hb, hml, hown, hts⟩ (h_isWord_X9 l D g σ Z hZ0 M N R y g_y (6385252 : Int64)) (cwV 1 hts gX9_rankHere_X9_isWord rfl rfl rfl (by decide +kernel) ⟨Nat.le_of_ble_eq_true rfl, Nat.le_of_ble_eq_true rfl⟩) (h_preV hZ0 hK hE hI g_y (by decide) rfl) rfl rfl hl.1 rfl (lv_room (Nat.le_of_ble_eq_true rfl)) dX9_rankHere_4 ⟨Nat.le_of_ble_eq_true rfl, Nat.le_of_ble_eq_true rfl⟩) (fun r1 M2 N3 R4 H locs q5 z_M2 hI => ?_)
  obtain ⟨rfl, rfl, rfl, i_r1, z6, z7⟩ := q5
  refine lv_if_eq (tgt := 12) hx hb dX9_rankHere_7 (by decide) (fun c8 => ?_) (fun c8 => ?_)
  · have i9 : iv r1 0 0 := iv_eq1 c8 i_r1 kc_0
    refine lv_aload_n hx hb dX9_rankHere_12 rfl (lv_at hl 0 rfl) ?_
    refine lv_ldc2 (v := 28530) hx hb hown (hts (.constantLong RX9 190 (28530)) (List.mem_of_getElem? (i := 2) rfl)) dX9_rankHere_13 ?_
    refine h_goi hI (by decide) (va_runV (As := [.long (28530 : Int64)]) (rest := []) ⟨hx, hb, hml, hown, hts⟩ (h_isWord_X9 l D g σ Z hZ0 M N R y g_y (28530 : Int64)) (cwV 1 hts gX9_rankHere_X9_isWord rfl rfl rfl (by decide +kernel) ⟨Nat.le_of_ble_eq_true rfl, Nat.le_of_ble_eq_true rfl⟩) (h_preV hZ0 hK hE hI g_y (by decide) rfl) rfl rfl hl.1 rfl (lv_room (Nat.le_of_ble_eq_true rfl)) dX9_rankHere_16 ⟨Nat.le_of_ble_eq_true rfl, Nat.le_of_ble_eq_true rfl⟩) (fun r10 M11 N12 R13 H locs q14 z_M11 hI => ?_)
    obtain ⟨rfl, rfl, rfl, i_r10, z15, z16⟩ := q14
    refine lv_if_eq (tgt := 24) hx hb dX9_rankHere_19 (by decide) (fun c17 => ?_) (fun c17 => ?_)
    · have i18 : iv r10 0 0 := iv_eq1 c17 i_r10 kc_0
      refine lv_aload_n hx hb dX9_rankHere_24 rfl (lv_at hl 0 rfl) ?_
      refine lv_bipush (v := 60) hx hb dX9_rankHere_25 (by decide) ?_
      refine h_goi hI (by decide) (va_runV (As := [.int (60 : Int32)]) (rest := []) ⟨hx, hb, hml, hown, hts⟩ (h_isSignHere_X9 l D g σ Z hZ0 M N R y g_y (60 : Int32)) (cwV 1 hts gX9_rankHere_X9_isSignHere rfl rfl rfl (by decide +kernel) ⟨Nat.le_of_ble_eq_true rfl, Nat.le_of_ble_eq_true rfl⟩) (h_preV hZ0 hK hE hI g_y (by decide) rfl) rfl rfl hl.1 rfl (lv_room (Nat.le_of_ble_eq_true rfl)) dX9_rankHere_27 ⟨Nat.le_of_ble_eq_true rfl, Nat.le_of_ble_eq_true rfl⟩) (fun r19 M20 N21 R22 H locs q23 z_M20 hI => ?_)
      obtain ⟨rfl, rfl, rfl, i_r19, z24, z25⟩ := q23
      refine lv_if_ne (tgt := 51) hx hb dX9_rankHere_30 (by decide) (fun c26 => ?_) (fun c26 => ?_)
      · obtain ⟨v27, e_v27⟩ : ∃ z : Int32, z = M y 8 := ⟨_, rfl⟩
        have i28 : iv v27 5 5 := by rw [e_v27, (z25 c26).1]; exact kc_5
        have i29 : iv r19 1 1 := iv_neL c26 i_r19 (by decide) (by decide)
        refine lv_iconst (v := 4) hx hb dX9_rankHere_51 (by decide) ?_
        exact h_iret hQ hx hb hr hlocks rfl hK hI ⟨rfl, rfl, rfl, (iv_w (lo' := 0) (hi' := 6) kc_4 (by decide) (by decide)), ⟨by decide, fun _ => Or.inr (z25 c26).1, fun _ => by rw [(z25 c26).2]; exact ⟨by decide, by decide⟩⟩⟩ dX9_rankHere_52
      · have i30 : iv r19 0 0 := iv_eq1 c26 i_r19 kc_0
        refine lv_aload_n hx hb dX9_rankHere_33 rfl (lv_at hl 0 rfl) ?_
        refine lv_bipush (v := 62) hx hb dX9_rankHere_34 (by decide) ?_
        refine h_goi hI (by decide) (va_runV (As := [.int (62 : Int32)]) (rest := []) ⟨hx, hb, hml, hown, hts⟩ (h_isSignHere_X9 l D g σ Z hZ0 M N R y g_y (62 : Int32)) (cwV 1 hts gX9_rankHere_X9_isSignHere rfl rfl rfl (by decide +kernel) ⟨Nat.le_of_ble_eq_true rfl, Nat.le_of_ble_eq_true rfl⟩) (h_preV hZ0 hK hE hI g_y (by decide) rfl) rfl rfl hl.1 rfl (lv_room (Nat.le_of_ble_eq_true rfl)) dX9_rankHere_36 ⟨Nat.le_of_ble_eq_true rfl, Nat.le_of_ble_eq_true rfl⟩) (fun r31 M32 N33 R34 H locs q35 z_M32 hI => ?_)
        obtain ⟨rfl, rfl, rfl, i_r31, z36, z37⟩ := q35
        refine lv_if_ne (tgt := 51) hx hb dX9_rankHere_39 (by decide) (fun c38 => ?_) (fun c38 => ?_)
        · obtain ⟨v39, e_v39⟩ : ∃ z : Int32, z = M y 8 := ⟨_, rfl⟩
          have i40 : iv v39 5 5 := by rw [e_v39, (z37 c38).1]; exact kc_5
          have i41 : iv r31 1 1 := iv_neL c38 i_r31 (by decide) (by decide)
          refine lv_iconst (v := 4) hx hb dX9_rankHere_51 (by decide) ?_
          exact h_iret hQ hx hb hr hlocks rfl hK hI ⟨rfl, rfl, rfl, (iv_w (lo' := 0) (hi' := 6) kc_4 (by decide) (by decide)), ⟨by decide, fun _ => Or.inr (z37 c38).1, fun _ => by rw [(z37 c38).2]; exact ⟨by decide, by decide⟩⟩⟩ dX9_rankHere_52
        · have i42 : iv r31 0 0 := iv_eq1 c38 i_r31 kc_0
          refine lv_aload_n hx hb dX9_rankHere_42 rfl (lv_at hl 0 rfl) ?_
          refine lv_bipush (v := 61) hx hb dX9_rankHere_43 (by decide) ?_
          refine h_goi hI (by decide) (va_runV (As := [.int (61 : Int32)]) (rest := []) ⟨hx, hb, hml, hown, hts⟩ (h_isSignHere_X9 l D g σ Z hZ0 M N R y g_y (61 : Int32)) (cwV 1 hts gX9_rankHere_X9_isSignHere rfl rfl rfl (by decide +kernel) ⟨Nat.le_of_ble_eq_true rfl, Nat.le_of_ble_eq_true rfl⟩) (h_preV hZ0 hK hE hI g_y (by decide) rfl) rfl rfl hl.1 rfl (lv_room (Nat.le_of_ble_eq_true rfl)) dX9_rankHere_45 ⟨Nat.le_of_ble_eq_true rfl, Nat.le_of_ble_eq_true rfl⟩) (fun r43 M44 N45 R46 H locs q47 z_M44 hI => ?_)
          obtain ⟨rfl, rfl, rfl, i_r43, z48, z49⟩ := q47
          refine lv_if_eq (tgt := 53) hx hb dX9_rankHere_48 (by decide) (fun c50 => ?_) (fun c50 => ?_)
          · have i51 : iv r43 0 0 := iv_eq1 c50 i_r43 kc_0
            refine lv_aload_n hx hb dX9_rankHere_53 rfl (lv_at hl 0 rfl) ?_
            refine lv_bipush (v := 43) hx hb dX9_rankHere_54 (by decide) ?_
            refine h_goi hI (by decide) (va_runV (As := [.int (43 : Int32)]) (rest := []) ⟨hx, hb, hml, hown, hts⟩ (h_isSignHere_X9 l D g σ Z hZ0 M N R y g_y (43 : Int32)) (cwV 1 hts gX9_rankHere_X9_isSignHere rfl rfl rfl (by decide +kernel) ⟨Nat.le_of_ble_eq_true rfl, Nat.le_of_ble_eq_true rfl⟩) (h_preV hZ0 hK hE hI g_y (by decide) rfl) rfl rfl hl.1 rfl (lv_room (Nat.le_of_ble_eq_true rfl)) dX9_rankHere_56 ⟨Nat.le_of_ble_eq_true rfl, Nat.le_of_ble_eq_true rfl⟩) (fun r52 M53 N54 R55 H locs q56 z_M53 hI => ?_)
            obtain ⟨rfl, rfl, rfl, i_r52, z57, z58⟩ := q56
            refine lv_if_ne (tgt := 71) hx hb dX9_rankHere_59 (by decide) (fun c59 => ?_) (fun c59 => ?_)
            · obtain ⟨v60, e_v60⟩ : ∃ z : Int32, z = M y 8 := ⟨_, rfl⟩
              have i61 : iv v60 5 5 := by rw [e_v60, (z58 c59).1]; exact kc_5
              have i62 : iv r52 1 1 := iv_neL c59 i_r52 (by decide) (by decide)
              refine lv_iconst (v := 5) hx hb dX9_rankHere_71 (by decide) ?_
              exact h_iret hQ hx hb hr hlocks rfl hK hI ⟨rfl, rfl, rfl, (iv_w (lo' := 0) (hi' := 6) kc_5 (by decide) (by decide)), ⟨by decide, fun _ => Or.inr (z58 c59).1, fun _ => by rw [(z58 c59).2]; exact ⟨by decide, by decide⟩⟩⟩ dX9_rankHere_72
            · have i63 : iv r52 0 0 := iv_eq1 c59 i_r52 kc_0
              refine lv_aload_n hx hb dX9_rankHere_62 rfl (lv_at hl 0 rfl) ?_
              refine lv_bipush (v := 45) hx hb dX9_rankHere_63 (by decide) ?_
              refine h_goi hI (by decide) (va_runV (As := [.int (45 : Int32)]) (rest := []) ⟨hx, hb, hml, hown, hts⟩ (h_isSignHere_X9 l D g σ Z hZ0 M N R y g_y (45 : Int32)) (cwV 1 hts gX9_rankHere_X9_isSignHere rfl rfl rfl (by decide +kernel) ⟨Nat.le_of_ble_eq_true rfl, Nat.le_of_ble_eq_true rfl⟩) (h_preV hZ0 hK hE hI g_y (by decide) rfl) rfl rfl hl.1 rfl (lv_room (Nat.le_of_ble_eq_true rfl)) dX9_rankHere_65 ⟨Nat.le_of_ble_eq_true rfl, Nat.le_of_ble_eq_true rfl⟩) (fun r64 M65 N66 R67 H locs q68 z_M65 hI => ?_)
              obtain ⟨rfl, rfl, rfl, i_r64, z69, z70⟩ := q68
              refine lv_if_eq (tgt := 73) hx hb dX9_rankHere_68 (by decide) (fun c71 => ?_) (fun c71 => ?_)
              · have i72 : iv r64 0 0 := iv_eq1 c71 i_r64 kc_0
                refine lv_aload_n hx hb dX9_rankHere_73 rfl (lv_at hl 0 rfl) ?_
                refine lv_bipush (v := 42) hx hb dX9_rankHere_74 (by decide) ?_
                refine h_goi hI (by decide) (va_runV (As := [.int (42 : Int32)]) (rest := []) ⟨hx, hb, hml, hown, hts⟩ (h_isSignHere_X9 l D g σ Z hZ0 M N R y g_y (42 : Int32)) (cwV 1 hts gX9_rankHere_X9_isSignHere rfl rfl rfl (by decide +kernel) ⟨Nat.le_of_ble_eq_true rfl, Nat.le_of_ble_eq_true rfl⟩) (h_preV hZ0 hK hE hI g_y (by decide) rfl) rfl rfl hl.1 rfl (lv_room (Nat.le_of_ble_eq_true rfl)) dX9_rankHere_76 ⟨Nat.le_of_ble_eq_true rfl, Nat.le_of_ble_eq_true rfl⟩) (fun r73 M74 N75 R76 H locs q77 z_M74 hI => ?_)
                obtain ⟨rfl, rfl, rfl, i_r73, z78, z79⟩ := q77
                refine lv_if_ne (tgt := 100) hx hb dX9_rankHere_79 (by decide) (fun c80 => ?_) (fun c80 => ?_)
                · obtain ⟨v81, e_v81⟩ : ∃ z : Int32, z = M y 8 := ⟨_, rfl⟩
                  have i82 : iv v81 5 5 := by rw [e_v81, (z79 c80).1]; exact kc_5
                  have i83 : iv r73 1 1 := iv_neL c80 i_r73 (by decide) (by decide)
                  refine lv_bipush (v := 6) hx hb dX9_rankHere_100 (by decide) ?_
                  refine lv_goto (tgt := 106) hx hb dX9_rankHere_102 (by decide) ?_
                  exact h_iret hQ hx hb hr hlocks rfl hK hI ⟨rfl, rfl, rfl, (iv_w (lo' := 0) (hi' := 6) kc_6 (by decide) (by decide)), ⟨by decide, fun _ => Or.inr (z79 c80).1, fun _ => by rw [(z79 c80).2]; exact ⟨by decide, by decide⟩⟩⟩ dX9_rankHere_106
                · have i84 : iv r73 0 0 := iv_eq1 c80 i_r73 kc_0
                  refine lv_aload_n hx hb dX9_rankHere_82 rfl (lv_at hl 0 rfl) ?_
                  refine lv_bipush (v := 47) hx hb dX9_rankHere_83 (by decide) ?_
                  refine h_goi hI (by decide) (va_runV (As := [.int (47 : Int32)]) (rest := []) ⟨hx, hb, hml, hown, hts⟩ (h_isSignHere_X9 l D g σ Z hZ0 M N R y g_y (47 : Int32)) (cwV 1 hts gX9_rankHere_X9_isSignHere rfl rfl rfl (by decide +kernel) ⟨Nat.le_of_ble_eq_true rfl, Nat.le_of_ble_eq_true rfl⟩) (h_preV hZ0 hK hE hI g_y (by decide) rfl) rfl rfl hl.1 rfl (lv_room (Nat.le_of_ble_eq_true rfl)) dX9_rankHere_85 ⟨Nat.le_of_ble_eq_true rfl, Nat.le_of_ble_eq_true rfl⟩) (fun r85 M86 N87 R88 H locs q89 z_M86 hI => ?_)
                  obtain ⟨rfl, rfl, rfl, i_r85, z90, z91⟩ := q89
                  refine lv_if_ne (tgt := 100) hx hb dX9_rankHere_88 (by decide) (fun c92 => ?_) (fun c92 => ?_)
                  · obtain ⟨v93, e_v93⟩ : ∃ z : Int32, z = M y 8 := ⟨_, rfl⟩
                    have i94 : iv v93 5 5 := by rw [e_v93, (z91 c92).1]; exact kc_5
                    have i95 : iv r85 1 1 := iv_neL c92 i_r85 (by decide) (by decide)
                    refine lv_bipush (v := 6) hx hb dX9_rankHere_100 (by decide) ?_
                    refine lv_goto (tgt := 106) hx hb dX9_rankHere_102 (by decide) ?_
                    exact h_iret hQ hx hb hr hlocks rfl hK hI ⟨rfl, rfl, rfl, (iv_w (lo' := 0) (hi' := 6) kc_6 (by decide) (by decide)), ⟨by decide, fun _ => Or.inr (z91 c92).1, fun _ => by rw [(z91 c92).2]; exact ⟨by decide, by decide⟩⟩⟩ dX9_rankHere_106
                  · have i96 : iv r85 0 0 := iv_eq1 c92 i_r85 kc_0
                    refine lv_aload_n hx hb dX9_rankHere_91 rfl (lv_at hl 0 rfl) ?_
                    refine lv_bipush (v := 37) hx hb dX9_rankHere_92 (by decide) ?_
                    refine h_goi hI (by decide) (va_runV (As := [.int (37 : Int32)]) (rest := []) ⟨hx, hb, hml, hown, hts⟩ (h_isSignHere_X9 l D g σ Z hZ0 M N R y g_y (37 : Int32)) (cwV 1 hts gX9_rankHere_X9_isSignHere rfl rfl rfl (by decide +kernel) ⟨Nat.le_of_ble_eq_true rfl, Nat.le_of_ble_eq_true rfl⟩) (h_preV hZ0 hK hE hI g_y (by decide) rfl) rfl rfl hl.1 rfl (lv_room (Nat.le_of_ble_eq_true rfl)) dX9_rankHere_94 ⟨Nat.le_of_ble_eq_true rfl, Nat.le_of_ble_eq_true rfl⟩) (fun r97 M98 N99 R100 H locs q101 z_M98 hI => ?_)
                    obtain ⟨rfl, rfl, rfl, i_r97, z102, z103⟩ := q101
                    refine lv_if_eq (tgt := 105) hx hb dX9_rankHere_97 (by decide) (fun c104 => ?_) (fun c104 => ?_)
                    · have i105 : iv r97 0 0 := iv_eq1 c104 i_r97 kc_0
                      refine lv_iconst (v := 0) hx hb dX9_rankHere_105 (by decide) ?_
                      exact h_iret hQ hx hb hr hlocks rfl hK hI ⟨rfl, rfl, rfl, (iv_w (lo' := 0) (hi' := 6) kc_0 (by decide) (by decide)), ⟨by decide, fun h9 => absurd rfl h9, fun h9 => absurd h9 (by decide)⟩⟩ dX9_rankHere_106
                    · obtain ⟨v106, e_v106⟩ : ∃ z : Int32, z = M y 8 := ⟨_, rfl⟩
                      have i107 : iv v106 5 5 := by rw [e_v106, (z103 c104).1]; exact kc_5
                      have i108 : iv r97 1 1 := iv_neL c104 i_r97 (by decide) (by decide)
                      refine lv_bipush (v := 6) hx hb dX9_rankHere_100 (by decide) ?_
                      refine lv_goto (tgt := 106) hx hb dX9_rankHere_102 (by decide) ?_
                      exact h_iret hQ hx hb hr hlocks rfl hK hI ⟨rfl, rfl, rfl, (iv_w (lo' := 0) (hi' := 6) kc_6 (by decide) (by decide)), ⟨by decide, fun _ => Or.inr (z103 c104).1, fun _ => by rw [(z103 c104).2]; exact ⟨by decide, by decide⟩⟩⟩ dX9_rankHere_106
              · obtain ⟨v109, e_v109⟩ : ∃ z : Int32, z = M y 8 := ⟨_, rfl⟩
                have i110 : iv v109 5 5 := by rw [e_v109, (z70 c71).1]; exact kc_5
                have i111 : iv r64 1 1 := iv_neL c71 i_r64 (by decide) (by decide)
                refine lv_iconst (v := 5) hx hb dX9_rankHere_71 (by decide) ?_
                exact h_iret hQ hx hb hr hlocks rfl hK hI ⟨rfl, rfl, rfl, (iv_w (lo' := 0) (hi' := 6) kc_5 (by decide) (by decide)), ⟨by decide, fun _ => Or.inr (z70 c71).1, fun _ => by rw [(z70 c71).2]; exact ⟨by decide, by decide⟩⟩⟩ dX9_rankHere_72
          · obtain ⟨v112, e_v112⟩ : ∃ z : Int32, z = M y 8 := ⟨_, rfl⟩
            have i113 : iv v112 5 5 := by rw [e_v112, (z49 c50).1]; exact kc_5
            have i114 : iv r43 1 1 := iv_neL c50 i_r43 (by decide) (by decide)
            refine lv_iconst (v := 4) hx hb dX9_rankHere_51 (by decide) ?_
            exact h_iret hQ hx hb hr hlocks rfl hK hI ⟨rfl, rfl, rfl, (iv_w (lo' := 0) (hi' := 6) kc_4 (by decide) (by decide)), ⟨by decide, fun _ => Or.inr (z49 c50).1, fun _ => by rw [(z49 c50).2]; exact ⟨by decide, by decide⟩⟩⟩ dX9_rankHere_52
    · obtain ⟨v115, e_v115⟩ : ∃ z : Int32, z = M y 8 := ⟨_, rfl⟩
      have i116 : iv v115 3 3 := by rw [e_v115, (z15 c17).1]; exact kc_3
      have i117 : iv r10 1 1 := iv_neL c17 i_r10 (by decide) (by decide)
      refine lv_iconst (v := 1) hx hb dX9_rankHere_22 (by decide) ?_
      exact h_iret hQ hx hb hr hlocks rfl hK hI ⟨rfl, rfl, rfl, (iv_w (lo' := 0) (hi' := 6) kc_1 (by decide) (by decide)), ⟨by decide, fun _ => Or.inl (z15 c17).1, fun h9 => absurd h9 (by decide)⟩⟩ dX9_rankHere_23
  · obtain ⟨v118, e_v118⟩ : ∃ z : Int32, z = M y 8 := ⟨_, rfl⟩
    have i119 : iv v118 3 3 := by rw [e_v118, (z6 c8).1]; exact kc_3
    have i120 : iv r1 1 1 := iv_neL c8 i_r1 (by decide) (by decide)
    refine lv_iconst (v := 2) hx hb dX9_rankHere_10 (by decide) ?_
    exact h_iret hQ hx hb hr hlocks rfl hK hI ⟨rfl, rfl, rfl, (iv_w (lo' := 0) (hi' := 6) kc_2 (by decide) (by decide)), ⟨by decide, fun _ => Or.inl (z6 c8).1, fun h9 => absurd h9 (by decide)⟩⟩ dX9_rankHere_11
abbrev e_h_unit_X9 : List (Nat × Nat) := [(9, 4), (9, 5), (9, 6), (9, 7), (9, 8), (9, 9), (9, 37), (9, 38), (9, 39), (9, 40), (114, 999), (130, 999), (131, 999), (132, 999), (133, 999)]
set_option maxHeartbeats 4000000 in
set_option maxRecDepth 100000 in
theorem h_unit_X9 (l : Launch) (D : va_G) (g : Nat → ClassId) (σ : Nat → Option Nat) (Z : State → Heap → Prop) (hZ0 : hZ σ Z) (M : hM) (N : hN) (R : hR) (y : Nat) (g_y : σ y = some 9) (m0_PI : PI M y) (m0_EX1 : EX1 M R y) (hg9 : M y 4 = 0) : Met l yX9_unit wsX9_unit ({ frames := 2, cells := 0, slots := 0, locals := 44 }) (va_Pc [.ref y] (hPre D g σ Z M N R)) (hQi D g σ e_h_unit_X9 M (fun (r : Int32) (M1 : hM) (N1 : hN) (R1 : hR) => R = R1 ∧ iv r 0 1 ∧ (PI M1 y) ∧ (PN M M1 y) ∧ (PC M M1 R y) ∧ (M1 y 4 = 0 → EXw M1 R y r) ∧ (gm M1 y < gm M y))) 0 0 (hA σ) := by
  refine h_head (cc := cX9_unit) (maxL := 7) (ret := (some .boolean)) (by decide) rfl (Nat.le_of_ble_eq_true rfl) e_h_unit_X9 ?_
  intro p e s m below meth c ls Q ar hQ hx hb hr hlocks hml hown hts hK hE H locs hI hl
  have hown : s.vm.findClass RX9 = some m.cls := hown
  have hl : lv_has ls 7 [(0, .ref y)] := hl
  have i39 : iv (M y 39) 0 90 := hI.iv1 (a := y) (j := 39) (lo := 0) (hi := 90) (n := 67) g_y rfl (by decide) rfl
  obtain ⟨v1, e_v1⟩ : ∃ z : Int32, z = M y 39 := ⟨_, rfl⟩
  have i_v1 : iv v1 0 90 := by rw [e_v1]; exact hI.iv1 (n := 67) g_y rfl (by decide) rfl
  refine lv_aload_n hx hb dX9_unit_0 rfl (lv_at hl 0 rfl) ?_
  refine h_getr hx hb hts iX9_unit_X9 hown hK hI g_y (by decide) rfl rfl 32 (by decide) rfl 132 rfl (hts (.fieldLink RX9 85 "CatLeasesModel" "eWhat" "[I") (List.mem_of_getElem? (i := 1) rfl)) (fun _ h9 => h9) dX9_unit_1 (fun a2 e_a2 g_a2 => ?_)
  refine lv_aload_n hx hb dX9_unit_4 rfl (lv_at hl 0 rfl) ?_
  refine h_geti (lo := 0) (hi := 90) hx hb hts iX9_unit_X9 hown hK hI g_y (by decide) rfl rfl 39 (by decide) rfl rfl (hts (.fieldLink RX9 327 "CatLeasesModel" "piled" "I") (List.mem_of_getElem? (i := 2) rfl)) (fun _ h9 => h9) dX9_unit_5 (fun v3 e_v3 i_v3 => ?_)
  have q4 : v1 = v3 := (e_v1).trans e_v3.symm
  subst q4
  have ip9 : iv v1 1 38 := EX1_p m0_EX1 e_v1
  refine lv_iconst (v := 1) hx hb dX9_unit_8 (by decide) ?_
  refine lv_isub hx hb dX9_unit_9 ?_
  refine h_nm (lo := 0) (hi := 37) (iv_sub ip9 kc_1 (by decide) (by decide) (by decide) (by decide)) (fun v5 e_v5 i_v5 => ?_)
  refine h_iald (j := v5.toNatClampNeg) (lo := (-2147483648)) (hi := 2147483647) hx hb hK hI g_a2 (by decide) rfl (iv_in (n := 90) i_v5 (by decide) (by decide)) rfl (iv_any _) dX9_unit_10 (fun v6 e_v6 i_v6 => ?_)
  refine lv_iconst (v := 3) hx hb dX9_unit_11 (by decide) ?_
  have J36 : ∀ (t0_36 : Int32) (H : Heap) (locs : List Loc) (ls : Array Slot), kI D g σ e_h_unit_X9 M s.heap M N R H locs → lv_has ls 7 [(0, .ref y)] → iv t0_36 0 1 → W p l e (headSpec wsX9_unit ({ frames := 2, cells := 0, slots := 0, locals := 44 })).room s m ar below meth c H locs 0 0 Q (F0 m 36 ls [.int t0_36]) := by
    intro t0_36 H locs ls hI hl i_t0_36
    refine lv_istore_n (lv' := [(1, .int t0_36), (0, .ref y)]) hx hb dX9_unit_36 rfl hl (by decide) rfl (fun ls hl => ?_)
    refine lv_iload_n hx hb dX9_unit_37 rfl (lv_at hl 0 rfl) ?_
    have J55 : ∀ (H : Heap) (locs : List Loc) (ls : Array Slot), kI D g σ e_h_unit_X9 M s.heap M N R H locs → lv_has ls 7 [(0, .ref y)] → W p l e (headSpec wsX9_unit ({ frames := 2, cells := 0, slots := 0, locals := 44 })).room s m ar below meth c H locs 0 0 Q (F0 m 55 ls []) := by
      intro H locs ls hI hl
      refine lv_iconst (v := 0) hx hb dX9_unit_55 (by decide) ?_
      refine lv_istore_n (lv' := [(2, .int (0 : Int32)), (0, .ref y)]) hx hb dX9_unit_56 rfl hl (by decide) rfl (fun ls hl => ?_)
      refine lv_aload_n hx hb dX9_unit_57 rfl (lv_at hl 1 rfl) ?_
      refine lv_bipush (v := 40) hx hb dX9_unit_58 (by decide) ?_
      refine h_goi hI (by decide) (va_runV (As := [.int (40 : Int32)]) (rest := []) ⟨hx, hb, hml, hown, hts⟩ (h_isSignHere_X9 l D g σ Z hZ0 M N R y g_y (40 : Int32)) (cwV 1 hts gX9_unit_X9_isSignHere rfl rfl rfl (by decide +kernel) ⟨Nat.le_of_ble_eq_true rfl, Nat.le_of_ble_eq_true rfl⟩) (h_preV hZ0 hK hE hI g_y (by decide) rfl) rfl rfl hl.1 rfl (lv_room (Nat.le_of_ble_eq_true rfl)) dX9_unit_60 ⟨Nat.le_of_ble_eq_true rfl, Nat.le_of_ble_eq_true rfl⟩) (fun r7 M8 N9 R10 H locs q11 z_M8 hI => ?_)
      obtain ⟨rfl, rfl, rfl, i_r7, z12, z13⟩ := q11
      refine lv_istore_n (lv' := [(3, .int r7), (2, .int (0 : Int32)), (0, .ref y)]) hx hb dX9_unit_63 rfl hl (by decide) rfl (fun ls hl => ?_)
      refine lv_aload_n hx hb dX9_unit_64 rfl (lv_at hl 2 rfl) ?_
      refine h_goi hI (by decide) (va_runV (As := []) (rest := []) ⟨hx, hb, hml, hown, hts⟩ (h_wordHere_X9 l D g σ Z hZ0 M N R y g_y) (cwV 0 hts gX9_unit_X9_wordHere rfl rfl rfl (by decide +kernel) ⟨Nat.le_of_ble_eq_true rfl, Nat.le_of_ble_eq_true rfl⟩) (h_preV hZ0 hK hE hI g_y (by decide) rfl) rfl rfl hl.1 rfl (lv_room (Nat.le_of_ble_eq_true rfl)) dX9_unit_65 ⟨Nat.le_of_ble_eq_true rfl, Nat.le_of_ble_eq_true rfl⟩) (fun r14 M15 N16 R17 H locs q18 z_M15 hI => ?_)
      obtain ⟨rfl, rfl, rfl, i_r14, z19⟩ := q18
      refine lv_istore (lv' := [(4, .int r14), (3, .int r7), (2, .int (0 : Int32)), (0, .ref y)]) hx hb dX9_unit_68 hl (by decide) rfl (fun ls hl => ?_)
      refine lv_aload_n hx hb dX9_unit_70 rfl (lv_at hl 3 rfl) ?_
      refine h_getr hx hb hts iX9_unit_X9 hown hK hI g_y (by decide) rfl rfl 14 (by decide) rfl 114 rfl (hts (.fieldLink RX9 30 "CatLeasesModel" "units" "[I") (List.mem_of_getElem? (i := 4) rfl)) (fun _ h9 => h9) dX9_unit_71 (fun a20 e_a20 g_a20 => ?_)
      refine lv_aload_n hx hb dX9_unit_74 rfl (lv_at hl 3 rfl) ?_
      refine h_geti (lo := 0) (hi := 1) hx hb hts iX9_unit_X9 hown hK hI g_y (by decide) rfl rfl 36 (by decide) rfl rfl (hts (.fieldLink RX9 259 "CatLeasesModel" "rb" "I") (List.mem_of_getElem? (i := 5) rfl)) (fun _ h9 => h9) dX9_unit_75 (fun v21 e_v21 i_v21 => ?_)
      refine h_iald (j := v21.toNatClampNeg) (lo := (-2147483648)) (hi := 2147483647) hx hb hK hI g_a20 (by decide) rfl (iv_in (n := 2) i_v21 (by decide) (by decide)) rfl (iv_any _) dX9_unit_78 (fun v22 e_v22 i_v22 => ?_)
      refine lv_bipush (v := 60) hx hb dX9_unit_79 (by decide) ?_
      refine lv_icmp_eq (tgt := 93) hx hb dX9_unit_81 (by decide) (fun c23 => ?_) (fun c23 => ?_)
      · have i24 : iv v22 60 60 := iv_eq1 c23 i_v22 kc_60
        refine lv_iconst (v := 1) hx hb dX9_unit_93 (by decide) ?_
        refine lv_goto (tgt := 98) hx hb dX9_unit_94 (by decide) ?_
        refine lv_istore (lv' := [(5, .int (1 : Int32)), (4, .int r14), (3, .int r7), (2, .int (0 : Int32)), (0, .ref y)]) hx hb dX9_unit_98 hl (by decide) rfl (fun ls hl => ?_)
        refine lv_iload_n hx hb dX9_unit_100 rfl (lv_at hl 3 rfl) ?_
        refine lv_if_ne (tgt := 126) hx hb dX9_unit_101 (by decide) (fun c25 => ?_) (fun c25 => ?_)
        · exact absurd rfl c25
        · refine lv_iload hx hb dX9_unit_104 (lv_at hl 1 rfl) ?_
          refine lv_if_ne (tgt := 121) hx hb dX9_unit_106 (by decide) (fun c26 => ?_) (fun c26 => ?_)
          · have i27 := z19 c26
            obtain ⟨v28, e_v28⟩ : ∃ z : Int32, z = M y 8 := ⟨_, rfl⟩
            have i29 : iv v28 3 3 := by rw [e_v28, i27.2]; exact kc_3
            have i30 : iv r14 1 119 := iv_neL c26 i_r14 (by decide) (by decide)
            refine lv_iload hx hb dX9_unit_121 (lv_at hl 0 rfl) ?_
            refine lv_if_ne (tgt := 143) hx hb dX9_unit_123 (by decide) (fun c31 => ?_) (fun c31 => ?_)
            · refine lv_aload_n hx hb dX9_unit_143 rfl (lv_at hl 4 rfl) ?_
              refine h_gov hI (by decide) (va_runV (As := []) (rest := []) ⟨hx, hb, hml, hown, hts⟩ (h_misplaced_X9 l D g σ Z hZ0 M N R y g_y m0_PI) (cwV 0 hts gX9_unit_X9_misplaced rfl rfl rfl (by decide +kernel) ⟨Nat.le_of_ble_eq_true rfl, Nat.le_of_ble_eq_true rfl⟩) (h_preV hZ0 hK hE hI g_y (by decide) rfl) rfl rfl hl.1 rfl (lv_room (Nat.le_of_ble_eq_true rfl)) dX9_unit_144 ⟨Nat.le_of_ble_eq_true rfl, Nat.le_of_ble_eq_true rfl⟩) (fun M33 N34 R35 H locs q36 z_M33 hI => ?_)
              obtain ⟨rfl, rfl, m37, m38, z39⟩ := q36
              obtain ⟨v40, e_v40⟩ : ∃ z : Int32, z = M33 y 4 := ⟨_, rfl⟩
              have i_v40 : iv v40 1 5 := by rw [e_v40]; exact z39
              refine lv_aload_n hx hb dX9_unit_147 rfl (lv_at hl 4 rfl) ?_
              refine h_goi hI (by decide) (va_runV (As := []) (rest := []) ⟨hx, hb, hml, hown, hts⟩ (h_isGood_X9 l D g σ Z hZ0 M33 N R y g_y) (cwV 0 hts gX9_unit_X9_isGood rfl rfl rfl (by decide +kernel) ⟨Nat.le_of_ble_eq_true rfl, Nat.le_of_ble_eq_true rfl⟩) (h_preV hZ0 hK hE hI g_y (by decide) rfl) rfl rfl hl.1 rfl (lv_room (Nat.le_of_ble_eq_true rfl)) dX9_unit_148 ⟨Nat.le_of_ble_eq_true rfl, Nat.le_of_ble_eq_true rfl⟩) (fun r41 M42 N43 R44 H locs q45 z_M42 hI => ?_)
              obtain ⟨rfl, rfl, rfl, i_r41, z46, z47⟩ := q45
              refine lv_if_ne (tgt := 156) hx hb dX9_unit_151 (by decide) (fun c48 => ?_) (fun c48 => ?_)
              · exact absurd ((e_v40).trans (z46 c48)) (iv_ne i_v40 kc_0 (by decide))
              · have i49 : iv v40 1 5 := iv_neL (fun h9 => z47 c48 ((e_v40).symm.trans h9)) i_v40 (by decide) (by decide)
                have i50 : iv r41 0 0 := iv_eq1 c48 i_r41 kc_0
                refine lv_iconst (v := 1) hx hb dX9_unit_154 (by decide) ?_
                have m51 : PN M M33 y := (PN_tr PN_rf m38)
                have m52 : PC M M33 R y := (PC_ag hI.2.1 g_y PC_rf (hAd.ag z_M33 (by decide)))
                exact h_iret hQ hx hb hr hlocks rfl hK hI ⟨rfl, (iv_w (lo' := 0) (hi' := 1) kc_1 (by decide) (by decide)), m37, m51, m52, (fun h9 => gd_no (e_v40) i49 h9), (gm_lt hg9 m0_PI i39 (fun h9 => gd_no (e_v40) i49 h9))⟩ dX9_unit_155
            · exact absurd c31 (iv_ne kc_1 kc_0 (by decide))
          · have i53 : iv r14 0 0 := iv_eq1 c26 i_r14 kc_0
            refine lv_aload_n hx hb dX9_unit_109 rfl (lv_at hl 4 rfl) ?_
            refine h_geti (lo := (-2147483648)) (hi := 2147483647) hx hb hts iX9_unit_X9 hown hK hI g_y (by decide) rfl rfl 8 (by decide) rfl rfl (hts (.fieldLink RX9 206 "CatLeasesModel" "token" "I") (List.mem_of_getElem? (i := 7) rfl)) (fun _ h9 => h9) dX9_unit_110 (fun v54 e_v54 i_v54 => ?_)
            refine lv_iconst (v := 4) hx hb dX9_unit_113 (by decide) ?_
            refine lv_icmp_eq (tgt := 121) hx hb dX9_unit_114 (by decide) (fun c55 => ?_) (fun c55 => ?_)
            · have i56 : iv v54 4 4 := iv_eq1 c55 i_v54 kc_4
              refine lv_iload hx hb dX9_unit_121 (lv_at hl 0 rfl) ?_
              refine lv_if_ne (tgt := 143) hx hb dX9_unit_123 (by decide) (fun c57 => ?_) (fun c57 => ?_)
              · refine lv_aload_n hx hb dX9_unit_143 rfl (lv_at hl 4 rfl) ?_
                refine h_gov hI (by decide) (va_runV (As := []) (rest := []) ⟨hx, hb, hml, hown, hts⟩ (h_misplaced_X9 l D g σ Z hZ0 M N R y g_y m0_PI) (cwV 0 hts gX9_unit_X9_misplaced rfl rfl rfl (by decide +kernel) ⟨Nat.le_of_ble_eq_true rfl, Nat.le_of_ble_eq_true rfl⟩) (h_preV hZ0 hK hE hI g_y (by decide) rfl) rfl rfl hl.1 rfl (lv_room (Nat.le_of_ble_eq_true rfl)) dX9_unit_144 ⟨Nat.le_of_ble_eq_true rfl, Nat.le_of_ble_eq_true rfl⟩) (fun M59 N60 R61 H locs q62 z_M59 hI => ?_)
                obtain ⟨rfl, rfl, m63, m64, z65⟩ := q62
                obtain ⟨v66, e_v66⟩ : ∃ z : Int32, z = M59 y 4 := ⟨_, rfl⟩
                have i_v66 : iv v66 1 5 := by rw [e_v66]; exact z65
                refine lv_aload_n hx hb dX9_unit_147 rfl (lv_at hl 4 rfl) ?_
                refine h_goi hI (by decide) (va_runV (As := []) (rest := []) ⟨hx, hb, hml, hown, hts⟩ (h_isGood_X9 l D g σ Z hZ0 M59 N R y g_y) (cwV 0 hts gX9_unit_X9_isGood rfl rfl rfl (by decide +kernel) ⟨Nat.le_of_ble_eq_true rfl, Nat.le_of_ble_eq_true rfl⟩) (h_preV hZ0 hK hE hI g_y (by decide) rfl) rfl rfl hl.1 rfl (lv_room (Nat.le_of_ble_eq_true rfl)) dX9_unit_148 ⟨Nat.le_of_ble_eq_true rfl, Nat.le_of_ble_eq_true rfl⟩) (fun r67 M68 N69 R70 H locs q71 z_M68 hI => ?_)
                obtain ⟨rfl, rfl, rfl, i_r67, z72, z73⟩ := q71
                refine lv_if_ne (tgt := 156) hx hb dX9_unit_151 (by decide) (fun c74 => ?_) (fun c74 => ?_)
                · exact absurd ((e_v66).trans (z72 c74)) (iv_ne i_v66 kc_0 (by decide))
                · have i75 : iv v66 1 5 := iv_neL (fun h9 => z73 c74 ((e_v66).symm.trans h9)) i_v66 (by decide) (by decide)
                  have i76 : iv r67 0 0 := iv_eq1 c74 i_r67 kc_0
                  refine lv_iconst (v := 1) hx hb dX9_unit_154 (by decide) ?_
                  have m77 : PN M M59 y := (PN_tr PN_rf m64)
                  have m78 : PC M M59 R y := (PC_ag hI.2.1 g_y PC_rf (hAd.ag z_M59 (by decide)))
                  exact h_iret hQ hx hb hr hlocks rfl hK hI ⟨rfl, (iv_w (lo' := 0) (hi' := 1) kc_1 (by decide) (by decide)), m63, m77, m78, (fun h9 => gd_no (e_v66) i75 h9), (gm_lt hg9 m0_PI i39 (fun h9 => gd_no (e_v66) i75 h9))⟩ dX9_unit_155
              · exact absurd c57 (iv_ne kc_1 kc_0 (by decide))
            · refine lv_iload_n hx hb dX9_unit_117 rfl (lv_at hl 2 rfl) ?_
              refine lv_if_eq (tgt := 143) hx hb dX9_unit_118 (by decide) (fun c79 => ?_) (fun c79 => ?_)
              · have i80 : iv r7 0 0 := iv_eq1 c79 i_r7 kc_0
                refine lv_aload_n hx hb dX9_unit_143 rfl (lv_at hl 4 rfl) ?_
                refine h_gov hI (by decide) (va_runV (As := []) (rest := []) ⟨hx, hb, hml, hown, hts⟩ (h_misplaced_X9 l D g σ Z hZ0 M N R y g_y m0_PI) (cwV 0 hts gX9_unit_X9_misplaced rfl rfl rfl (by decide +kernel) ⟨Nat.le_of_ble_eq_true rfl, Nat.le_of_ble_eq_true rfl⟩) (h_preV hZ0 hK hE hI g_y (by decide) rfl) rfl rfl hl.1 rfl (lv_room (Nat.le_of_ble_eq_true rfl)) dX9_unit_144 ⟨Nat.le_of_ble_eq_true rfl, Nat.le_of_ble_eq_true rfl⟩) (fun M82 N83 R84 H locs q85 z_M82 hI => ?_)
                obtain ⟨rfl, rfl, m86, m87, z88⟩ := q85
                obtain ⟨v89, e_v89⟩ : ∃ z : Int32, z = M82 y 4 := ⟨_, rfl⟩
                have i_v89 : iv v89 1 5 := by rw [e_v89]; exact z88
                refine lv_aload_n hx hb dX9_unit_147 rfl (lv_at hl 4 rfl) ?_
                refine h_goi hI (by decide) (va_runV (As := []) (rest := []) ⟨hx, hb, hml, hown, hts⟩ (h_isGood_X9 l D g σ Z hZ0 M82 N R y g_y) (cwV 0 hts gX9_unit_X9_isGood rfl rfl rfl (by decide +kernel) ⟨Nat.le_of_ble_eq_true rfl, Nat.le_of_ble_eq_true rfl⟩) (h_preV hZ0 hK hE hI g_y (by decide) rfl) rfl rfl hl.1 rfl (lv_room (Nat.le_of_ble_eq_true rfl)) dX9_unit_148 ⟨Nat.le_of_ble_eq_true rfl, Nat.le_of_ble_eq_true rfl⟩) (fun r90 M91 N92 R93 H locs q94 z_M91 hI => ?_)
                obtain ⟨rfl, rfl, rfl, i_r90, z95, z96⟩ := q94
                refine lv_if_ne (tgt := 156) hx hb dX9_unit_151 (by decide) (fun c97 => ?_) (fun c97 => ?_)
                · exact absurd ((e_v89).trans (z95 c97)) (iv_ne i_v89 kc_0 (by decide))
                · have i98 : iv v89 1 5 := iv_neL (fun h9 => z96 c97 ((e_v89).symm.trans h9)) i_v89 (by decide) (by decide)
                  have i99 : iv r90 0 0 := iv_eq1 c97 i_r90 kc_0
                  refine lv_iconst (v := 1) hx hb dX9_unit_154 (by decide) ?_
                  have m100 : PN M M82 y := (PN_tr PN_rf m87)
                  have m101 : PC M M82 R y := (PC_ag hI.2.1 g_y PC_rf (hAd.ag z_M82 (by decide)))
                  exact h_iret hQ hx hb hr hlocks rfl hK hI ⟨rfl, (iv_w (lo' := 0) (hi' := 1) kc_1 (by decide) (by decide)), m86, m100, m101, (fun h9 => gd_no (e_v89) i98 h9), (gm_lt hg9 m0_PI i39 (fun h9 => gd_no (e_v89) i98 h9))⟩ dX9_unit_155
              · have i102 : iv v54 5 5 := by rw [(e_v54), (z13 c79).1]; exact kc_5
                have i103 : iv r7 1 1 := iv_neL c79 i_r7 (by decide) (by decide)
                refine lv_iload hx hb dX9_unit_121 (lv_at hl 0 rfl) ?_
                refine lv_if_ne (tgt := 143) hx hb dX9_unit_123 (by decide) (fun c104 => ?_) (fun c104 => ?_)
                · refine lv_aload_n hx hb dX9_unit_143 rfl (lv_at hl 4 rfl) ?_
                  refine h_gov hI (by decide) (va_runV (As := []) (rest := []) ⟨hx, hb, hml, hown, hts⟩ (h_misplaced_X9 l D g σ Z hZ0 M N R y g_y m0_PI) (cwV 0 hts gX9_unit_X9_misplaced rfl rfl rfl (by decide +kernel) ⟨Nat.le_of_ble_eq_true rfl, Nat.le_of_ble_eq_true rfl⟩) (h_preV hZ0 hK hE hI g_y (by decide) rfl) rfl rfl hl.1 rfl (lv_room (Nat.le_of_ble_eq_true rfl)) dX9_unit_144 ⟨Nat.le_of_ble_eq_true rfl, Nat.le_of_ble_eq_true rfl⟩) (fun M106 N107 R108 H locs q109 z_M106 hI => ?_)
                  obtain ⟨rfl, rfl, m110, m111, z112⟩ := q109
                  obtain ⟨v113, e_v113⟩ : ∃ z : Int32, z = M106 y 4 := ⟨_, rfl⟩
                  have i_v113 : iv v113 1 5 := by rw [e_v113]; exact z112
                  refine lv_aload_n hx hb dX9_unit_147 rfl (lv_at hl 4 rfl) ?_
                  refine h_goi hI (by decide) (va_runV (As := []) (rest := []) ⟨hx, hb, hml, hown, hts⟩ (h_isGood_X9 l D g σ Z hZ0 M106 N R y g_y) (cwV 0 hts gX9_unit_X9_isGood rfl rfl rfl (by decide +kernel) ⟨Nat.le_of_ble_eq_true rfl, Nat.le_of_ble_eq_true rfl⟩) (h_preV hZ0 hK hE hI g_y (by decide) rfl) rfl rfl hl.1 rfl (lv_room (Nat.le_of_ble_eq_true rfl)) dX9_unit_148 ⟨Nat.le_of_ble_eq_true rfl, Nat.le_of_ble_eq_true rfl⟩) (fun r114 M115 N116 R117 H locs q118 z_M115 hI => ?_)
                  obtain ⟨rfl, rfl, rfl, i_r114, z119, z120⟩ := q118
                  refine lv_if_ne (tgt := 156) hx hb dX9_unit_151 (by decide) (fun c121 => ?_) (fun c121 => ?_)
                  · exact absurd ((e_v113).trans (z119 c121)) (iv_ne i_v113 kc_0 (by decide))
                  · have i122 : iv v113 1 5 := iv_neL (fun h9 => z120 c121 ((e_v113).symm.trans h9)) i_v113 (by decide) (by decide)
                    have i123 : iv r114 0 0 := iv_eq1 c121 i_r114 kc_0
                    refine lv_iconst (v := 1) hx hb dX9_unit_154 (by decide) ?_
                    have m124 : PN M M106 y := (PN_tr PN_rf m111)
                    have m125 : PC M M106 R y := (PC_ag hI.2.1 g_y PC_rf (hAd.ag z_M106 (by decide)))
                    exact h_iret hQ hx hb hr hlocks rfl hK hI ⟨rfl, (iv_w (lo' := 0) (hi' := 1) kc_1 (by decide) (by decide)), m110, m124, m125, (fun h9 => gd_no (e_v113) i122 h9), (gm_lt hg9 m0_PI i39 (fun h9 => gd_no (e_v113) i122 h9))⟩ dX9_unit_155
                · exact absurd c104 (iv_ne kc_1 kc_0 (by decide))
      · refine lv_aload_n hx hb dX9_unit_84 rfl (lv_at hl 3 rfl) ?_
        refine h_geti (lo := 0) (hi := 30) hx hb hts iX9_unit_X9 hown hK hI g_y (by decide) rfl rfl 40 (by decide) rfl rfl (hts (.fieldLink RX9 321 "CatLeasesModel" "unitsInRule" "I") (List.mem_of_getElem? (i := 6) rfl)) (fun _ h9 => h9) dX9_unit_85 (fun v126 e_v126 i_v126 => ?_)
        refine lv_bipush (v := 30) hx hb dX9_unit_88 (by decide) ?_
        refine lv_icmp_ne (tgt := 97) hx hb dX9_unit_90 (by decide) (fun c127 => ?_) (fun c127 => ?_)
        · have i128 : iv v126 0 29 := iv_neH c127 i_v126 (by decide) (by decide)
          refine lv_iconst (v := 0) hx hb dX9_unit_97 (by decide) ?_
          refine lv_istore (lv' := [(5, .int (0 : Int32)), (4, .int r14), (3, .int r7), (2, .int (0 : Int32)), (0, .ref y)]) hx hb dX9_unit_98 hl (by decide) rfl (fun ls hl => ?_)
          refine lv_iload_n hx hb dX9_unit_100 rfl (lv_at hl 3 rfl) ?_
          refine lv_if_ne (tgt := 126) hx hb dX9_unit_101 (by decide) (fun c129 => ?_) (fun c129 => ?_)
          · exact absurd rfl c129
          · refine lv_iload hx hb dX9_unit_104 (lv_at hl 1 rfl) ?_
            refine lv_if_ne (tgt := 121) hx hb dX9_unit_106 (by decide) (fun c130 => ?_) (fun c130 => ?_)
            · have i131 := z19 c130
              obtain ⟨v132, e_v132⟩ : ∃ z : Int32, z = M y 8 := ⟨_, rfl⟩
              have i133 : iv v132 3 3 := by rw [e_v132, i131.2]; exact kc_3
              have i134 : iv r14 1 119 := iv_neL c130 i_r14 (by decide) (by decide)
              refine lv_iload hx hb dX9_unit_121 (lv_at hl 0 rfl) ?_
              refine lv_if_ne (tgt := 143) hx hb dX9_unit_123 (by decide) (fun c135 => ?_) (fun c135 => ?_)
              · exact absurd rfl c135
              · refine lv_iload_n hx hb dX9_unit_126 rfl (lv_at hl 3 rfl) ?_
                refine lv_if_ne (tgt := 134) hx hb dX9_unit_127 (by decide) (fun c136 => ?_) (fun c136 => ?_)
                · exact absurd rfl c136
                · refine lv_iload_n hx hb dX9_unit_130 rfl (lv_at hl 2 rfl) ?_
                  refine lv_if_eq (tgt := 147) hx hb dX9_unit_131 (by decide) (fun c137 => ?_) (fun c137 => ?_)
                  · have i138 : iv r7 0 0 := iv_eq1 c137 i_r7 kc_0
                    refine lv_aload_n hx hb dX9_unit_147 rfl (lv_at hl 4 rfl) ?_
                    refine h_goi hI (by decide) (va_runV (As := []) (rest := []) ⟨hx, hb, hml, hown, hts⟩ (h_isGood_X9 l D g σ Z hZ0 M N R y g_y) (cwV 0 hts gX9_unit_X9_isGood rfl rfl rfl (by decide +kernel) ⟨Nat.le_of_ble_eq_true rfl, Nat.le_of_ble_eq_true rfl⟩) (h_preV hZ0 hK hE hI g_y (by decide) rfl) rfl rfl hl.1 rfl (lv_room (Nat.le_of_ble_eq_true rfl)) dX9_unit_148 ⟨Nat.le_of_ble_eq_true rfl, Nat.le_of_ble_eq_true rfl⟩) (fun r139 M140 N141 R142 H locs q143 z_M140 hI => ?_)
                    obtain ⟨rfl, rfl, rfl, i_r139, z144, z145⟩ := q143
                    refine lv_if_ne (tgt := 156) hx hb dX9_unit_151 (by decide) (fun c146 => ?_) (fun c146 => ?_)
                    · obtain ⟨v147, e_v147⟩ : ∃ z : Int32, z = M y 4 := ⟨_, rfl⟩
                      have i_v147 : iv v147 0 5 := by rw [e_v147]; exact hI.iv1 (n := 67) g_y rfl (by decide) rfl
                      have i148 : iv v147 0 0 := by rw [e_v147, z144 c146]; exact kc_0
                      have i149 : iv r139 1 1 := iv_neL c146 i_r139 (by decide) (by decide)
                      obtain ⟨v150, e_v150⟩ : ∃ z : Int32, z = M y 37 := ⟨_, rfl⟩
                      have i_v150 : iv v150 0 1120 := by rw [e_v150]; exact hI.iv1 (n := 67) g_y rfl (by decide) rfl
                      obtain ⟨v151, e_v151⟩ : ∃ z : Int32, z = M y 38 := ⟨_, rfl⟩
                      refine lv_aload_n hx hb dX9_unit_156 rfl (lv_at hl 4 rfl) ?_
                      refine h_getr hx hb hts iX9_unit_X9 hown hK hI g_y (by decide) rfl rfl 14 (by decide) rfl 114 rfl (hts (.fieldLink RX9 30 "CatLeasesModel" "units" "[I") (List.mem_of_getElem? (i := 4) rfl)) (fun _ h9 => h9) dX9_unit_157 (fun a152 e_a152 g_a152 => ?_)
                      have q153 : a20 = a152 := (e_a20).trans e_a152.symm
                      subst q153
                      refine lv_aload_n hx hb dX9_unit_160 rfl (lv_at hl 4 rfl) ?_
                      refine h_geti (lo := 0) (hi := 1) hx hb hts iX9_unit_X9 hown hK hI g_y (by decide) rfl rfl 36 (by decide) rfl rfl (hts (.fieldLink RX9 259 "CatLeasesModel" "rb" "I") (List.mem_of_getElem? (i := 5) rfl)) (fun _ h9 => h9) dX9_unit_161 (fun v154 e_v154 i_v154 => ?_)
                      have q155 : v21 = v154 := (e_v21).trans e_v154.symm
                      subst q155
                      refine lv_dup2_11 hx hb dX9_unit_164 rfl rfl ?_
                      refine h_iald (j := v21.toNatClampNeg) (lo := (-2147483648)) (hi := 2147483647) hx hb hK hI g_a20 (by decide) rfl (iv_in (n := 2) i_v21 (by decide) (by decide)) rfl (iv_any _) dX9_unit_165 (fun v156 e_v156 i_v156 => ?_)
                      have q157 : v22 = v156 := (e_v22).trans e_v156.symm
                      subst q157
                      refine lv_iload_n hx hb dX9_unit_166 rfl (lv_at hl 3 rfl) ?_
                      refine lv_if_eq (tgt := 174) hx hb dX9_unit_167 (by decide) (fun c158 => ?_) (fun c158 => ?_)
                      · refine lv_iconst (v := 1) hx hb dX9_unit_174 (by decide) ?_
                        refine lv_iadd hx hb dX9_unit_175 ?_
                        refine h_nm (lo := (-2147483648)) (hi := 2147483647) (iv_any _) (fun v159 e_v159 i_v159 => ?_)
                        refine h_iast (j := v21.toNatClampNeg) hx hb hK hI g_a20 (by decide) rfl (iv_in (n := 2) i_v21 (by decide) (by decide)) rfl (iv_any _) rfl dX9_unit_176 (fun M160 H locs e_M160 hI => ?_)
                        refine lv_aload_n hx hb dX9_unit_177 rfl (lv_at hl 4 rfl) ?_
                        refine lv_dup hx hb dX9_unit_178 rfl ?_
                        refine h_geti (lo := 0) (hi := 30) hx hb hts iX9_unit_X9 hown hK hI g_y (by decide) rfl rfl 40 (by decide) rfl rfl (hts (.fieldLink RX9 321 "CatLeasesModel" "unitsInRule" "I") (List.mem_of_getElem? (i := 6) rfl)) (fun _ h9 => h9) dX9_unit_179 (fun v161 e_v161 i_v161 => ?_)
                        have q162 : v126 = v161 := ((e_v126).trans (u2_st (a := y) (k := 40) e_M160 (u2_a (so_ne g_y g_a20 (by decide)))).symm).trans e_v161.symm
                        subst q162
                        refine lv_iload_n hx hb dX9_unit_182 rfl (lv_at hl 3 rfl) ?_
                        refine lv_if_eq (tgt := 190) hx hb dX9_unit_183 (by decide) (fun c163 => ?_) (fun c163 => ?_)
                        · refine lv_iconst (v := 1) hx hb dX9_unit_190 (by decide) ?_
                          refine lv_iadd hx hb dX9_unit_191 ?_
                          refine h_nm (lo := 1) (hi := 30) (iv_add i128 kc_1 (by decide) (by decide) (by decide) (by decide)) (fun v164 e_v164 i_v164 => ?_)
                          refine h_puti hx hb hts iX9_unit_X9 tyX9 tyX9_ok nmX9 hown hK hI g_y (by decide) rfl rfl 40 (by decide) rfl (hts (.fieldLink RX9 321 "CatLeasesModel" "unitsInRule" "I") (List.mem_of_getElem? (i := 6) rfl)) (fun _ h9 => h9) rfl .int (by decide +kernel) rfl rfl (iv_w (lo' := 0) (hi' := 30) i_v164 (by decide) (by decide)) rfl dX9_unit_192 (fun M165 H locs e_M165 hI => ?_)
                          refine lv_iload hx hb dX9_unit_195 (lv_at hl 1 rfl) ?_
                          refine lv_if_ne (tgt := 207) hx hb dX9_unit_197 (by decide) (fun c166 => ?_) (fun c166 => ?_)
                          · have i167 := z19 c166
                            have i168 : iv v132 3 3 := by rw [(((e_v132).trans (u2_st (a := y) (k := 8) e_M160 (u2_a (so_ne g_y g_a20 (by decide)))).symm).trans (u2_st (a := y) (k := 8) e_M165 (u2_k (by decide))).symm), i167.2]; exact kc_3
                            refine lv_iconst (v := 0) hx hb dX9_unit_207 (by decide) ?_
                            refine lv_istore (lv' := [(6, .int (0 : Int32)), (5, .int (0 : Int32)), (4, .int r14), (3, .int r7), (2, .int (0 : Int32)), (0, .ref y)]) hx hb dX9_unit_208 hl (by decide) rfl (fun ls hl => ?_)
                            refine lv_aload_n hx hb dX9_unit_210 rfl (lv_at hl 5 rfl) ?_
                            have m169 : PI M165 y := (PI_ag hI.2.1 g_y (PI_ag hI.2.1 g_y m0_PI (hAd.put e_M160 g_a20 rfl)) (hAd.put e_M165 g_y rfl))
                            have m170 : PN M M165 y := (PN_ag hI.2.1 g_y (PN_ag hI.2.1 g_y PN_rf (hAd.put e_M160 g_a20 rfl)) (hAd.put e_M165 g_y rfl))
                            refine h_gov hI (by decide) (va_runV (As := []) (rest := []) ⟨hx, hb, hml, hown, hts⟩ (h_goOn_X9 l D g σ Z hZ0 M165 N R y g_y m169) (cwV 0 hts gX9_unit_X9_goOn rfl rfl rfl (by decide +kernel) ⟨Nat.le_of_ble_eq_true rfl, Nat.le_of_ble_eq_true rfl⟩) (h_preV hZ0 hK hE hI g_y (by decide) rfl) rfl rfl hl.1 rfl (lv_room (Nat.le_of_ble_eq_true rfl)) dX9_unit_211 ⟨Nat.le_of_ble_eq_true rfl, Nat.le_of_ble_eq_true rfl⟩) (fun M172 N173 R174 H locs q175 z_M172 hI => ?_)
                            obtain ⟨rfl, z176, z177, z178⟩ := q175
                            have ng9 : nu M172 y < nu M y := Int.lt_of_lt_of_le (GO_lt z178 (z_M172 y 9 3 g_y rfl) m169 (fun h9 => iv_ne i168 kc_0 (by decide) ((((e_v132).trans (u2_st (a := y) (k := 8) e_M160 (u2_a (so_ne g_y g_a20 (by decide)))).symm).trans (u2_st (a := y) (k := 8) e_M165 (u2_k (by decide))).symm).trans h9))) m170.2.2
                            refine lv_iload_n hx hb dX9_unit_214 rfl (lv_at hl 4 rfl) ?_
                            refine lv_if_ne (tgt := 222) hx hb dX9_unit_215 (by decide) (fun c179 => ?_) (fun c179 => ?_)
                            · exact absurd rfl c179
                            · refine lv_iload_n hx hb dX9_unit_218 rfl (lv_at hl 3 rfl) ?_
                              refine lv_if_eq (tgt := 250) hx hb dX9_unit_219 (by decide) (fun c180 => ?_) (fun c180 => ?_)
                              · refine lv_aload_n hx hb dX9_unit_250 rfl (lv_at hl 5 rfl) ?_
                                refine lv_iload hx hb dX9_unit_251 (lv_at hl 2 rfl) ?_
                                refine lv_if_ne (tgt := 261) hx hb dX9_unit_253 (by decide) (fun c181 => ?_) (fun c181 => ?_)
                                · have i182 := z19 c181
                                  obtain ⟨v183, e_v183⟩ : ∃ z : Int32, z = M172 y 8 := ⟨_, rfl⟩
                                  have i184 : iv v183 3 3 := by rw [e_v183, i182.2]; exact kc_3
                                  refine lv_iload hx hb dX9_unit_261 (lv_at hl 2 rfl) ?_
                                  refine lv_iload hx hb dX9_unit_263 (lv_at hl 0 rfl) ?_
                                  refine h_gov hI (by decide) (va_runV (As := [.int r14, .int (0 : Int32)]) (rest := []) ⟨hx, hb, hml, hown, hts⟩ (h_emit_X9 l D g σ Z hZ0 M172 N173 R y g_y r14 (0 : Int32) (EX1_c m0_EX1 (by rw [← ((z_M172 y 9 36 g_y rfl).trans ((u2_st (a := y) (k := 36) e_M165 (u2_k (by decide))).trans (u2_st (a := y) (k := 36) e_M160 (u2_a (so_ne g_y g_a20 (by decide))))))]; exact (hI.iv1 (a := y) (j := 36) (lo := 0) (hi := 1) (n := 67) g_y rfl (by decide) rfl)) ((z_M172 y 9 36 g_y rfl).trans ((u2_st (a := y) (k := 36) e_M165 (u2_k (by decide))).trans (u2_st (a := y) (k := 36) e_M160 (u2_a (so_ne g_y g_a20 (by decide)))))) ((z_M172 y 9 37 g_y rfl).trans ((u2_st (a := y) (k := 37) e_M165 (u2_k (by decide))).trans (u2_st (a := y) (k := 37) e_M160 (u2_a (so_ne g_y g_a20 (by decide)))))))) (cwV 2 hts gX9_unit_X9_emit rfl rfl rfl (by decide +kernel) ⟨Nat.le_of_ble_eq_true rfl, Nat.le_of_ble_eq_true rfl⟩) (h_preV hZ0 hK hE hI g_y (by decide) rfl) rfl rfl hl.1 rfl (lv_room (Nat.le_of_ble_eq_true rfl)) dX9_unit_265 ⟨Nat.le_of_ble_eq_true rfl, Nat.le_of_ble_eq_true rfl⟩) (fun M186 N187 R188 H locs q189 z_M186 hI => ?_)
                                  obtain ⟨rfl, rfl, z190, z191⟩ := q189
                                  refine lv_iconst (v := 0) hx hb dX9_unit_268 (by decide) ?_
                                  have m192 : PI M186 y := (PI_ag hI.2.1 g_y z176 (hAd.ag z_M186 (by decide)))
                                  have m193 : PN M M186 y := (PN_ag hI.2.1 g_y (PN_tr m170 z177) (hAd.ag z_M186 (by decide)))
                                  have m194 : PC M M186 R y := (PC_tr (PC_ag hI.2.1 g_y (PC_ag hI.2.1 g_y (PC_ag hI.2.1 g_y PC_rf (hAd.put e_M160 g_a20 rfl)) (hAd.put e_M165 g_y rfl)) (hAd.ag z_M172 (by decide))) z191)
                                  exact h_iret hQ hx hb hr hlocks rfl hK hI ⟨rfl, (iv_w (lo' := 0) (hi' := 1) kc_0 (by decide) (by decide)), m192, m193, m194, (fun _ => ⟨fun _ => (EX1_let (q := r14) m0_EX1 ((z_M186 y 9 36 g_y rfl).trans ((z_M172 y 9 36 g_y rfl).trans ((u2_st (a := y) (k := 36) e_M165 (u2_k (by decide))).trans (u2_st (a := y) (k := 36) e_M160 (u2_a (so_ne g_y g_a20 (by decide))))))) ((z_M186 y 9 38 g_y rfl).trans ((z_M172 y 9 38 g_y rfl).trans ((u2_st (a := y) (k := 38) e_M165 (u2_k (by decide))).trans (u2_st (a := y) (k := 38) e_M160 (u2_a (so_ne g_y g_a20 (by decide))))))) ((z_M186 y 9 39 g_y rfl).trans ((z_M172 y 9 39 g_y rfl).trans ((u2_st (a := y) (k := 39) e_M165 (u2_k (by decide))).trans (u2_st (a := y) (k := 39) e_M160 (u2_a (so_ne g_y g_a20 (by decide))))))) ((hAg.row z_M186 (hI.2.1.r1 g_y 32 132 (by decide) rfl) (fun _ => rfl)).trans ((hAg.row z_M172 (hI.2.1.r1 g_y 32 132 (by decide) rfl) (fun _ => rfl)).trans ((u2_row e_M165 (so_ne (hI.2.1.r1 g_y 32 132 (by decide) rfl) g_y (by decide))).trans (u2_row e_M160 (so_ne (hI.2.1.r1 g_y 32 132 (by decide) rfl) g_a20 (by decide)))))) ((hAg.row z_M186 (hI.2.1.r1 g_y 33 133 (by decide) rfl) (fun _ => rfl)).trans ((hAg.row z_M172 (hI.2.1.r1 g_y 33 133 (by decide) rfl) (fun _ => rfl)).trans ((u2_row e_M165 (so_ne (hI.2.1.r1 g_y 33 133 (by decide) rfl) g_y (by decide))).trans (u2_row e_M160 (so_ne (hI.2.1.r1 g_y 33 133 (by decide) rfl) g_a20 (by decide)))))) (by rw [← ((((u2_wr e_M165)).trans (z_M172 y 9 40 g_y rfl).symm).trans (z_M186 y 9 40 g_y rfl).symm), ← (e_v126)]; exact (h_inc e_v164 i128 kc_1 (by decide) (by decide))) (by rw [z190.1, ((z_M172 y 9 37 g_y rfl).trans ((u2_st (a := y) (k := 37) e_M165 (u2_k (by decide))).trans (u2_st (a := y) (k := 37) e_M160 (u2_a (so_ne g_y g_a20 (by decide))))))]) (fun j => by rw [z190.2 j, ((hAg.row z_M172 (hI.2.1.r1 g_y 30 130 (by decide) rfl) (fun _ => rfl)).trans ((u2_row e_M165 (so_ne (hI.2.1.r1 g_y 30 130 (by decide) rfl) g_y (by decide))).trans (u2_row e_M160 (so_ne (hI.2.1.r1 g_y 30 130 (by decide) rfl) g_a20 (by decide))))), ((z_M172 y 9 37 g_y rfl).trans ((u2_st (a := y) (k := 37) e_M165 (u2_k (by decide))).trans (u2_st (a := y) (k := 37) e_M160 (u2_a (so_ne g_y g_a20 (by decide))))))]) i182.1 (by have h9 := i128; rw [← (e_v126)]; simp only [iv] at h9; omega)), fun h9 => absurd rfl h9⟩), (gm_lt hg9 m0_PI i39 (fun _ => by have h9 := nu_eq (M1 := M186) (M := M172) (y := y) (z_M186 y 9 3 g_y rfl) (z_M186 y 9 7 g_y rfl) (z_M186 y 9 8 g_y rfl); have h8 := ng9; have h7 := (by rw [((z_M186 y 9 39 g_y rfl).trans ((z_M172 y 9 39 g_y rfl).trans ((u2_st (a := y) (k := 39) e_M165 (u2_k (by decide))).trans (u2_st (a := y) (k := 39) e_M160 (u2_a (so_ne g_y g_a20 (by decide)))))))]; omega : (M186 y 39).toInt ≤ (M y 39).toInt + 1); omega))⟩ dX9_unit_269
                                · exact absurd c181 (iv_ne i167.1 kc_0 (by decide))
                              · exact iv_f (iv_neL (lo := 1) c180 i138 (by decide) (by decide)) (by decide)
                          · exact absurd c166 (iv_ne i134 kc_0 (by decide))
                        · exact absurd rfl c163
                      · exact absurd rfl c158
                    · obtain ⟨v195, e_v195⟩ : ∃ z : Int32, z = M y 4 := ⟨_, rfl⟩
                      have i_v195 : iv v195 0 5 := by rw [e_v195]; exact hI.iv1 (n := 67) g_y rfl (by decide) rfl
                      have i196 : iv v195 1 5 := iv_neL (fun h9 => z145 c146 (e_v195.symm.trans h9)) i_v195 (by decide) (by decide)
                      have i197 : iv r139 0 0 := iv_eq1 c146 i_r139 kc_0
                      refine lv_iconst (v := 1) hx hb dX9_unit_154 (by decide) ?_
                      exact h_iret hQ hx hb hr hlocks rfl hK hI ⟨rfl, (iv_w (lo' := 0) (hi' := 1) kc_1 (by decide) (by decide)), m0_PI, PN_rf, PC_rf, (fun h9 => gd_no (e_v195) i196 h9), (gm_lt hg9 m0_PI i39 (fun h9 => gd_no (e_v195) i196 h9))⟩ dX9_unit_155
                  · exact absurd ((e_v132).trans (z13 c137).1) (iv_ne i133 kc_5 (by decide))
            · have i198 : iv r14 0 0 := iv_eq1 c130 i_r14 kc_0
              refine lv_aload_n hx hb dX9_unit_109 rfl (lv_at hl 4 rfl) ?_
              refine h_geti (lo := (-2147483648)) (hi := 2147483647) hx hb hts iX9_unit_X9 hown hK hI g_y (by decide) rfl rfl 8 (by decide) rfl rfl (hts (.fieldLink RX9 206 "CatLeasesModel" "token" "I") (List.mem_of_getElem? (i := 7) rfl)) (fun _ h9 => h9) dX9_unit_110 (fun v199 e_v199 i_v199 => ?_)
              refine lv_iconst (v := 4) hx hb dX9_unit_113 (by decide) ?_
              refine lv_icmp_eq (tgt := 121) hx hb dX9_unit_114 (by decide) (fun c200 => ?_) (fun c200 => ?_)
              · have i201 : iv v199 4 4 := iv_eq1 c200 i_v199 kc_4
                refine lv_iload hx hb dX9_unit_121 (lv_at hl 0 rfl) ?_
                refine lv_if_ne (tgt := 143) hx hb dX9_unit_123 (by decide) (fun c202 => ?_) (fun c202 => ?_)
                · exact absurd rfl c202
                · refine lv_iload_n hx hb dX9_unit_126 rfl (lv_at hl 3 rfl) ?_
                  refine lv_if_ne (tgt := 134) hx hb dX9_unit_127 (by decide) (fun c203 => ?_) (fun c203 => ?_)
                  · exact absurd rfl c203
                  · refine lv_iload_n hx hb dX9_unit_130 rfl (lv_at hl 2 rfl) ?_
                    refine lv_if_eq (tgt := 147) hx hb dX9_unit_131 (by decide) (fun c204 => ?_) (fun c204 => ?_)
                    · have i205 : iv r7 0 0 := iv_eq1 c204 i_r7 kc_0
                      refine lv_aload_n hx hb dX9_unit_147 rfl (lv_at hl 4 rfl) ?_
                      refine h_goi hI (by decide) (va_runV (As := []) (rest := []) ⟨hx, hb, hml, hown, hts⟩ (h_isGood_X9 l D g σ Z hZ0 M N R y g_y) (cwV 0 hts gX9_unit_X9_isGood rfl rfl rfl (by decide +kernel) ⟨Nat.le_of_ble_eq_true rfl, Nat.le_of_ble_eq_true rfl⟩) (h_preV hZ0 hK hE hI g_y (by decide) rfl) rfl rfl hl.1 rfl (lv_room (Nat.le_of_ble_eq_true rfl)) dX9_unit_148 ⟨Nat.le_of_ble_eq_true rfl, Nat.le_of_ble_eq_true rfl⟩) (fun r206 M207 N208 R209 H locs q210 z_M207 hI => ?_)
                      obtain ⟨rfl, rfl, rfl, i_r206, z211, z212⟩ := q210
                      refine lv_if_ne (tgt := 156) hx hb dX9_unit_151 (by decide) (fun c213 => ?_) (fun c213 => ?_)
                      · obtain ⟨v214, e_v214⟩ : ∃ z : Int32, z = M y 4 := ⟨_, rfl⟩
                        have i_v214 : iv v214 0 5 := by rw [e_v214]; exact hI.iv1 (n := 67) g_y rfl (by decide) rfl
                        have i215 : iv v214 0 0 := by rw [e_v214, z211 c213]; exact kc_0
                        have i216 : iv r206 1 1 := iv_neL c213 i_r206 (by decide) (by decide)
                        obtain ⟨v217, e_v217⟩ : ∃ z : Int32, z = M y 37 := ⟨_, rfl⟩
                        have i_v217 : iv v217 0 1120 := by rw [e_v217]; exact hI.iv1 (n := 67) g_y rfl (by decide) rfl
                        obtain ⟨v218, e_v218⟩ : ∃ z : Int32, z = M y 38 := ⟨_, rfl⟩
                        refine lv_aload_n hx hb dX9_unit_156 rfl (lv_at hl 4 rfl) ?_
                        refine h_getr hx hb hts iX9_unit_X9 hown hK hI g_y (by decide) rfl rfl 14 (by decide) rfl 114 rfl (hts (.fieldLink RX9 30 "CatLeasesModel" "units" "[I") (List.mem_of_getElem? (i := 4) rfl)) (fun _ h9 => h9) dX9_unit_157 (fun a219 e_a219 g_a219 => ?_)
                        have q220 : a20 = a219 := (e_a20).trans e_a219.symm
                        subst q220
                        refine lv_aload_n hx hb dX9_unit_160 rfl (lv_at hl 4 rfl) ?_
                        refine h_geti (lo := 0) (hi := 1) hx hb hts iX9_unit_X9 hown hK hI g_y (by decide) rfl rfl 36 (by decide) rfl rfl (hts (.fieldLink RX9 259 "CatLeasesModel" "rb" "I") (List.mem_of_getElem? (i := 5) rfl)) (fun _ h9 => h9) dX9_unit_161 (fun v221 e_v221 i_v221 => ?_)
                        have q222 : v21 = v221 := (e_v21).trans e_v221.symm
                        subst q222
                        refine lv_dup2_11 hx hb dX9_unit_164 rfl rfl ?_
                        refine h_iald (j := v21.toNatClampNeg) (lo := (-2147483648)) (hi := 2147483647) hx hb hK hI g_a20 (by decide) rfl (iv_in (n := 2) i_v21 (by decide) (by decide)) rfl (iv_any _) dX9_unit_165 (fun v223 e_v223 i_v223 => ?_)
                        have q224 : v22 = v223 := (e_v22).trans e_v223.symm
                        subst q224
                        refine lv_iload_n hx hb dX9_unit_166 rfl (lv_at hl 3 rfl) ?_
                        refine lv_if_eq (tgt := 174) hx hb dX9_unit_167 (by decide) (fun c225 => ?_) (fun c225 => ?_)
                        · refine lv_iconst (v := 1) hx hb dX9_unit_174 (by decide) ?_
                          refine lv_iadd hx hb dX9_unit_175 ?_
                          refine h_nm (lo := (-2147483648)) (hi := 2147483647) (iv_any _) (fun v226 e_v226 i_v226 => ?_)
                          refine h_iast (j := v21.toNatClampNeg) hx hb hK hI g_a20 (by decide) rfl (iv_in (n := 2) i_v21 (by decide) (by decide)) rfl (iv_any _) rfl dX9_unit_176 (fun M227 H locs e_M227 hI => ?_)
                          refine lv_aload_n hx hb dX9_unit_177 rfl (lv_at hl 4 rfl) ?_
                          refine lv_dup hx hb dX9_unit_178 rfl ?_
                          refine h_geti (lo := 0) (hi := 30) hx hb hts iX9_unit_X9 hown hK hI g_y (by decide) rfl rfl 40 (by decide) rfl rfl (hts (.fieldLink RX9 321 "CatLeasesModel" "unitsInRule" "I") (List.mem_of_getElem? (i := 6) rfl)) (fun _ h9 => h9) dX9_unit_179 (fun v228 e_v228 i_v228 => ?_)
                          have q229 : v126 = v228 := ((e_v126).trans (u2_st (a := y) (k := 40) e_M227 (u2_a (so_ne g_y g_a20 (by decide)))).symm).trans e_v228.symm
                          subst q229
                          refine lv_iload_n hx hb dX9_unit_182 rfl (lv_at hl 3 rfl) ?_
                          refine lv_if_eq (tgt := 190) hx hb dX9_unit_183 (by decide) (fun c230 => ?_) (fun c230 => ?_)
                          · refine lv_iconst (v := 1) hx hb dX9_unit_190 (by decide) ?_
                            refine lv_iadd hx hb dX9_unit_191 ?_
                            refine h_nm (lo := 1) (hi := 30) (iv_add i128 kc_1 (by decide) (by decide) (by decide) (by decide)) (fun v231 e_v231 i_v231 => ?_)
                            refine h_puti hx hb hts iX9_unit_X9 tyX9 tyX9_ok nmX9 hown hK hI g_y (by decide) rfl rfl 40 (by decide) rfl (hts (.fieldLink RX9 321 "CatLeasesModel" "unitsInRule" "I") (List.mem_of_getElem? (i := 6) rfl)) (fun _ h9 => h9) rfl .int (by decide +kernel) rfl rfl (iv_w (lo' := 0) (hi' := 30) i_v231 (by decide) (by decide)) rfl dX9_unit_192 (fun M232 H locs e_M232 hI => ?_)
                            refine lv_iload hx hb dX9_unit_195 (lv_at hl 1 rfl) ?_
                            refine lv_if_ne (tgt := 207) hx hb dX9_unit_197 (by decide) (fun c233 => ?_) (fun c233 => ?_)
                            · exact iv_f (iv_neL (lo := 1) c233 i198 (by decide) (by decide)) (by decide)
                            · refine lv_aload_n hx hb dX9_unit_200 rfl (lv_at hl 4 rfl) ?_
                              refine h_geti (lo := (-2147483648)) (hi := 2147483647) hx hb hts iX9_unit_X9 hown hK hI g_y (by decide) rfl rfl 9 (by decide) rfl rfl (hts (.fieldLink RX9 224 "CatLeasesModel" "number" "I") (List.mem_of_getElem? (i := 9) rfl)) (fun _ h9 => h9) dX9_unit_201 (fun v234 e_v234 i_v234 => ?_)
                              refine lv_goto (tgt := 208) hx hb dX9_unit_204 (by decide) ?_
                              refine lv_istore (lv' := [(6, .int v234), (5, .int (0 : Int32)), (4, .int r14), (3, .int r7), (2, .int (0 : Int32)), (0, .ref y)]) hx hb dX9_unit_208 hl (by decide) rfl (fun ls hl => ?_)
                              refine lv_aload_n hx hb dX9_unit_210 rfl (lv_at hl 5 rfl) ?_
                              have m235 : PI M232 y := (PI_ag hI.2.1 g_y (PI_ag hI.2.1 g_y m0_PI (hAd.put e_M227 g_a20 rfl)) (hAd.put e_M232 g_y rfl))
                              have m236 : PN M M232 y := (PN_ag hI.2.1 g_y (PN_ag hI.2.1 g_y PN_rf (hAd.put e_M227 g_a20 rfl)) (hAd.put e_M232 g_y rfl))
                              refine h_gov hI (by decide) (va_runV (As := []) (rest := []) ⟨hx, hb, hml, hown, hts⟩ (h_goOn_X9 l D g σ Z hZ0 M232 N R y g_y m235) (cwV 0 hts gX9_unit_X9_goOn rfl rfl rfl (by decide +kernel) ⟨Nat.le_of_ble_eq_true rfl, Nat.le_of_ble_eq_true rfl⟩) (h_preV hZ0 hK hE hI g_y (by decide) rfl) rfl rfl hl.1 rfl (lv_room (Nat.le_of_ble_eq_true rfl)) dX9_unit_211 ⟨Nat.le_of_ble_eq_true rfl, Nat.le_of_ble_eq_true rfl⟩) (fun M238 N239 R240 H locs q241 z_M238 hI => ?_)
                              obtain ⟨rfl, z242, z243, z244⟩ := q241
                              have ng9 : nu M238 y < nu M y := Int.lt_of_lt_of_le (GO_lt z244 (z_M238 y 9 3 g_y rfl) m235 (fun h9 => iv_ne i201 kc_0 (by decide) ((((e_v199).trans (u2_st (a := y) (k := 8) e_M227 (u2_a (so_ne g_y g_a20 (by decide)))).symm).trans (u2_st (a := y) (k := 8) e_M232 (u2_k (by decide))).symm).trans h9))) m236.2.2
                              refine lv_iload_n hx hb dX9_unit_214 rfl (lv_at hl 4 rfl) ?_
                              refine lv_if_ne (tgt := 222) hx hb dX9_unit_215 (by decide) (fun c245 => ?_) (fun c245 => ?_)
                              · exact absurd rfl c245
                              · refine lv_iload_n hx hb dX9_unit_218 rfl (lv_at hl 3 rfl) ?_
                                refine lv_if_eq (tgt := 250) hx hb dX9_unit_219 (by decide) (fun c246 => ?_) (fun c246 => ?_)
                                · refine lv_aload_n hx hb dX9_unit_250 rfl (lv_at hl 5 rfl) ?_
                                  refine lv_iload hx hb dX9_unit_251 (lv_at hl 2 rfl) ?_
                                  refine lv_if_ne (tgt := 261) hx hb dX9_unit_253 (by decide) (fun c247 => ?_) (fun c247 => ?_)
                                  · exact iv_f (iv_neL (lo := 1) c247 i198 (by decide) (by decide)) (by decide)
                                  · refine lv_bipush (v := 110) hx hb dX9_unit_256 (by decide) ?_
                                    refine lv_goto (tgt := 263) hx hb dX9_unit_258 (by decide) ?_
                                    refine lv_iload hx hb dX9_unit_263 (lv_at hl 0 rfl) ?_
                                    refine h_gov hI (by decide) (va_runV (As := [.int (110 : Int32), .int v234]) (rest := []) ⟨hx, hb, hml, hown, hts⟩ (h_emit_X9 l D g σ Z hZ0 M238 N239 R y g_y (110 : Int32) v234 (EX1_c m0_EX1 (by rw [← ((z_M238 y 9 36 g_y rfl).trans ((u2_st (a := y) (k := 36) e_M232 (u2_k (by decide))).trans (u2_st (a := y) (k := 36) e_M227 (u2_a (so_ne g_y g_a20 (by decide))))))]; exact (hI.iv1 (a := y) (j := 36) (lo := 0) (hi := 1) (n := 67) g_y rfl (by decide) rfl)) ((z_M238 y 9 36 g_y rfl).trans ((u2_st (a := y) (k := 36) e_M232 (u2_k (by decide))).trans (u2_st (a := y) (k := 36) e_M227 (u2_a (so_ne g_y g_a20 (by decide)))))) ((z_M238 y 9 37 g_y rfl).trans ((u2_st (a := y) (k := 37) e_M232 (u2_k (by decide))).trans (u2_st (a := y) (k := 37) e_M227 (u2_a (so_ne g_y g_a20 (by decide)))))))) (cwV 2 hts gX9_unit_X9_emit rfl rfl rfl (by decide +kernel) ⟨Nat.le_of_ble_eq_true rfl, Nat.le_of_ble_eq_true rfl⟩) (h_preV hZ0 hK hE hI g_y (by decide) rfl) rfl rfl hl.1 rfl (lv_room (Nat.le_of_ble_eq_true rfl)) dX9_unit_265 ⟨Nat.le_of_ble_eq_true rfl, Nat.le_of_ble_eq_true rfl⟩) (fun M249 N250 R251 H locs q252 z_M249 hI => ?_)
                                    obtain ⟨rfl, rfl, z253, z254⟩ := q252
                                    refine lv_iconst (v := 0) hx hb dX9_unit_268 (by decide) ?_
                                    have m255 : PI M249 y := (PI_ag hI.2.1 g_y z242 (hAd.ag z_M249 (by decide)))
                                    have m256 : PN M M249 y := (PN_ag hI.2.1 g_y (PN_tr m236 z243) (hAd.ag z_M249 (by decide)))
                                    have m257 : PC M M249 R y := (PC_tr (PC_ag hI.2.1 g_y (PC_ag hI.2.1 g_y (PC_ag hI.2.1 g_y PC_rf (hAd.put e_M227 g_a20 rfl)) (hAd.put e_M232 g_y rfl)) (hAd.ag z_M238 (by decide))) z254)
                                    exact h_iret hQ hx hb hr hlocks rfl hK hI ⟨rfl, (iv_w (lo' := 0) (hi' := 1) kc_0 (by decide) (by decide)), m255, m256, m257, (fun _ => ⟨fun _ => (EX1_let (q := (110 : Int32)) m0_EX1 ((z_M249 y 9 36 g_y rfl).trans ((z_M238 y 9 36 g_y rfl).trans ((u2_st (a := y) (k := 36) e_M232 (u2_k (by decide))).trans (u2_st (a := y) (k := 36) e_M227 (u2_a (so_ne g_y g_a20 (by decide))))))) ((z_M249 y 9 38 g_y rfl).trans ((z_M238 y 9 38 g_y rfl).trans ((u2_st (a := y) (k := 38) e_M232 (u2_k (by decide))).trans (u2_st (a := y) (k := 38) e_M227 (u2_a (so_ne g_y g_a20 (by decide))))))) ((z_M249 y 9 39 g_y rfl).trans ((z_M238 y 9 39 g_y rfl).trans ((u2_st (a := y) (k := 39) e_M232 (u2_k (by decide))).trans (u2_st (a := y) (k := 39) e_M227 (u2_a (so_ne g_y g_a20 (by decide))))))) ((hAg.row z_M249 (hI.2.1.r1 g_y 32 132 (by decide) rfl) (fun _ => rfl)).trans ((hAg.row z_M238 (hI.2.1.r1 g_y 32 132 (by decide) rfl) (fun _ => rfl)).trans ((u2_row e_M232 (so_ne (hI.2.1.r1 g_y 32 132 (by decide) rfl) g_y (by decide))).trans (u2_row e_M227 (so_ne (hI.2.1.r1 g_y 32 132 (by decide) rfl) g_a20 (by decide)))))) ((hAg.row z_M249 (hI.2.1.r1 g_y 33 133 (by decide) rfl) (fun _ => rfl)).trans ((hAg.row z_M238 (hI.2.1.r1 g_y 33 133 (by decide) rfl) (fun _ => rfl)).trans ((u2_row e_M232 (so_ne (hI.2.1.r1 g_y 33 133 (by decide) rfl) g_y (by decide))).trans (u2_row e_M227 (so_ne (hI.2.1.r1 g_y 33 133 (by decide) rfl) g_a20 (by decide)))))) (by rw [← ((((u2_wr e_M232)).trans (z_M238 y 9 40 g_y rfl).symm).trans (z_M249 y 9 40 g_y rfl).symm), ← (e_v126)]; exact (h_inc e_v231 i128 kc_1 (by decide) (by decide))) (by rw [z253.1, ((z_M238 y 9 37 g_y rfl).trans ((u2_st (a := y) (k := 37) e_M232 (u2_k (by decide))).trans (u2_st (a := y) (k := 37) e_M227 (u2_a (so_ne g_y g_a20 (by decide))))))]) (fun j => by rw [z253.2 j, ((hAg.row z_M238 (hI.2.1.r1 g_y 30 130 (by decide) rfl) (fun _ => rfl)).trans ((u2_row e_M232 (so_ne (hI.2.1.r1 g_y 30 130 (by decide) rfl) g_y (by decide))).trans (u2_row e_M227 (so_ne (hI.2.1.r1 g_y 30 130 (by decide) rfl) g_a20 (by decide))))), ((z_M238 y 9 37 g_y rfl).trans ((u2_st (a := y) (k := 37) e_M232 (u2_k (by decide))).trans (u2_st (a := y) (k := 37) e_M227 (u2_a (so_ne g_y g_a20 (by decide))))))]) (iv_w (lo' := 97) (hi' := 122) kc_110 (by decide) (by decide)) (by have h9 := i128; rw [← (e_v126)]; simp only [iv] at h9; omega)), fun h9 => absurd rfl h9⟩), (gm_lt hg9 m0_PI i39 (fun _ => by have h9 := nu_eq (M1 := M249) (M := M238) (y := y) (z_M249 y 9 3 g_y rfl) (z_M249 y 9 7 g_y rfl) (z_M249 y 9 8 g_y rfl); have h8 := ng9; have h7 := (by rw [((z_M249 y 9 39 g_y rfl).trans ((z_M238 y 9 39 g_y rfl).trans ((u2_st (a := y) (k := 39) e_M232 (u2_k (by decide))).trans (u2_st (a := y) (k := 39) e_M227 (u2_a (so_ne g_y g_a20 (by decide)))))))]; omega : (M249 y 39).toInt ≤ (M y 39).toInt + 1); omega))⟩ dX9_unit_269
                                · exact iv_f (iv_neL (lo := 1) c246 i205 (by decide) (by decide)) (by decide)
                          · exact absurd rfl c230
                        · exact absurd rfl c225
                      · obtain ⟨v258, e_v258⟩ : ∃ z : Int32, z = M y 4 := ⟨_, rfl⟩
                        have i_v258 : iv v258 0 5 := by rw [e_v258]; exact hI.iv1 (n := 67) g_y rfl (by decide) rfl
                        have i259 : iv v258 1 5 := iv_neL (fun h9 => z212 c213 (e_v258.symm.trans h9)) i_v258 (by decide) (by decide)
                        have i260 : iv r206 0 0 := iv_eq1 c213 i_r206 kc_0
                        refine lv_iconst (v := 1) hx hb dX9_unit_154 (by decide) ?_
                        exact h_iret hQ hx hb hr hlocks rfl hK hI ⟨rfl, (iv_w (lo' := 0) (hi' := 1) kc_1 (by decide) (by decide)), m0_PI, PN_rf, PC_rf, (fun h9 => gd_no (e_v258) i259 h9), (gm_lt hg9 m0_PI i39 (fun h9 => gd_no (e_v258) i259 h9))⟩ dX9_unit_155
                    · exact absurd ((e_v199).trans (z13 c204).1) (iv_ne i201 kc_5 (by decide))
              · refine lv_iload_n hx hb dX9_unit_117 rfl (lv_at hl 2 rfl) ?_
                refine lv_if_eq (tgt := 143) hx hb dX9_unit_118 (by decide) (fun c261 => ?_) (fun c261 => ?_)
                · have i262 : iv r7 0 0 := iv_eq1 c261 i_r7 kc_0
                  refine lv_aload_n hx hb dX9_unit_143 rfl (lv_at hl 4 rfl) ?_
                  refine h_gov hI (by decide) (va_runV (As := []) (rest := []) ⟨hx, hb, hml, hown, hts⟩ (h_misplaced_X9 l D g σ Z hZ0 M N R y g_y m0_PI) (cwV 0 hts gX9_unit_X9_misplaced rfl rfl rfl (by decide +kernel) ⟨Nat.le_of_ble_eq_true rfl, Nat.le_of_ble_eq_true rfl⟩) (h_preV hZ0 hK hE hI g_y (by decide) rfl) rfl rfl hl.1 rfl (lv_room (Nat.le_of_ble_eq_true rfl)) dX9_unit_144 ⟨Nat.le_of_ble_eq_true rfl, Nat.le_of_ble_eq_true rfl⟩) (fun M264 N265 R266 H locs q267 z_M264 hI => ?_)
                  obtain ⟨rfl, rfl, m268, m269, z270⟩ := q267
                  obtain ⟨v271, e_v271⟩ : ∃ z : Int32, z = M264 y 4 := ⟨_, rfl⟩
                  have i_v271 : iv v271 1 5 := by rw [e_v271]; exact z270
                  refine lv_aload_n hx hb dX9_unit_147 rfl (lv_at hl 4 rfl) ?_
                  refine h_goi hI (by decide) (va_runV (As := []) (rest := []) ⟨hx, hb, hml, hown, hts⟩ (h_isGood_X9 l D g σ Z hZ0 M264 N R y g_y) (cwV 0 hts gX9_unit_X9_isGood rfl rfl rfl (by decide +kernel) ⟨Nat.le_of_ble_eq_true rfl, Nat.le_of_ble_eq_true rfl⟩) (h_preV hZ0 hK hE hI g_y (by decide) rfl) rfl rfl hl.1 rfl (lv_room (Nat.le_of_ble_eq_true rfl)) dX9_unit_148 ⟨Nat.le_of_ble_eq_true rfl, Nat.le_of_ble_eq_true rfl⟩) (fun r272 M273 N274 R275 H locs q276 z_M273 hI => ?_)
                  obtain ⟨rfl, rfl, rfl, i_r272, z277, z278⟩ := q276
                  refine lv_if_ne (tgt := 156) hx hb dX9_unit_151 (by decide) (fun c279 => ?_) (fun c279 => ?_)
                  · exact absurd ((e_v271).trans (z277 c279)) (iv_ne i_v271 kc_0 (by decide))
                  · have i280 : iv v271 1 5 := iv_neL (fun h9 => z278 c279 ((e_v271).symm.trans h9)) i_v271 (by decide) (by decide)
                    have i281 : iv r272 0 0 := iv_eq1 c279 i_r272 kc_0
                    refine lv_iconst (v := 1) hx hb dX9_unit_154 (by decide) ?_
                    have m282 : PN M M264 y := (PN_tr PN_rf m269)
                    have m283 : PC M M264 R y := (PC_ag hI.2.1 g_y PC_rf (hAd.ag z_M264 (by decide)))
                    exact h_iret hQ hx hb hr hlocks rfl hK hI ⟨rfl, (iv_w (lo' := 0) (hi' := 1) kc_1 (by decide) (by decide)), m268, m282, m283, (fun h9 => gd_no (e_v271) i280 h9), (gm_lt hg9 m0_PI i39 (fun h9 => gd_no (e_v271) i280 h9))⟩ dX9_unit_155
                · have i284 : iv v199 5 5 := by rw [(e_v199), (z13 c261).1]; exact kc_5
                  have i285 : iv r7 1 1 := iv_neL c261 i_r7 (by decide) (by decide)
                  refine lv_iload hx hb dX9_unit_121 (lv_at hl 0 rfl) ?_
                  refine lv_if_ne (tgt := 143) hx hb dX9_unit_123 (by decide) (fun c286 => ?_) (fun c286 => ?_)
                  · exact absurd rfl c286
                  · refine lv_iload_n hx hb dX9_unit_126 rfl (lv_at hl 3 rfl) ?_
                    refine lv_if_ne (tgt := 134) hx hb dX9_unit_127 (by decide) (fun c287 => ?_) (fun c287 => ?_)
                    · exact absurd rfl c287
                    · refine lv_iload_n hx hb dX9_unit_130 rfl (lv_at hl 2 rfl) ?_
                      refine lv_if_eq (tgt := 147) hx hb dX9_unit_131 (by decide) (fun c288 => ?_) (fun c288 => ?_)
                      · exact absurd c288 (iv_ne i285 kc_0 (by decide))
                      · have i289 : iv v199 5 5 := by rw [(e_v199), (z13 c288).1]; exact kc_5
                        refine lv_aload_n hx hb dX9_unit_134 rfl (lv_at hl 4 rfl) ?_
                        refine h_geti (lo := (-2147483648)) (hi := 2147483647) hx hb hts iX9_unit_X9 hown hK hI g_y (by decide) rfl rfl 38 (by decide) rfl rfl (hts (.fieldLink RX9 330 "CatLeasesModel" "within" "I") (List.mem_of_getElem? (i := 8) rfl)) (fun _ h9 => h9) dX9_unit_135 (fun v290 e_v290 i_v290 => ?_)
                        have i291 : iv v290 0 7 := EX1_w m0_EX1 e_v290
                        refine lv_bipush (v := 7) hx hb dX9_unit_138 (by decide) ?_
                        refine lv_icmp_ne (tgt := 147) hx hb dX9_unit_140 (by decide) (fun c292 => ?_) (fun c292 => ?_)
                        · have i293 : iv v290 0 6 := iv_neH c292 i291 (by decide) (by decide)
                          refine lv_aload_n hx hb dX9_unit_147 rfl (lv_at hl 4 rfl) ?_
                          refine h_goi hI (by decide) (va_runV (As := []) (rest := []) ⟨hx, hb, hml, hown, hts⟩ (h_isGood_X9 l D g σ Z hZ0 M N R y g_y) (cwV 0 hts gX9_unit_X9_isGood rfl rfl rfl (by decide +kernel) ⟨Nat.le_of_ble_eq_true rfl, Nat.le_of_ble_eq_true rfl⟩) (h_preV hZ0 hK hE hI g_y (by decide) rfl) rfl rfl hl.1 rfl (lv_room (Nat.le_of_ble_eq_true rfl)) dX9_unit_148 ⟨Nat.le_of_ble_eq_true rfl, Nat.le_of_ble_eq_true rfl⟩) (fun r294 M295 N296 R297 H locs q298 z_M295 hI => ?_)
                          obtain ⟨rfl, rfl, rfl, i_r294, z299, z300⟩ := q298
                          refine lv_if_ne (tgt := 156) hx hb dX9_unit_151 (by decide) (fun c301 => ?_) (fun c301 => ?_)
                          · obtain ⟨v302, e_v302⟩ : ∃ z : Int32, z = M y 4 := ⟨_, rfl⟩
                            have i_v302 : iv v302 0 5 := by rw [e_v302]; exact hI.iv1 (n := 67) g_y rfl (by decide) rfl
                            have i303 : iv v302 0 0 := by rw [e_v302, z299 c301]; exact kc_0
                            have i304 : iv r294 1 1 := iv_neL c301 i_r294 (by decide) (by decide)
                            obtain ⟨v305, e_v305⟩ : ∃ z : Int32, z = M y 37 := ⟨_, rfl⟩
                            have i_v305 : iv v305 0 1120 := by rw [e_v305]; exact hI.iv1 (n := 67) g_y rfl (by decide) rfl
                            refine lv_aload_n hx hb dX9_unit_156 rfl (lv_at hl 4 rfl) ?_
                            refine h_getr hx hb hts iX9_unit_X9 hown hK hI g_y (by decide) rfl rfl 14 (by decide) rfl 114 rfl (hts (.fieldLink RX9 30 "CatLeasesModel" "units" "[I") (List.mem_of_getElem? (i := 4) rfl)) (fun _ h9 => h9) dX9_unit_157 (fun a306 e_a306 g_a306 => ?_)
                            have q307 : a20 = a306 := (e_a20).trans e_a306.symm
                            subst q307
                            refine lv_aload_n hx hb dX9_unit_160 rfl (lv_at hl 4 rfl) ?_
                            refine h_geti (lo := 0) (hi := 1) hx hb hts iX9_unit_X9 hown hK hI g_y (by decide) rfl rfl 36 (by decide) rfl rfl (hts (.fieldLink RX9 259 "CatLeasesModel" "rb" "I") (List.mem_of_getElem? (i := 5) rfl)) (fun _ h9 => h9) dX9_unit_161 (fun v308 e_v308 i_v308 => ?_)
                            have q309 : v21 = v308 := (e_v21).trans e_v308.symm
                            subst q309
                            refine lv_dup2_11 hx hb dX9_unit_164 rfl rfl ?_
                            refine h_iald (j := v21.toNatClampNeg) (lo := (-2147483648)) (hi := 2147483647) hx hb hK hI g_a20 (by decide) rfl (iv_in (n := 2) i_v21 (by decide) (by decide)) rfl (iv_any _) dX9_unit_165 (fun v310 e_v310 i_v310 => ?_)
                            have q311 : v22 = v310 := (e_v22).trans e_v310.symm
                            subst q311
                            refine lv_iload_n hx hb dX9_unit_166 rfl (lv_at hl 3 rfl) ?_
                            refine lv_if_eq (tgt := 174) hx hb dX9_unit_167 (by decide) (fun c312 => ?_) (fun c312 => ?_)
                            · refine lv_iconst (v := 1) hx hb dX9_unit_174 (by decide) ?_
                              refine lv_iadd hx hb dX9_unit_175 ?_
                              refine h_nm (lo := (-2147483648)) (hi := 2147483647) (iv_any _) (fun v313 e_v313 i_v313 => ?_)
                              refine h_iast (j := v21.toNatClampNeg) hx hb hK hI g_a20 (by decide) rfl (iv_in (n := 2) i_v21 (by decide) (by decide)) rfl (iv_any _) rfl dX9_unit_176 (fun M314 H locs e_M314 hI => ?_)
                              refine lv_aload_n hx hb dX9_unit_177 rfl (lv_at hl 4 rfl) ?_
                              refine lv_dup hx hb dX9_unit_178 rfl ?_
                              refine h_geti (lo := 0) (hi := 30) hx hb hts iX9_unit_X9 hown hK hI g_y (by decide) rfl rfl 40 (by decide) rfl rfl (hts (.fieldLink RX9 321 "CatLeasesModel" "unitsInRule" "I") (List.mem_of_getElem? (i := 6) rfl)) (fun _ h9 => h9) dX9_unit_179 (fun v315 e_v315 i_v315 => ?_)
                              have q316 : v126 = v315 := ((e_v126).trans (u2_st (a := y) (k := 40) e_M314 (u2_a (so_ne g_y g_a20 (by decide)))).symm).trans e_v315.symm
                              subst q316
                              refine lv_iload_n hx hb dX9_unit_182 rfl (lv_at hl 3 rfl) ?_
                              refine lv_if_eq (tgt := 190) hx hb dX9_unit_183 (by decide) (fun c317 => ?_) (fun c317 => ?_)
                              · refine lv_iconst (v := 1) hx hb dX9_unit_190 (by decide) ?_
                                refine lv_iadd hx hb dX9_unit_191 ?_
                                refine h_nm (lo := 1) (hi := 30) (iv_add i128 kc_1 (by decide) (by decide) (by decide) (by decide)) (fun v318 e_v318 i_v318 => ?_)
                                refine h_puti hx hb hts iX9_unit_X9 tyX9 tyX9_ok nmX9 hown hK hI g_y (by decide) rfl rfl 40 (by decide) rfl (hts (.fieldLink RX9 321 "CatLeasesModel" "unitsInRule" "I") (List.mem_of_getElem? (i := 6) rfl)) (fun _ h9 => h9) rfl .int (by decide +kernel) rfl rfl (iv_w (lo' := 0) (hi' := 30) i_v318 (by decide) (by decide)) rfl dX9_unit_192 (fun M319 H locs e_M319 hI => ?_)
                                refine lv_iload hx hb dX9_unit_195 (lv_at hl 1 rfl) ?_
                                refine lv_if_ne (tgt := 207) hx hb dX9_unit_197 (by decide) (fun c320 => ?_) (fun c320 => ?_)
                                · exact iv_f (iv_neL (lo := 1) c320 i198 (by decide) (by decide)) (by decide)
                                · refine lv_aload_n hx hb dX9_unit_200 rfl (lv_at hl 4 rfl) ?_
                                  refine h_geti (lo := (-2147483648)) (hi := 2147483647) hx hb hts iX9_unit_X9 hown hK hI g_y (by decide) rfl rfl 9 (by decide) rfl rfl (hts (.fieldLink RX9 224 "CatLeasesModel" "number" "I") (List.mem_of_getElem? (i := 9) rfl)) (fun _ h9 => h9) dX9_unit_201 (fun v321 e_v321 i_v321 => ?_)
                                  refine lv_goto (tgt := 208) hx hb dX9_unit_204 (by decide) ?_
                                  refine lv_istore (lv' := [(6, .int v321), (5, .int (0 : Int32)), (4, .int r14), (3, .int r7), (2, .int (0 : Int32)), (0, .ref y)]) hx hb dX9_unit_208 hl (by decide) rfl (fun ls hl => ?_)
                                  refine lv_aload_n hx hb dX9_unit_210 rfl (lv_at hl 5 rfl) ?_
                                  have m322 : PI M319 y := (PI_ag hI.2.1 g_y (PI_ag hI.2.1 g_y m0_PI (hAd.put e_M314 g_a20 rfl)) (hAd.put e_M319 g_y rfl))
                                  have m323 : PN M M319 y := (PN_ag hI.2.1 g_y (PN_ag hI.2.1 g_y PN_rf (hAd.put e_M314 g_a20 rfl)) (hAd.put e_M319 g_y rfl))
                                  refine h_gov hI (by decide) (va_runV (As := []) (rest := []) ⟨hx, hb, hml, hown, hts⟩ (h_goOn_X9 l D g σ Z hZ0 M319 N R y g_y m322) (cwV 0 hts gX9_unit_X9_goOn rfl rfl rfl (by decide +kernel) ⟨Nat.le_of_ble_eq_true rfl, Nat.le_of_ble_eq_true rfl⟩) (h_preV hZ0 hK hE hI g_y (by decide) rfl) rfl rfl hl.1 rfl (lv_room (Nat.le_of_ble_eq_true rfl)) dX9_unit_211 ⟨Nat.le_of_ble_eq_true rfl, Nat.le_of_ble_eq_true rfl⟩) (fun M325 N326 R327 H locs q328 z_M325 hI => ?_)
                                  obtain ⟨rfl, z329, z330, z331⟩ := q328
                                  have ng9 : nu M325 y < nu M y := Int.lt_of_lt_of_le (GO_lt z331 (z_M325 y 9 3 g_y rfl) m322 (fun h9 => iv_ne i289 kc_0 (by decide) ((((e_v199).trans (u2_st (a := y) (k := 8) e_M314 (u2_a (so_ne g_y g_a20 (by decide)))).symm).trans (u2_st (a := y) (k := 8) e_M319 (u2_k (by decide))).symm).trans h9))) m323.2.2
                                  refine lv_iload_n hx hb dX9_unit_214 rfl (lv_at hl 4 rfl) ?_
                                  refine lv_if_ne (tgt := 222) hx hb dX9_unit_215 (by decide) (fun c332 => ?_) (fun c332 => ?_)
                                  · exact absurd rfl c332
                                  · refine lv_iload_n hx hb dX9_unit_218 rfl (lv_at hl 3 rfl) ?_
                                    refine lv_if_eq (tgt := 250) hx hb dX9_unit_219 (by decide) (fun c333 => ?_) (fun c333 => ?_)
                                    · exact absurd c333 (iv_ne i285 kc_0 (by decide))
                                    · obtain ⟨v334, e_v334⟩ : ∃ z : Int32, z = M325 y 8 := ⟨_, rfl⟩
                                      have i335 : iv v334 5 5 := by rw [e_v334, (z13 c333).1]; exact kc_5
                                      refine lv_aload_n hx hb dX9_unit_222 rfl (lv_at hl 5 rfl) ?_
                                      refine lv_iload_n hx hb dX9_unit_223 rfl (lv_at hl 4 rfl) ?_
                                      refine lv_if_eq (tgt := 231) hx hb dX9_unit_224 (by decide) (fun c336 => ?_) (fun c336 => ?_)
                                      · refine lv_bipush (v := 7) hx hb dX9_unit_231 (by decide) ?_
                                        refine lv_bipush (v := 126) hx hb dX9_unit_233 (by decide) ?_
                                        refine h_gov hI (by decide) (va_runV (As := [.int (7 : Int32), .int (126 : Int32)]) (rest := []) ⟨hx, hb, hml, hown, hts⟩ (h_pushE_X9 l D g σ Z hZ0 M325 N326 R y g_y (7 : Int32) (126 : Int32) (by rw [((z_M325 y 9 39 g_y rfl).trans ((u2_st (a := y) (k := 39) e_M319 (u2_k (by decide))).trans (u2_st (a := y) (k := 39) e_M314 (u2_a (so_ne g_y g_a20 (by decide))))))]; exact iv_w (EX1_p m0_EX1 rfl) (by decide) (by decide))) (cwV 2 hts gX9_unit_X9_pushE rfl rfl rfl (by decide +kernel) ⟨Nat.le_of_ble_eq_true rfl, Nat.le_of_ble_eq_true rfl⟩) (h_preV hZ0 hK hE hI g_y (by decide) rfl) rfl rfl hl.1 rfl (lv_room (Nat.le_of_ble_eq_true rfl)) dX9_unit_235 ⟨Nat.le_of_ble_eq_true rfl, Nat.le_of_ble_eq_true rfl⟩) (fun M338 N339 R340 H locs q341 z_M338 hI => ?_)
                                        obtain ⟨rfl, rfl, z342⟩ := q341
                                        refine lv_aload_n hx hb dX9_unit_238 rfl (lv_at hl 5 rfl) ?_
                                        refine lv_dup hx hb dX9_unit_239 rfl ?_
                                        refine h_geti (lo := (-2147483648)) (hi := 2147483647) hx hb hts iX9_unit_X9 hown hK hI g_y (by decide) rfl rfl 38 (by decide) rfl rfl (hts (.fieldLink RX9 330 "CatLeasesModel" "within" "I") (List.mem_of_getElem? (i := 8) rfl)) (fun _ h9 => h9) dX9_unit_240 (fun v343 e_v343 i_v343 => ?_)
                                        have q344 : v290 = v343 := (((((e_v290).trans (u2_st (a := y) (k := 38) e_M314 (u2_a (so_ne g_y g_a20 (by decide)))).symm).trans (u2_st (a := y) (k := 38) e_M319 (u2_k (by decide))).symm).trans (z_M325 y 9 38 g_y rfl).symm).trans (z_M338 y 9 38 g_y rfl).symm).trans e_v343.symm
                                        subst q344
                                        refine lv_iconst (v := 1) hx hb dX9_unit_243 (by decide) ?_
                                        refine lv_iadd hx hb dX9_unit_244 ?_
                                        refine h_nm (lo := 1) (hi := 7) (iv_add i293 kc_1 (by decide) (by decide) (by decide) (by decide)) (fun v345 e_v345 i_v345 => ?_)
                                        refine h_puti hx hb hts iX9_unit_X9 tyX9 tyX9_ok nmX9 hown hK hI g_y (by decide) rfl rfl 38 (by decide) rfl (hts (.fieldLink RX9 330 "CatLeasesModel" "within" "I") (List.mem_of_getElem? (i := 8) rfl)) (fun _ h9 => h9) rfl .int (by decide +kernel) rfl rfl (iv_w (lo' := (-2147483648)) (hi' := 2147483647) i_v345 (by decide) (by decide)) rfl dX9_unit_245 (fun M346 H locs e_M346 hI => ?_)
                                        refine lv_iconst (v := 1) hx hb dX9_unit_248 (by decide) ?_
                                        have m347 : PI M346 y := (PI_ag hI.2.1 g_y (PI_ag hI.2.1 g_y z329 (hAd.ag z_M338 (by decide))) (hAd.put e_M346 g_y rfl))
                                        have m348 : PN M M346 y := (PN_ag hI.2.1 g_y (PN_ag hI.2.1 g_y (PN_tr m323 z330) (hAd.ag z_M338 (by decide))) (hAd.put e_M346 g_y rfl))
                                        have m349 : PC M M346 R y := (PC_ag hI.2.1 g_y (PC_ag hI.2.1 g_y (PC_ag hI.2.1 g_y (PC_ag hI.2.1 g_y (PC_ag hI.2.1 g_y PC_rf (hAd.put e_M314 g_a20 rfl)) (hAd.put e_M319 g_y rfl)) (hAd.ag z_M325 (by decide))) (hAd.ag z_M338 (by decide))) (hAd.put e_M346 g_y rfl))
                                        exact h_iret hQ hx hb hr hlocks rfl hK hI ⟨rfl, (iv_w (lo' := 0) (hi' := 1) kc_1 (by decide) (by decide)), m347, m348, m349, (fun _ => ⟨fun h9 => absurd h9 (by decide), fun _ => (EX1_push (q := (7 : Int32)) (t := 1) m0_EX1 ((u2_st (a := y) (k := 36) e_M346 (u2_k (by decide))).trans ((z_M338 y 9 36 g_y rfl).trans ((z_M325 y 9 36 g_y rfl).trans ((u2_st (a := y) (k := 36) e_M319 (u2_k (by decide))).trans (u2_st (a := y) (k := 36) e_M314 (u2_a (so_ne g_y g_a20 (by decide)))))))) ((u2_st (a := y) (k := 37) e_M346 (u2_k (by decide))).trans ((z_M338 y 9 37 g_y rfl).trans ((z_M325 y 9 37 g_y rfl).trans ((u2_st (a := y) (k := 37) e_M319 (u2_k (by decide))).trans (u2_st (a := y) (k := 37) e_M314 (u2_a (so_ne g_y g_a20 (by decide)))))))) ((u2_row e_M346 (so_ne (hI.2.1.r1 g_y 30 130 (by decide) rfl) g_y (by decide))).trans ((hAg.row z_M338 (hI.2.1.r1 g_y 30 130 (by decide) rfl) (fun _ => rfl)).trans ((hAg.row z_M325 (hI.2.1.r1 g_y 30 130 (by decide) rfl) (fun _ => rfl)).trans ((u2_row e_M319 (so_ne (hI.2.1.r1 g_y 30 130 (by decide) rfl) g_y (by decide))).trans (u2_row e_M314 (so_ne (hI.2.1.r1 g_y 30 130 (by decide) rfl) g_a20 (by decide))))))) (by rw [← ((u2_wr e_M346)), ← (e_v290)]; exact (h_inc e_v345 i293 kc_1 (by decide) (by decide))) (by rw [← (((((u2_wr e_M319)).trans (z_M325 y 9 40 g_y rfl).symm).trans (z_M338 y 9 40 g_y rfl).symm).trans (u2_st (a := y) (k := 40) e_M346 (u2_k (by decide))).symm), ← (e_v126)]; exact (h_inc e_v318 i128 kc_1 (by decide) (by decide))) (by rw [(u2_st (a := y) (k := 39) e_M346 (u2_k (by decide))), z342.1, ((z_M325 y 9 39 g_y rfl).trans ((u2_st (a := y) (k := 39) e_M319 (u2_k (by decide))).trans (u2_st (a := y) (k := 39) e_M314 (u2_a (so_ne g_y g_a20 (by decide))))))]) (fun j => by rw [(u2_row e_M346 (so_ne (hI.2.1.r1 g_y 32 132 (by decide) rfl) g_y (by decide))), z342.2.1 j, ((hAg.row z_M325 (hI.2.1.r1 g_y 32 132 (by decide) rfl) (fun _ => rfl)).trans ((u2_row e_M319 (so_ne (hI.2.1.r1 g_y 32 132 (by decide) rfl) g_y (by decide))).trans (u2_row e_M314 (so_ne (hI.2.1.r1 g_y 32 132 (by decide) rfl) g_a20 (by decide))))), ((z_M325 y 9 39 g_y rfl).trans ((u2_st (a := y) (k := 39) e_M319 (u2_k (by decide))).trans (u2_st (a := y) (k := 39) e_M314 (u2_a (so_ne g_y g_a20 (by decide))))))]) (fun j => by rw [(u2_row e_M346 (so_ne (hI.2.1.r1 g_y 33 133 (by decide) rfl) g_y (by decide))), z342.2.2 j, ((hAg.row z_M325 (hI.2.1.r1 g_y 33 133 (by decide) rfl) (fun _ => rfl)).trans ((u2_row e_M319 (so_ne (hI.2.1.r1 g_y 33 133 (by decide) rfl) g_y (by decide))).trans (u2_row e_M314 (so_ne (hI.2.1.r1 g_y 33 133 (by decide) rfl) g_a20 (by decide))))), ((z_M325 y 9 39 g_y rfl).trans ((u2_st (a := y) (k := 39) e_M319 (u2_k (by decide))).trans (u2_st (a := y) (k := 39) e_M314 (u2_a (so_ne g_y g_a20 (by decide))))))]) (Or.inr ⟨rfl, rfl⟩) (by have h9 := i293; rw [← (e_v290)]; simp only [iv] at h9; omega) (by have h9 := i128; rw [← (e_v126)]; simp only [iv] at h9; omega))⟩), (gm_lt hg9 m0_PI i39 (fun _ => by have h9 := nu_eq (M1 := M346) (M := M325) (y := y) ((u2_st (a := y) (k := 3) e_M346 (u2_k (by decide))).trans (z_M338 y 9 3 g_y rfl)) ((u2_st (a := y) (k := 7) e_M346 (u2_k (by decide))).trans (z_M338 y 9 7 g_y rfl)) ((u2_st (a := y) (k := 8) e_M346 (u2_k (by decide))).trans (z_M338 y 9 8 g_y rfl)); have h8 := ng9; have h7 := (by rw [(u2_st (a := y) (k := 39) e_M346 (u2_k (by decide))), z342.1, ((z_M325 y 9 39 g_y rfl).trans ((u2_st (a := y) (k := 39) e_M319 (u2_k (by decide))).trans (u2_st (a := y) (k := 39) e_M314 (u2_a (so_ne g_y g_a20 (by decide))))))] : (M346 y 39).toInt = (M y 39).toInt + 1); omega))⟩ dX9_unit_249
                                      · exact absurd rfl c336
                              · exact absurd rfl c317
                            · exact absurd rfl c312
                          · obtain ⟨v350, e_v350⟩ : ∃ z : Int32, z = M y 4 := ⟨_, rfl⟩
                            have i_v350 : iv v350 0 5 := by rw [e_v350]; exact hI.iv1 (n := 67) g_y rfl (by decide) rfl
                            have i351 : iv v350 1 5 := iv_neL (fun h9 => z300 c301 (e_v350.symm.trans h9)) i_v350 (by decide) (by decide)
                            have i352 : iv r294 0 0 := iv_eq1 c301 i_r294 kc_0
                            refine lv_iconst (v := 1) hx hb dX9_unit_154 (by decide) ?_
                            exact h_iret hQ hx hb hr hlocks rfl hK hI ⟨rfl, (iv_w (lo' := 0) (hi' := 1) kc_1 (by decide) (by decide)), m0_PI, PN_rf, PC_rf, (fun h9 => gd_no (e_v350) i351 h9), (gm_lt hg9 m0_PI i39 (fun h9 => gd_no (e_v350) i351 h9))⟩ dX9_unit_155
                        · have i353 : iv v290 7 7 := iv_eq1 c292 i291 kc_7
                          refine lv_aload_n hx hb dX9_unit_143 rfl (lv_at hl 4 rfl) ?_
                          refine h_gov hI (by decide) (va_runV (As := []) (rest := []) ⟨hx, hb, hml, hown, hts⟩ (h_misplaced_X9 l D g σ Z hZ0 M N R y g_y m0_PI) (cwV 0 hts gX9_unit_X9_misplaced rfl rfl rfl (by decide +kernel) ⟨Nat.le_of_ble_eq_true rfl, Nat.le_of_ble_eq_true rfl⟩) (h_preV hZ0 hK hE hI g_y (by decide) rfl) rfl rfl hl.1 rfl (lv_room (Nat.le_of_ble_eq_true rfl)) dX9_unit_144 ⟨Nat.le_of_ble_eq_true rfl, Nat.le_of_ble_eq_true rfl⟩) (fun M355 N356 R357 H locs q358 z_M355 hI => ?_)
                          obtain ⟨rfl, rfl, m359, m360, z361⟩ := q358
                          obtain ⟨v362, e_v362⟩ : ∃ z : Int32, z = M355 y 4 := ⟨_, rfl⟩
                          have i_v362 : iv v362 1 5 := by rw [e_v362]; exact z361
                          refine lv_aload_n hx hb dX9_unit_147 rfl (lv_at hl 4 rfl) ?_
                          refine h_goi hI (by decide) (va_runV (As := []) (rest := []) ⟨hx, hb, hml, hown, hts⟩ (h_isGood_X9 l D g σ Z hZ0 M355 N R y g_y) (cwV 0 hts gX9_unit_X9_isGood rfl rfl rfl (by decide +kernel) ⟨Nat.le_of_ble_eq_true rfl, Nat.le_of_ble_eq_true rfl⟩) (h_preV hZ0 hK hE hI g_y (by decide) rfl) rfl rfl hl.1 rfl (lv_room (Nat.le_of_ble_eq_true rfl)) dX9_unit_148 ⟨Nat.le_of_ble_eq_true rfl, Nat.le_of_ble_eq_true rfl⟩) (fun r363 M364 N365 R366 H locs q367 z_M364 hI => ?_)
                          obtain ⟨rfl, rfl, rfl, i_r363, z368, z369⟩ := q367
                          refine lv_if_ne (tgt := 156) hx hb dX9_unit_151 (by decide) (fun c370 => ?_) (fun c370 => ?_)
                          · exact absurd ((e_v362).trans (z368 c370)) (iv_ne i_v362 kc_0 (by decide))
                          · have i371 : iv v362 1 5 := iv_neL (fun h9 => z369 c370 ((e_v362).symm.trans h9)) i_v362 (by decide) (by decide)
                            have i372 : iv r363 0 0 := iv_eq1 c370 i_r363 kc_0
                            refine lv_iconst (v := 1) hx hb dX9_unit_154 (by decide) ?_
                            have m373 : PN M M355 y := (PN_tr PN_rf m360)
                            have m374 : PC M M355 R y := (PC_ag hI.2.1 g_y PC_rf (hAd.ag z_M355 (by decide)))
                            exact h_iret hQ hx hb hr hlocks rfl hK hI ⟨rfl, (iv_w (lo' := 0) (hi' := 1) kc_1 (by decide) (by decide)), m359, m373, m374, (fun h9 => gd_no (e_v362) i371 h9), (gm_lt hg9 m0_PI i39 (fun h9 => gd_no (e_v362) i371 h9))⟩ dX9_unit_155
        · have i375 : iv v126 30 30 := iv_eq1 c127 i_v126 kc_30
          refine lv_iconst (v := 1) hx hb dX9_unit_93 (by decide) ?_
          refine lv_goto (tgt := 98) hx hb dX9_unit_94 (by decide) ?_
          refine lv_istore (lv' := [(5, .int (1 : Int32)), (4, .int r14), (3, .int r7), (2, .int (0 : Int32)), (0, .ref y)]) hx hb dX9_unit_98 hl (by decide) rfl (fun ls hl => ?_)
          refine lv_iload_n hx hb dX9_unit_100 rfl (lv_at hl 3 rfl) ?_
          refine lv_if_ne (tgt := 126) hx hb dX9_unit_101 (by decide) (fun c376 => ?_) (fun c376 => ?_)
          · exact absurd rfl c376
          · refine lv_iload hx hb dX9_unit_104 (lv_at hl 1 rfl) ?_
            refine lv_if_ne (tgt := 121) hx hb dX9_unit_106 (by decide) (fun c377 => ?_) (fun c377 => ?_)
            · have i378 := z19 c377
              obtain ⟨v379, e_v379⟩ : ∃ z : Int32, z = M y 8 := ⟨_, rfl⟩
              have i380 : iv v379 3 3 := by rw [e_v379, i378.2]; exact kc_3
              have i381 : iv r14 1 119 := iv_neL c377 i_r14 (by decide) (by decide)
              refine lv_iload hx hb dX9_unit_121 (lv_at hl 0 rfl) ?_
              refine lv_if_ne (tgt := 143) hx hb dX9_unit_123 (by decide) (fun c382 => ?_) (fun c382 => ?_)
              · refine lv_aload_n hx hb dX9_unit_143 rfl (lv_at hl 4 rfl) ?_
                refine h_gov hI (by decide) (va_runV (As := []) (rest := []) ⟨hx, hb, hml, hown, hts⟩ (h_misplaced_X9 l D g σ Z hZ0 M N R y g_y m0_PI) (cwV 0 hts gX9_unit_X9_misplaced rfl rfl rfl (by decide +kernel) ⟨Nat.le_of_ble_eq_true rfl, Nat.le_of_ble_eq_true rfl⟩) (h_preV hZ0 hK hE hI g_y (by decide) rfl) rfl rfl hl.1 rfl (lv_room (Nat.le_of_ble_eq_true rfl)) dX9_unit_144 ⟨Nat.le_of_ble_eq_true rfl, Nat.le_of_ble_eq_true rfl⟩) (fun M384 N385 R386 H locs q387 z_M384 hI => ?_)
                obtain ⟨rfl, rfl, m388, m389, z390⟩ := q387
                obtain ⟨v391, e_v391⟩ : ∃ z : Int32, z = M384 y 4 := ⟨_, rfl⟩
                have i_v391 : iv v391 1 5 := by rw [e_v391]; exact z390
                refine lv_aload_n hx hb dX9_unit_147 rfl (lv_at hl 4 rfl) ?_
                refine h_goi hI (by decide) (va_runV (As := []) (rest := []) ⟨hx, hb, hml, hown, hts⟩ (h_isGood_X9 l D g σ Z hZ0 M384 N R y g_y) (cwV 0 hts gX9_unit_X9_isGood rfl rfl rfl (by decide +kernel) ⟨Nat.le_of_ble_eq_true rfl, Nat.le_of_ble_eq_true rfl⟩) (h_preV hZ0 hK hE hI g_y (by decide) rfl) rfl rfl hl.1 rfl (lv_room (Nat.le_of_ble_eq_true rfl)) dX9_unit_148 ⟨Nat.le_of_ble_eq_true rfl, Nat.le_of_ble_eq_true rfl⟩) (fun r392 M393 N394 R395 H locs q396 z_M393 hI => ?_)
                obtain ⟨rfl, rfl, rfl, i_r392, z397, z398⟩ := q396
                refine lv_if_ne (tgt := 156) hx hb dX9_unit_151 (by decide) (fun c399 => ?_) (fun c399 => ?_)
                · exact absurd ((e_v391).trans (z397 c399)) (iv_ne i_v391 kc_0 (by decide))
                · have i400 : iv v391 1 5 := iv_neL (fun h9 => z398 c399 ((e_v391).symm.trans h9)) i_v391 (by decide) (by decide)
                  have i401 : iv r392 0 0 := iv_eq1 c399 i_r392 kc_0
                  refine lv_iconst (v := 1) hx hb dX9_unit_154 (by decide) ?_
                  have m402 : PN M M384 y := (PN_tr PN_rf m389)
                  have m403 : PC M M384 R y := (PC_ag hI.2.1 g_y PC_rf (hAd.ag z_M384 (by decide)))
                  exact h_iret hQ hx hb hr hlocks rfl hK hI ⟨rfl, (iv_w (lo' := 0) (hi' := 1) kc_1 (by decide) (by decide)), m388, m402, m403, (fun h9 => gd_no (e_v391) i400 h9), (gm_lt hg9 m0_PI i39 (fun h9 => gd_no (e_v391) i400 h9))⟩ dX9_unit_155
              · exact absurd c382 (iv_ne kc_1 kc_0 (by decide))
            · have i404 : iv r14 0 0 := iv_eq1 c377 i_r14 kc_0
              refine lv_aload_n hx hb dX9_unit_109 rfl (lv_at hl 4 rfl) ?_
              refine h_geti (lo := (-2147483648)) (hi := 2147483647) hx hb hts iX9_unit_X9 hown hK hI g_y (by decide) rfl rfl 8 (by decide) rfl rfl (hts (.fieldLink RX9 206 "CatLeasesModel" "token" "I") (List.mem_of_getElem? (i := 7) rfl)) (fun _ h9 => h9) dX9_unit_110 (fun v405 e_v405 i_v405 => ?_)
              refine lv_iconst (v := 4) hx hb dX9_unit_113 (by decide) ?_
              refine lv_icmp_eq (tgt := 121) hx hb dX9_unit_114 (by decide) (fun c406 => ?_) (fun c406 => ?_)
              · have i407 : iv v405 4 4 := iv_eq1 c406 i_v405 kc_4
                refine lv_iload hx hb dX9_unit_121 (lv_at hl 0 rfl) ?_
                refine lv_if_ne (tgt := 143) hx hb dX9_unit_123 (by decide) (fun c408 => ?_) (fun c408 => ?_)
                · refine lv_aload_n hx hb dX9_unit_143 rfl (lv_at hl 4 rfl) ?_
                  refine h_gov hI (by decide) (va_runV (As := []) (rest := []) ⟨hx, hb, hml, hown, hts⟩ (h_misplaced_X9 l D g σ Z hZ0 M N R y g_y m0_PI) (cwV 0 hts gX9_unit_X9_misplaced rfl rfl rfl (by decide +kernel) ⟨Nat.le_of_ble_eq_true rfl, Nat.le_of_ble_eq_true rfl⟩) (h_preV hZ0 hK hE hI g_y (by decide) rfl) rfl rfl hl.1 rfl (lv_room (Nat.le_of_ble_eq_true rfl)) dX9_unit_144 ⟨Nat.le_of_ble_eq_true rfl, Nat.le_of_ble_eq_true rfl⟩) (fun M410 N411 R412 H locs q413 z_M410 hI => ?_)
                  obtain ⟨rfl, rfl, m414, m415, z416⟩ := q413
                  obtain ⟨v417, e_v417⟩ : ∃ z : Int32, z = M410 y 4 := ⟨_, rfl⟩
                  have i_v417 : iv v417 1 5 := by rw [e_v417]; exact z416
                  refine lv_aload_n hx hb dX9_unit_147 rfl (lv_at hl 4 rfl) ?_
                  refine h_goi hI (by decide) (va_runV (As := []) (rest := []) ⟨hx, hb, hml, hown, hts⟩ (h_isGood_X9 l D g σ Z hZ0 M410 N R y g_y) (cwV 0 hts gX9_unit_X9_isGood rfl rfl rfl (by decide +kernel) ⟨Nat.le_of_ble_eq_true rfl, Nat.le_of_ble_eq_true rfl⟩) (h_preV hZ0 hK hE hI g_y (by decide) rfl) rfl rfl hl.1 rfl (lv_room (Nat.le_of_ble_eq_true rfl)) dX9_unit_148 ⟨Nat.le_of_ble_eq_true rfl, Nat.le_of_ble_eq_true rfl⟩) (fun r418 M419 N420 R421 H locs q422 z_M419 hI => ?_)
                  obtain ⟨rfl, rfl, rfl, i_r418, z423, z424⟩ := q422
                  refine lv_if_ne (tgt := 156) hx hb dX9_unit_151 (by decide) (fun c425 => ?_) (fun c425 => ?_)
                  · exact absurd ((e_v417).trans (z423 c425)) (iv_ne i_v417 kc_0 (by decide))
                  · have i426 : iv v417 1 5 := iv_neL (fun h9 => z424 c425 ((e_v417).symm.trans h9)) i_v417 (by decide) (by decide)
                    have i427 : iv r418 0 0 := iv_eq1 c425 i_r418 kc_0
                    refine lv_iconst (v := 1) hx hb dX9_unit_154 (by decide) ?_
                    have m428 : PN M M410 y := (PN_tr PN_rf m415)
                    have m429 : PC M M410 R y := (PC_ag hI.2.1 g_y PC_rf (hAd.ag z_M410 (by decide)))
                    exact h_iret hQ hx hb hr hlocks rfl hK hI ⟨rfl, (iv_w (lo' := 0) (hi' := 1) kc_1 (by decide) (by decide)), m414, m428, m429, (fun h9 => gd_no (e_v417) i426 h9), (gm_lt hg9 m0_PI i39 (fun h9 => gd_no (e_v417) i426 h9))⟩ dX9_unit_155
                · exact absurd c408 (iv_ne kc_1 kc_0 (by decide))
              · refine lv_iload_n hx hb dX9_unit_117 rfl (lv_at hl 2 rfl) ?_
                refine lv_if_eq (tgt := 143) hx hb dX9_unit_118 (by decide) (fun c430 => ?_) (fun c430 => ?_)
                · have i431 : iv r7 0 0 := iv_eq1 c430 i_r7 kc_0
                  refine lv_aload_n hx hb dX9_unit_143 rfl (lv_at hl 4 rfl) ?_
                  refine h_gov hI (by decide) (va_runV (As := []) (rest := []) ⟨hx, hb, hml, hown, hts⟩ (h_misplaced_X9 l D g σ Z hZ0 M N R y g_y m0_PI) (cwV 0 hts gX9_unit_X9_misplaced rfl rfl rfl (by decide +kernel) ⟨Nat.le_of_ble_eq_true rfl, Nat.le_of_ble_eq_true rfl⟩) (h_preV hZ0 hK hE hI g_y (by decide) rfl) rfl rfl hl.1 rfl (lv_room (Nat.le_of_ble_eq_true rfl)) dX9_unit_144 ⟨Nat.le_of_ble_eq_true rfl, Nat.le_of_ble_eq_true rfl⟩) (fun M433 N434 R435 H locs q436 z_M433 hI => ?_)
                  obtain ⟨rfl, rfl, m437, m438, z439⟩ := q436
                  obtain ⟨v440, e_v440⟩ : ∃ z : Int32, z = M433 y 4 := ⟨_, rfl⟩
                  have i_v440 : iv v440 1 5 := by rw [e_v440]; exact z439
                  refine lv_aload_n hx hb dX9_unit_147 rfl (lv_at hl 4 rfl) ?_
                  refine h_goi hI (by decide) (va_runV (As := []) (rest := []) ⟨hx, hb, hml, hown, hts⟩ (h_isGood_X9 l D g σ Z hZ0 M433 N R y g_y) (cwV 0 hts gX9_unit_X9_isGood rfl rfl rfl (by decide +kernel) ⟨Nat.le_of_ble_eq_true rfl, Nat.le_of_ble_eq_true rfl⟩) (h_preV hZ0 hK hE hI g_y (by decide) rfl) rfl rfl hl.1 rfl (lv_room (Nat.le_of_ble_eq_true rfl)) dX9_unit_148 ⟨Nat.le_of_ble_eq_true rfl, Nat.le_of_ble_eq_true rfl⟩) (fun r441 M442 N443 R444 H locs q445 z_M442 hI => ?_)
                  obtain ⟨rfl, rfl, rfl, i_r441, z446, z447⟩ := q445
                  refine lv_if_ne (tgt := 156) hx hb dX9_unit_151 (by decide) (fun c448 => ?_) (fun c448 => ?_)
                  · exact absurd ((e_v440).trans (z446 c448)) (iv_ne i_v440 kc_0 (by decide))
                  · have i449 : iv v440 1 5 := iv_neL (fun h9 => z447 c448 ((e_v440).symm.trans h9)) i_v440 (by decide) (by decide)
                    have i450 : iv r441 0 0 := iv_eq1 c448 i_r441 kc_0
                    refine lv_iconst (v := 1) hx hb dX9_unit_154 (by decide) ?_
                    have m451 : PN M M433 y := (PN_tr PN_rf m438)
                    have m452 : PC M M433 R y := (PC_ag hI.2.1 g_y PC_rf (hAd.ag z_M433 (by decide)))
                    exact h_iret hQ hx hb hr hlocks rfl hK hI ⟨rfl, (iv_w (lo' := 0) (hi' := 1) kc_1 (by decide) (by decide)), m437, m451, m452, (fun h9 => gd_no (e_v440) i449 h9), (gm_lt hg9 m0_PI i39 (fun h9 => gd_no (e_v440) i449 h9))⟩ dX9_unit_155
                · have i453 : iv v405 5 5 := by rw [(e_v405), (z13 c430).1]; exact kc_5
                  have i454 : iv r7 1 1 := iv_neL c430 i_r7 (by decide) (by decide)
                  refine lv_iload hx hb dX9_unit_121 (lv_at hl 0 rfl) ?_
                  refine lv_if_ne (tgt := 143) hx hb dX9_unit_123 (by decide) (fun c455 => ?_) (fun c455 => ?_)
                  · refine lv_aload_n hx hb dX9_unit_143 rfl (lv_at hl 4 rfl) ?_
                    refine h_gov hI (by decide) (va_runV (As := []) (rest := []) ⟨hx, hb, hml, hown, hts⟩ (h_misplaced_X9 l D g σ Z hZ0 M N R y g_y m0_PI) (cwV 0 hts gX9_unit_X9_misplaced rfl rfl rfl (by decide +kernel) ⟨Nat.le_of_ble_eq_true rfl, Nat.le_of_ble_eq_true rfl⟩) (h_preV hZ0 hK hE hI g_y (by decide) rfl) rfl rfl hl.1 rfl (lv_room (Nat.le_of_ble_eq_true rfl)) dX9_unit_144 ⟨Nat.le_of_ble_eq_true rfl, Nat.le_of_ble_eq_true rfl⟩) (fun M457 N458 R459 H locs q460 z_M457 hI => ?_)
                    obtain ⟨rfl, rfl, m461, m462, z463⟩ := q460
                    obtain ⟨v464, e_v464⟩ : ∃ z : Int32, z = M457 y 4 := ⟨_, rfl⟩
                    have i_v464 : iv v464 1 5 := by rw [e_v464]; exact z463
                    refine lv_aload_n hx hb dX9_unit_147 rfl (lv_at hl 4 rfl) ?_
                    refine h_goi hI (by decide) (va_runV (As := []) (rest := []) ⟨hx, hb, hml, hown, hts⟩ (h_isGood_X9 l D g σ Z hZ0 M457 N R y g_y) (cwV 0 hts gX9_unit_X9_isGood rfl rfl rfl (by decide +kernel) ⟨Nat.le_of_ble_eq_true rfl, Nat.le_of_ble_eq_true rfl⟩) (h_preV hZ0 hK hE hI g_y (by decide) rfl) rfl rfl hl.1 rfl (lv_room (Nat.le_of_ble_eq_true rfl)) dX9_unit_148 ⟨Nat.le_of_ble_eq_true rfl, Nat.le_of_ble_eq_true rfl⟩) (fun r465 M466 N467 R468 H locs q469 z_M466 hI => ?_)
                    obtain ⟨rfl, rfl, rfl, i_r465, z470, z471⟩ := q469
                    refine lv_if_ne (tgt := 156) hx hb dX9_unit_151 (by decide) (fun c472 => ?_) (fun c472 => ?_)
                    · exact absurd ((e_v464).trans (z470 c472)) (iv_ne i_v464 kc_0 (by decide))
                    · have i473 : iv v464 1 5 := iv_neL (fun h9 => z471 c472 ((e_v464).symm.trans h9)) i_v464 (by decide) (by decide)
                      have i474 : iv r465 0 0 := iv_eq1 c472 i_r465 kc_0
                      refine lv_iconst (v := 1) hx hb dX9_unit_154 (by decide) ?_
                      have m475 : PN M M457 y := (PN_tr PN_rf m462)
                      have m476 : PC M M457 R y := (PC_ag hI.2.1 g_y PC_rf (hAd.ag z_M457 (by decide)))
                      exact h_iret hQ hx hb hr hlocks rfl hK hI ⟨rfl, (iv_w (lo' := 0) (hi' := 1) kc_1 (by decide) (by decide)), m461, m475, m476, (fun h9 => gd_no (e_v464) i473 h9), (gm_lt hg9 m0_PI i39 (fun h9 => gd_no (e_v464) i473 h9))⟩ dX9_unit_155
                  · exact absurd c455 (iv_ne kc_1 kc_0 (by decide))
    refine lv_if_eq (tgt := 55) hx hb dX9_unit_38 (by decide) (fun c477 => ?_) (fun c477 => ?_)
    · have i478 : iv t0_36 0 0 := iv_eq1 c477 i_t0_36 kc_0
      exact J55 H locs ls hI (lv_sub hl [1] rfl)
    · have i479 : iv t0_36 1 1 := iv_neL c477 i_t0_36 (by decide) (by decide)
      refine lv_aload_n hx hb dX9_unit_41 rfl (lv_at hl 1 rfl) ?_
      refine lv_ldc2 (v := 7237492) hx hb hown (hts (.constantLong RX9 194 (7237492)) (List.mem_of_getElem? (i := 3) rfl)) dX9_unit_42 ?_
      refine h_goi hI (by decide) (va_runV (As := [.long (7237492 : Int64)]) (rest := []) ⟨hx, hb, hml, hown, hts⟩ (h_isWord_X9 l D g σ Z hZ0 M N R y g_y (7237492 : Int64)) (cwV 1 hts gX9_unit_X9_isWord rfl rfl rfl (by decide +kernel) ⟨Nat.le_of_ble_eq_true rfl, Nat.le_of_ble_eq_true rfl⟩) (h_preV hZ0 hK hE hI g_y (by decide) rfl) rfl rfl hl.1 rfl (lv_room (Nat.le_of_ble_eq_true rfl)) dX9_unit_45 ⟨Nat.le_of_ble_eq_true rfl, Nat.le_of_ble_eq_true rfl⟩) (fun r480 M481 N482 R483 H locs q484 z_M481 hI => ?_)
      obtain ⟨rfl, rfl, rfl, i_r480, z485, z486⟩ := q484
      refine lv_if_eq (tgt := 55) hx hb dX9_unit_48 (by decide) (fun c487 => ?_) (fun c487 => ?_)
      · have i488 : iv r480 0 0 := iv_eq1 c487 i_r480 kc_0
        exact J55 H locs ls hI (lv_sub hl [1] rfl)
      · obtain ⟨v489, e_v489⟩ : ∃ z : Int32, z = M y 8 := ⟨_, rfl⟩
        have i490 : iv v489 3 3 := by rw [e_v489, (z485 c487).1]; exact kc_3
        have i491 : iv r480 1 1 := iv_neL c487 i_r480 (by decide) (by decide)
        refine lv_iconst (v := 1) hx hb dX9_unit_51 (by decide) ?_
        refine lv_goto (tgt := 56) hx hb dX9_unit_52 (by decide) ?_
        refine lv_istore_n (lv' := [(2, .int (1 : Int32)), (1, .int t0_36), (0, .ref y)]) hx hb dX9_unit_56 rfl hl (by decide) rfl (fun ls hl => ?_)
        refine lv_aload_n hx hb dX9_unit_57 rfl (lv_at hl 2 rfl) ?_
        refine lv_bipush (v := 40) hx hb dX9_unit_58 (by decide) ?_
        refine h_goi hI (by decide) (va_runV (As := [.int (40 : Int32)]) (rest := []) ⟨hx, hb, hml, hown, hts⟩ (h_isSignHere_X9 l D g σ Z hZ0 M N R y g_y (40 : Int32)) (cwV 1 hts gX9_unit_X9_isSignHere rfl rfl rfl (by decide +kernel) ⟨Nat.le_of_ble_eq_true rfl, Nat.le_of_ble_eq_true rfl⟩) (h_preV hZ0 hK hE hI g_y (by decide) rfl) rfl rfl hl.1 rfl (lv_room (Nat.le_of_ble_eq_true rfl)) dX9_unit_60 ⟨Nat.le_of_ble_eq_true rfl, Nat.le_of_ble_eq_true rfl⟩) (fun r492 M493 N494 R495 H locs q496 z_M493 hI => ?_)
        obtain ⟨rfl, rfl, rfl, i_r492, z497, z498⟩ := q496
        refine lv_istore_n (lv' := [(3, .int r492), (2, .int (1 : Int32)), (1, .int t0_36), (0, .ref y)]) hx hb dX9_unit_63 rfl hl (by decide) rfl (fun ls hl => ?_)
        refine lv_aload_n hx hb dX9_unit_64 rfl (lv_at hl 3 rfl) ?_
        refine h_goi hI (by decide) (va_runV (As := []) (rest := []) ⟨hx, hb, hml, hown, hts⟩ (h_wordHere_X9 l D g σ Z hZ0 M N R y g_y) (cwV 0 hts gX9_unit_X9_wordHere rfl rfl rfl (by decide +kernel) ⟨Nat.le_of_ble_eq_true rfl, Nat.le_of_ble_eq_true rfl⟩) (h_preV hZ0 hK hE hI g_y (by decide) rfl) rfl rfl hl.1 rfl (lv_room (Nat.le_of_ble_eq_true rfl)) dX9_unit_65 ⟨Nat.le_of_ble_eq_true rfl, Nat.le_of_ble_eq_true rfl⟩) (fun r499 M500 N501 R502 H locs q503 z_M500 hI => ?_)
        obtain ⟨rfl, rfl, rfl, i_r499, z504⟩ := q503
        refine lv_istore (lv' := [(4, .int r499), (3, .int r492), (2, .int (1 : Int32)), (1, .int t0_36), (0, .ref y)]) hx hb dX9_unit_68 hl (by decide) rfl (fun ls hl => ?_)
        refine lv_aload_n hx hb dX9_unit_70 rfl (lv_at hl 4 rfl) ?_
        refine h_getr hx hb hts iX9_unit_X9 hown hK hI g_y (by decide) rfl rfl 14 (by decide) rfl 114 rfl (hts (.fieldLink RX9 30 "CatLeasesModel" "units" "[I") (List.mem_of_getElem? (i := 4) rfl)) (fun _ h9 => h9) dX9_unit_71 (fun a505 e_a505 g_a505 => ?_)
        refine lv_aload_n hx hb dX9_unit_74 rfl (lv_at hl 4 rfl) ?_
        refine h_geti (lo := 0) (hi := 1) hx hb hts iX9_unit_X9 hown hK hI g_y (by decide) rfl rfl 36 (by decide) rfl rfl (hts (.fieldLink RX9 259 "CatLeasesModel" "rb" "I") (List.mem_of_getElem? (i := 5) rfl)) (fun _ h9 => h9) dX9_unit_75 (fun v506 e_v506 i_v506 => ?_)
        refine h_iald (j := v506.toNatClampNeg) (lo := (-2147483648)) (hi := 2147483647) hx hb hK hI g_a505 (by decide) rfl (iv_in (n := 2) i_v506 (by decide) (by decide)) rfl (iv_any _) dX9_unit_78 (fun v507 e_v507 i_v507 => ?_)
        refine lv_bipush (v := 60) hx hb dX9_unit_79 (by decide) ?_
        refine lv_icmp_eq (tgt := 93) hx hb dX9_unit_81 (by decide) (fun c508 => ?_) (fun c508 => ?_)
        · have i509 : iv v507 60 60 := iv_eq1 c508 i_v507 kc_60
          refine lv_iconst (v := 1) hx hb dX9_unit_93 (by decide) ?_
          refine lv_goto (tgt := 98) hx hb dX9_unit_94 (by decide) ?_
          refine lv_istore (lv' := [(5, .int (1 : Int32)), (4, .int r499), (3, .int r492), (2, .int (1 : Int32)), (1, .int t0_36), (0, .ref y)]) hx hb dX9_unit_98 hl (by decide) rfl (fun ls hl => ?_)
          refine lv_iload_n hx hb dX9_unit_100 rfl (lv_at hl 3 rfl) ?_
          refine lv_if_ne (tgt := 126) hx hb dX9_unit_101 (by decide) (fun c510 => ?_) (fun c510 => ?_)
          · refine lv_iload_n hx hb dX9_unit_126 rfl (lv_at hl 3 rfl) ?_
            refine lv_if_ne (tgt := 134) hx hb dX9_unit_127 (by decide) (fun c511 => ?_) (fun c511 => ?_)
            · refine lv_aload_n hx hb dX9_unit_134 rfl (lv_at hl 5 rfl) ?_
              refine h_geti (lo := (-2147483648)) (hi := 2147483647) hx hb hts iX9_unit_X9 hown hK hI g_y (by decide) rfl rfl 38 (by decide) rfl rfl (hts (.fieldLink RX9 330 "CatLeasesModel" "within" "I") (List.mem_of_getElem? (i := 8) rfl)) (fun _ h9 => h9) dX9_unit_135 (fun v512 e_v512 i_v512 => ?_)
              have i513 : iv v512 0 7 := EX1_w m0_EX1 e_v512
              refine lv_bipush (v := 7) hx hb dX9_unit_138 (by decide) ?_
              refine lv_icmp_ne (tgt := 147) hx hb dX9_unit_140 (by decide) (fun c514 => ?_) (fun c514 => ?_)
              · have i515 : iv v512 0 6 := iv_neH c514 i513 (by decide) (by decide)
                refine lv_aload_n hx hb dX9_unit_147 rfl (lv_at hl 5 rfl) ?_
                refine h_goi hI (by decide) (va_runV (As := []) (rest := []) ⟨hx, hb, hml, hown, hts⟩ (h_isGood_X9 l D g σ Z hZ0 M N R y g_y) (cwV 0 hts gX9_unit_X9_isGood rfl rfl rfl (by decide +kernel) ⟨Nat.le_of_ble_eq_true rfl, Nat.le_of_ble_eq_true rfl⟩) (h_preV hZ0 hK hE hI g_y (by decide) rfl) rfl rfl hl.1 rfl (lv_room (Nat.le_of_ble_eq_true rfl)) dX9_unit_148 ⟨Nat.le_of_ble_eq_true rfl, Nat.le_of_ble_eq_true rfl⟩) (fun r516 M517 N518 R519 H locs q520 z_M517 hI => ?_)
                obtain ⟨rfl, rfl, rfl, i_r516, z521, z522⟩ := q520
                refine lv_if_ne (tgt := 156) hx hb dX9_unit_151 (by decide) (fun c523 => ?_) (fun c523 => ?_)
                · obtain ⟨v524, e_v524⟩ : ∃ z : Int32, z = M y 4 := ⟨_, rfl⟩
                  have i_v524 : iv v524 0 5 := by rw [e_v524]; exact hI.iv1 (n := 67) g_y rfl (by decide) rfl
                  have i525 : iv v524 0 0 := by rw [e_v524, z521 c523]; exact kc_0
                  have i526 : iv r516 1 1 := iv_neL c523 i_r516 (by decide) (by decide)
                  obtain ⟨v527, e_v527⟩ : ∃ z : Int32, z = M y 37 := ⟨_, rfl⟩
                  have i_v527 : iv v527 0 1120 := by rw [e_v527]; exact hI.iv1 (n := 67) g_y rfl (by decide) rfl
                  obtain ⟨v528, e_v528⟩ : ∃ z : Int32, z = M y 40 := ⟨_, rfl⟩
                  have i_v528 : iv v528 0 30 := by rw [e_v528]; exact hI.iv1 (n := 67) g_y rfl (by decide) rfl
                  refine lv_aload_n hx hb dX9_unit_156 rfl (lv_at hl 5 rfl) ?_
                  refine h_getr hx hb hts iX9_unit_X9 hown hK hI g_y (by decide) rfl rfl 14 (by decide) rfl 114 rfl (hts (.fieldLink RX9 30 "CatLeasesModel" "units" "[I") (List.mem_of_getElem? (i := 4) rfl)) (fun _ h9 => h9) dX9_unit_157 (fun a529 e_a529 g_a529 => ?_)
                  have q530 : a505 = a529 := (e_a505).trans e_a529.symm
                  subst q530
                  refine lv_aload_n hx hb dX9_unit_160 rfl (lv_at hl 5 rfl) ?_
                  refine h_geti (lo := 0) (hi := 1) hx hb hts iX9_unit_X9 hown hK hI g_y (by decide) rfl rfl 36 (by decide) rfl rfl (hts (.fieldLink RX9 259 "CatLeasesModel" "rb" "I") (List.mem_of_getElem? (i := 5) rfl)) (fun _ h9 => h9) dX9_unit_161 (fun v531 e_v531 i_v531 => ?_)
                  have q532 : v506 = v531 := (e_v506).trans e_v531.symm
                  subst q532
                  refine lv_dup2_11 hx hb dX9_unit_164 rfl rfl ?_
                  refine h_iald (j := v506.toNatClampNeg) (lo := (-2147483648)) (hi := 2147483647) hx hb hK hI g_a505 (by decide) rfl (iv_in (n := 2) i_v506 (by decide) (by decide)) rfl (iv_any _) dX9_unit_165 (fun v533 e_v533 i_v533 => ?_)
                  have q534 : v507 = v533 := (e_v507).trans e_v533.symm
                  subst q534
                  refine lv_iload_n hx hb dX9_unit_166 rfl (lv_at hl 3 rfl) ?_
                  refine lv_if_eq (tgt := 174) hx hb dX9_unit_167 (by decide) (fun c535 => ?_) (fun c535 => ?_)
                  · exact absurd c535 (iv_ne kc_1 kc_0 (by decide))
                  · refine lv_iconst (v := 0) hx hb dX9_unit_170 (by decide) ?_
                    refine lv_goto (tgt := 175) hx hb dX9_unit_171 (by decide) ?_
                    refine lv_iadd hx hb dX9_unit_175 ?_
                    refine k_top (v := v507) (Int32.add_zero _) ?_
                    refine h_iast (j := v506.toNatClampNeg) hx hb hK hI g_a505 (by decide) rfl (iv_in (n := 2) i_v506 (by decide) (by decide)) rfl (iv_any _) rfl dX9_unit_176 (fun M536 H locs e_M536 hI => ?_)
                    refine lv_aload_n hx hb dX9_unit_177 rfl (lv_at hl 5 rfl) ?_
                    refine lv_dup hx hb dX9_unit_178 rfl ?_
                    refine h_geti (lo := 0) (hi := 30) hx hb hts iX9_unit_X9 hown hK hI g_y (by decide) rfl rfl 40 (by decide) rfl rfl (hts (.fieldLink RX9 321 "CatLeasesModel" "unitsInRule" "I") (List.mem_of_getElem? (i := 6) rfl)) (fun _ h9 => h9) dX9_unit_179 (fun v537 e_v537 i_v537 => ?_)
                    have q538 : v528 = v537 := ((e_v528).trans (u2_st (a := y) (k := 40) e_M536 (u2_a (so_ne g_y g_a505 (by decide)))).symm).trans e_v537.symm
                    subst q538
                    refine lv_iload_n hx hb dX9_unit_182 rfl (lv_at hl 3 rfl) ?_
                    refine lv_if_eq (tgt := 190) hx hb dX9_unit_183 (by decide) (fun c539 => ?_) (fun c539 => ?_)
                    · exact absurd c539 (iv_ne kc_1 kc_0 (by decide))
                    · refine lv_iconst (v := 0) hx hb dX9_unit_186 (by decide) ?_
                      refine lv_goto (tgt := 191) hx hb dX9_unit_187 (by decide) ?_
                      refine lv_iadd hx hb dX9_unit_191 ?_
                      refine k_top (v := v528) (Int32.add_zero _) ?_
                      refine h_puti hx hb hts iX9_unit_X9 tyX9 tyX9_ok nmX9 hown hK hI g_y (by decide) rfl rfl 40 (by decide) rfl (hts (.fieldLink RX9 321 "CatLeasesModel" "unitsInRule" "I") (List.mem_of_getElem? (i := 6) rfl)) (fun _ h9 => h9) rfl .int (by decide +kernel) rfl rfl i_v528 rfl dX9_unit_192 (fun M540 H locs e_M540 hI => ?_)
                      refine lv_iload hx hb dX9_unit_195 (lv_at hl 1 rfl) ?_
                      refine lv_if_ne (tgt := 207) hx hb dX9_unit_197 (by decide) (fun c541 => ?_) (fun c541 => ?_)
                      · have i542 := z504 c541
                        have i543 : iv v489 3 3 := by rw [(((e_v489).trans (u2_st (a := y) (k := 8) e_M536 (u2_a (so_ne g_y g_a505 (by decide)))).symm).trans (u2_st (a := y) (k := 8) e_M540 (u2_k (by decide))).symm), i542.2]; exact kc_3
                        have i544 : iv r499 1 119 := iv_neL c541 i_r499 (by decide) (by decide)
                        refine lv_iconst (v := 0) hx hb dX9_unit_207 (by decide) ?_
                        refine lv_istore (lv' := [(6, .int (0 : Int32)), (5, .int (1 : Int32)), (4, .int r499), (3, .int r492), (2, .int (1 : Int32)), (1, .int t0_36), (0, .ref y)]) hx hb dX9_unit_208 hl (by decide) rfl (fun ls hl => ?_)
                        refine lv_aload_n hx hb dX9_unit_210 rfl (lv_at hl 6 rfl) ?_
                        have m545 : PI M540 y := (PI_ag hI.2.1 g_y (PI_ag hI.2.1 g_y m0_PI (hAd.put e_M536 g_a505 rfl)) (hAd.put e_M540 g_y rfl))
                        have m546 : PN M M540 y := (PN_ag hI.2.1 g_y (PN_ag hI.2.1 g_y PN_rf (hAd.put e_M536 g_a505 rfl)) (hAd.put e_M540 g_y rfl))
                        refine h_gov hI (by decide) (va_runV (As := []) (rest := []) ⟨hx, hb, hml, hown, hts⟩ (h_goOn_X9 l D g σ Z hZ0 M540 N R y g_y m545) (cwV 0 hts gX9_unit_X9_goOn rfl rfl rfl (by decide +kernel) ⟨Nat.le_of_ble_eq_true rfl, Nat.le_of_ble_eq_true rfl⟩) (h_preV hZ0 hK hE hI g_y (by decide) rfl) rfl rfl hl.1 rfl (lv_room (Nat.le_of_ble_eq_true rfl)) dX9_unit_211 ⟨Nat.le_of_ble_eq_true rfl, Nat.le_of_ble_eq_true rfl⟩) (fun M548 N549 R550 H locs q551 z_M548 hI => ?_)
                        obtain ⟨rfl, z552, z553, z554⟩ := q551
                        have ng9 : nu M548 y < nu M y := Int.lt_of_lt_of_le (GO_lt z554 (z_M548 y 9 3 g_y rfl) m545 (fun h9 => iv_ne i543 kc_0 (by decide) ((((e_v489).trans (u2_st (a := y) (k := 8) e_M536 (u2_a (so_ne g_y g_a505 (by decide)))).symm).trans (u2_st (a := y) (k := 8) e_M540 (u2_k (by decide))).symm).trans h9))) m546.2.2
                        refine lv_iload_n hx hb dX9_unit_214 rfl (lv_at hl 4 rfl) ?_
                        refine lv_if_ne (tgt := 222) hx hb dX9_unit_215 (by decide) (fun c555 => ?_) (fun c555 => ?_)
                        · refine lv_aload_n hx hb dX9_unit_222 rfl (lv_at hl 6 rfl) ?_
                          refine lv_iload_n hx hb dX9_unit_223 rfl (lv_at hl 4 rfl) ?_
                          refine lv_if_eq (tgt := 231) hx hb dX9_unit_224 (by decide) (fun c556 => ?_) (fun c556 => ?_)
                          · exact absurd c556 (iv_ne kc_1 kc_0 (by decide))
                          · refine lv_iconst (v := 3) hx hb dX9_unit_227 (by decide) ?_
                            refine lv_goto (tgt := 233) hx hb dX9_unit_228 (by decide) ?_
                            refine lv_bipush (v := 126) hx hb dX9_unit_233 (by decide) ?_
                            refine h_gov hI (by decide) (va_runV (As := [.int (3 : Int32), .int (126 : Int32)]) (rest := []) ⟨hx, hb, hml, hown, hts⟩ (h_pushE_X9 l D g σ Z hZ0 M548 N549 R y g_y (3 : Int32) (126 : Int32) (by rw [((z_M548 y 9 39 g_y rfl).trans ((u2_st (a := y) (k := 39) e_M540 (u2_k (by decide))).trans (u2_st (a := y) (k := 39) e_M536 (u2_a (so_ne g_y g_a505 (by decide))))))]; exact iv_w (EX1_p m0_EX1 rfl) (by decide) (by decide))) (cwV 2 hts gX9_unit_X9_pushE rfl rfl rfl (by decide +kernel) ⟨Nat.le_of_ble_eq_true rfl, Nat.le_of_ble_eq_true rfl⟩) (h_preV hZ0 hK hE hI g_y (by decide) rfl) rfl rfl hl.1 rfl (lv_room (Nat.le_of_ble_eq_true rfl)) dX9_unit_235 ⟨Nat.le_of_ble_eq_true rfl, Nat.le_of_ble_eq_true rfl⟩) (fun M558 N559 R560 H locs q561 z_M558 hI => ?_)
                            obtain ⟨rfl, rfl, z562⟩ := q561
                            refine lv_aload_n hx hb dX9_unit_238 rfl (lv_at hl 6 rfl) ?_
                            refine lv_dup hx hb dX9_unit_239 rfl ?_
                            refine h_geti (lo := (-2147483648)) (hi := 2147483647) hx hb hts iX9_unit_X9 hown hK hI g_y (by decide) rfl rfl 38 (by decide) rfl rfl (hts (.fieldLink RX9 330 "CatLeasesModel" "within" "I") (List.mem_of_getElem? (i := 8) rfl)) (fun _ h9 => h9) dX9_unit_240 (fun v563 e_v563 i_v563 => ?_)
                            have q564 : v512 = v563 := (((((e_v512).trans (u2_st (a := y) (k := 38) e_M536 (u2_a (so_ne g_y g_a505 (by decide)))).symm).trans (u2_st (a := y) (k := 38) e_M540 (u2_k (by decide))).symm).trans (z_M548 y 9 38 g_y rfl).symm).trans (z_M558 y 9 38 g_y rfl).symm).trans e_v563.symm
                            subst q564
                            refine lv_iconst (v := 1) hx hb dX9_unit_243 (by decide) ?_
                            refine lv_iadd hx hb dX9_unit_244 ?_
                            refine h_nm (lo := 1) (hi := 7) (iv_add i515 kc_1 (by decide) (by decide) (by decide) (by decide)) (fun v565 e_v565 i_v565 => ?_)
                            refine h_puti hx hb hts iX9_unit_X9 tyX9 tyX9_ok nmX9 hown hK hI g_y (by decide) rfl rfl 38 (by decide) rfl (hts (.fieldLink RX9 330 "CatLeasesModel" "within" "I") (List.mem_of_getElem? (i := 8) rfl)) (fun _ h9 => h9) rfl .int (by decide +kernel) rfl rfl (iv_w (lo' := (-2147483648)) (hi' := 2147483647) i_v565 (by decide) (by decide)) rfl dX9_unit_245 (fun M566 H locs e_M566 hI => ?_)
                            refine lv_iconst (v := 1) hx hb dX9_unit_248 (by decide) ?_
                            have m567 : PI M566 y := (PI_ag hI.2.1 g_y (PI_ag hI.2.1 g_y z552 (hAd.ag z_M558 (by decide))) (hAd.put e_M566 g_y rfl))
                            have m568 : PN M M566 y := (PN_ag hI.2.1 g_y (PN_ag hI.2.1 g_y (PN_tr m546 z553) (hAd.ag z_M558 (by decide))) (hAd.put e_M566 g_y rfl))
                            have m569 : PC M M566 R y := (PC_ag hI.2.1 g_y (PC_ag hI.2.1 g_y (PC_ag hI.2.1 g_y (PC_ag hI.2.1 g_y (PC_ag hI.2.1 g_y PC_rf (hAd.put e_M536 g_a505 rfl)) (hAd.put e_M540 g_y rfl)) (hAd.ag z_M548 (by decide))) (hAd.ag z_M558 (by decide))) (hAd.put e_M566 g_y rfl))
                            exact h_iret hQ hx hb hr hlocks rfl hK hI ⟨rfl, (iv_w (lo' := 0) (hi' := 1) kc_1 (by decide) (by decide)), m567, m568, m569, (fun _ => ⟨fun h9 => absurd h9 (by decide), fun _ => (EX1_push (q := (3 : Int32)) (t := 0) m0_EX1 ((u2_st (a := y) (k := 36) e_M566 (u2_k (by decide))).trans ((z_M558 y 9 36 g_y rfl).trans ((z_M548 y 9 36 g_y rfl).trans ((u2_st (a := y) (k := 36) e_M540 (u2_k (by decide))).trans (u2_st (a := y) (k := 36) e_M536 (u2_a (so_ne g_y g_a505 (by decide)))))))) ((u2_st (a := y) (k := 37) e_M566 (u2_k (by decide))).trans ((z_M558 y 9 37 g_y rfl).trans ((z_M548 y 9 37 g_y rfl).trans ((u2_st (a := y) (k := 37) e_M540 (u2_k (by decide))).trans (u2_st (a := y) (k := 37) e_M536 (u2_a (so_ne g_y g_a505 (by decide)))))))) ((u2_row e_M566 (so_ne (hI.2.1.r1 g_y 30 130 (by decide) rfl) g_y (by decide))).trans ((hAg.row z_M558 (hI.2.1.r1 g_y 30 130 (by decide) rfl) (fun _ => rfl)).trans ((hAg.row z_M548 (hI.2.1.r1 g_y 30 130 (by decide) rfl) (fun _ => rfl)).trans ((u2_row e_M540 (so_ne (hI.2.1.r1 g_y 30 130 (by decide) rfl) g_y (by decide))).trans (u2_row e_M536 (so_ne (hI.2.1.r1 g_y 30 130 (by decide) rfl) g_a505 (by decide))))))) (by rw [← ((u2_wr e_M566)), ← (e_v512)]; exact (h_inc e_v565 i515 kc_1 (by decide) (by decide))) (by rw [← (((((u2_wr e_M540)).trans (z_M548 y 9 40 g_y rfl).symm).trans (z_M558 y 9 40 g_y rfl).symm).trans (u2_st (a := y) (k := 40) e_M566 (u2_k (by decide))).symm), ← (e_v528)]; omega) (by rw [(u2_st (a := y) (k := 39) e_M566 (u2_k (by decide))), z562.1, ((z_M548 y 9 39 g_y rfl).trans ((u2_st (a := y) (k := 39) e_M540 (u2_k (by decide))).trans (u2_st (a := y) (k := 39) e_M536 (u2_a (so_ne g_y g_a505 (by decide))))))]) (fun j => by rw [(u2_row e_M566 (so_ne (hI.2.1.r1 g_y 32 132 (by decide) rfl) g_y (by decide))), z562.2.1 j, ((hAg.row z_M548 (hI.2.1.r1 g_y 32 132 (by decide) rfl) (fun _ => rfl)).trans ((u2_row e_M540 (so_ne (hI.2.1.r1 g_y 32 132 (by decide) rfl) g_y (by decide))).trans (u2_row e_M536 (so_ne (hI.2.1.r1 g_y 32 132 (by decide) rfl) g_a505 (by decide))))), ((z_M548 y 9 39 g_y rfl).trans ((u2_st (a := y) (k := 39) e_M540 (u2_k (by decide))).trans (u2_st (a := y) (k := 39) e_M536 (u2_a (so_ne g_y g_a505 (by decide))))))]) (fun j => by rw [(u2_row e_M566 (so_ne (hI.2.1.r1 g_y 33 133 (by decide) rfl) g_y (by decide))), z562.2.2 j, ((hAg.row z_M548 (hI.2.1.r1 g_y 33 133 (by decide) rfl) (fun _ => rfl)).trans ((u2_row e_M540 (so_ne (hI.2.1.r1 g_y 33 133 (by decide) rfl) g_y (by decide))).trans (u2_row e_M536 (so_ne (hI.2.1.r1 g_y 33 133 (by decide) rfl) g_a505 (by decide))))), ((z_M548 y 9 39 g_y rfl).trans ((u2_st (a := y) (k := 39) e_M540 (u2_k (by decide))).trans (u2_st (a := y) (k := 39) e_M536 (u2_a (so_ne g_y g_a505 (by decide))))))]) (Or.inl ⟨rfl, rfl⟩) (by have h9 := i515; rw [← (e_v512)]; simp only [iv] at h9; omega) (by have h9 := i_v528; rw [← (e_v528)]; simp only [iv] at h9; omega))⟩), (gm_lt hg9 m0_PI i39 (fun _ => by have h9 := nu_eq (M1 := M566) (M := M548) (y := y) ((u2_st (a := y) (k := 3) e_M566 (u2_k (by decide))).trans (z_M558 y 9 3 g_y rfl)) ((u2_st (a := y) (k := 7) e_M566 (u2_k (by decide))).trans (z_M558 y 9 7 g_y rfl)) ((u2_st (a := y) (k := 8) e_M566 (u2_k (by decide))).trans (z_M558 y 9 8 g_y rfl)); have h8 := ng9; have h7 := (by rw [(u2_st (a := y) (k := 39) e_M566 (u2_k (by decide))), z562.1, ((z_M548 y 9 39 g_y rfl).trans ((u2_st (a := y) (k := 39) e_M540 (u2_k (by decide))).trans (u2_st (a := y) (k := 39) e_M536 (u2_a (so_ne g_y g_a505 (by decide))))))] : (M566 y 39).toInt = (M y 39).toInt + 1); omega))⟩ dX9_unit_249
                        · exact absurd c555 (iv_ne kc_1 kc_0 (by decide))
                      · have i570 : iv r499 0 0 := iv_eq1 c541 i_r499 kc_0
                        refine lv_aload_n hx hb dX9_unit_200 rfl (lv_at hl 5 rfl) ?_
                        refine h_geti (lo := (-2147483648)) (hi := 2147483647) hx hb hts iX9_unit_X9 hown hK hI g_y (by decide) rfl rfl 9 (by decide) rfl rfl (hts (.fieldLink RX9 224 "CatLeasesModel" "number" "I") (List.mem_of_getElem? (i := 9) rfl)) (fun _ h9 => h9) dX9_unit_201 (fun v571 e_v571 i_v571 => ?_)
                        refine lv_goto (tgt := 208) hx hb dX9_unit_204 (by decide) ?_
                        refine lv_istore (lv' := [(6, .int v571), (5, .int (1 : Int32)), (4, .int r499), (3, .int r492), (2, .int (1 : Int32)), (1, .int t0_36), (0, .ref y)]) hx hb dX9_unit_208 hl (by decide) rfl (fun ls hl => ?_)
                        refine lv_aload_n hx hb dX9_unit_210 rfl (lv_at hl 6 rfl) ?_
                        have m572 : PI M540 y := (PI_ag hI.2.1 g_y (PI_ag hI.2.1 g_y m0_PI (hAd.put e_M536 g_a505 rfl)) (hAd.put e_M540 g_y rfl))
                        have m573 : PN M M540 y := (PN_ag hI.2.1 g_y (PN_ag hI.2.1 g_y PN_rf (hAd.put e_M536 g_a505 rfl)) (hAd.put e_M540 g_y rfl))
                        refine h_gov hI (by decide) (va_runV (As := []) (rest := []) ⟨hx, hb, hml, hown, hts⟩ (h_goOn_X9 l D g σ Z hZ0 M540 N R y g_y m572) (cwV 0 hts gX9_unit_X9_goOn rfl rfl rfl (by decide +kernel) ⟨Nat.le_of_ble_eq_true rfl, Nat.le_of_ble_eq_true rfl⟩) (h_preV hZ0 hK hE hI g_y (by decide) rfl) rfl rfl hl.1 rfl (lv_room (Nat.le_of_ble_eq_true rfl)) dX9_unit_211 ⟨Nat.le_of_ble_eq_true rfl, Nat.le_of_ble_eq_true rfl⟩) (fun M575 N576 R577 H locs q578 z_M575 hI => ?_)
                        obtain ⟨rfl, z579, z580, z581⟩ := q578
                        have ng9 : nu M575 y < nu M y := Int.lt_of_lt_of_le (GO_lt z581 (z_M575 y 9 3 g_y rfl) m572 (fun h9 => iv_ne i490 kc_0 (by decide) ((((e_v489).trans (u2_st (a := y) (k := 8) e_M536 (u2_a (so_ne g_y g_a505 (by decide)))).symm).trans (u2_st (a := y) (k := 8) e_M540 (u2_k (by decide))).symm).trans h9))) m573.2.2
                        refine lv_iload_n hx hb dX9_unit_214 rfl (lv_at hl 4 rfl) ?_
                        refine lv_if_ne (tgt := 222) hx hb dX9_unit_215 (by decide) (fun c582 => ?_) (fun c582 => ?_)
                        · refine lv_aload_n hx hb dX9_unit_222 rfl (lv_at hl 6 rfl) ?_
                          refine lv_iload_n hx hb dX9_unit_223 rfl (lv_at hl 4 rfl) ?_
                          refine lv_if_eq (tgt := 231) hx hb dX9_unit_224 (by decide) (fun c583 => ?_) (fun c583 => ?_)
                          · exact absurd c583 (iv_ne kc_1 kc_0 (by decide))
                          · refine lv_iconst (v := 3) hx hb dX9_unit_227 (by decide) ?_
                            refine lv_goto (tgt := 233) hx hb dX9_unit_228 (by decide) ?_
                            refine lv_bipush (v := 126) hx hb dX9_unit_233 (by decide) ?_
                            refine h_gov hI (by decide) (va_runV (As := [.int (3 : Int32), .int (126 : Int32)]) (rest := []) ⟨hx, hb, hml, hown, hts⟩ (h_pushE_X9 l D g σ Z hZ0 M575 N576 R y g_y (3 : Int32) (126 : Int32) (by rw [((z_M575 y 9 39 g_y rfl).trans ((u2_st (a := y) (k := 39) e_M540 (u2_k (by decide))).trans (u2_st (a := y) (k := 39) e_M536 (u2_a (so_ne g_y g_a505 (by decide))))))]; exact iv_w (EX1_p m0_EX1 rfl) (by decide) (by decide))) (cwV 2 hts gX9_unit_X9_pushE rfl rfl rfl (by decide +kernel) ⟨Nat.le_of_ble_eq_true rfl, Nat.le_of_ble_eq_true rfl⟩) (h_preV hZ0 hK hE hI g_y (by decide) rfl) rfl rfl hl.1 rfl (lv_room (Nat.le_of_ble_eq_true rfl)) dX9_unit_235 ⟨Nat.le_of_ble_eq_true rfl, Nat.le_of_ble_eq_true rfl⟩) (fun M585 N586 R587 H locs q588 z_M585 hI => ?_)
                            obtain ⟨rfl, rfl, z589⟩ := q588
                            refine lv_aload_n hx hb dX9_unit_238 rfl (lv_at hl 6 rfl) ?_
                            refine lv_dup hx hb dX9_unit_239 rfl ?_
                            refine h_geti (lo := (-2147483648)) (hi := 2147483647) hx hb hts iX9_unit_X9 hown hK hI g_y (by decide) rfl rfl 38 (by decide) rfl rfl (hts (.fieldLink RX9 330 "CatLeasesModel" "within" "I") (List.mem_of_getElem? (i := 8) rfl)) (fun _ h9 => h9) dX9_unit_240 (fun v590 e_v590 i_v590 => ?_)
                            have q591 : v512 = v590 := (((((e_v512).trans (u2_st (a := y) (k := 38) e_M536 (u2_a (so_ne g_y g_a505 (by decide)))).symm).trans (u2_st (a := y) (k := 38) e_M540 (u2_k (by decide))).symm).trans (z_M575 y 9 38 g_y rfl).symm).trans (z_M585 y 9 38 g_y rfl).symm).trans e_v590.symm
                            subst q591
                            refine lv_iconst (v := 1) hx hb dX9_unit_243 (by decide) ?_
                            refine lv_iadd hx hb dX9_unit_244 ?_
                            refine h_nm (lo := 1) (hi := 7) (iv_add i515 kc_1 (by decide) (by decide) (by decide) (by decide)) (fun v592 e_v592 i_v592 => ?_)
                            refine h_puti hx hb hts iX9_unit_X9 tyX9 tyX9_ok nmX9 hown hK hI g_y (by decide) rfl rfl 38 (by decide) rfl (hts (.fieldLink RX9 330 "CatLeasesModel" "within" "I") (List.mem_of_getElem? (i := 8) rfl)) (fun _ h9 => h9) rfl .int (by decide +kernel) rfl rfl (iv_w (lo' := (-2147483648)) (hi' := 2147483647) i_v592 (by decide) (by decide)) rfl dX9_unit_245 (fun M593 H locs e_M593 hI => ?_)
                            refine lv_iconst (v := 1) hx hb dX9_unit_248 (by decide) ?_
                            have m594 : PI M593 y := (PI_ag hI.2.1 g_y (PI_ag hI.2.1 g_y z579 (hAd.ag z_M585 (by decide))) (hAd.put e_M593 g_y rfl))
                            have m595 : PN M M593 y := (PN_ag hI.2.1 g_y (PN_ag hI.2.1 g_y (PN_tr m573 z580) (hAd.ag z_M585 (by decide))) (hAd.put e_M593 g_y rfl))
                            have m596 : PC M M593 R y := (PC_ag hI.2.1 g_y (PC_ag hI.2.1 g_y (PC_ag hI.2.1 g_y (PC_ag hI.2.1 g_y (PC_ag hI.2.1 g_y PC_rf (hAd.put e_M536 g_a505 rfl)) (hAd.put e_M540 g_y rfl)) (hAd.ag z_M575 (by decide))) (hAd.ag z_M585 (by decide))) (hAd.put e_M593 g_y rfl))
                            exact h_iret hQ hx hb hr hlocks rfl hK hI ⟨rfl, (iv_w (lo' := 0) (hi' := 1) kc_1 (by decide) (by decide)), m594, m595, m596, (fun _ => ⟨fun h9 => absurd h9 (by decide), fun _ => (EX1_push (q := (3 : Int32)) (t := 0) m0_EX1 ((u2_st (a := y) (k := 36) e_M593 (u2_k (by decide))).trans ((z_M585 y 9 36 g_y rfl).trans ((z_M575 y 9 36 g_y rfl).trans ((u2_st (a := y) (k := 36) e_M540 (u2_k (by decide))).trans (u2_st (a := y) (k := 36) e_M536 (u2_a (so_ne g_y g_a505 (by decide)))))))) ((u2_st (a := y) (k := 37) e_M593 (u2_k (by decide))).trans ((z_M585 y 9 37 g_y rfl).trans ((z_M575 y 9 37 g_y rfl).trans ((u2_st (a := y) (k := 37) e_M540 (u2_k (by decide))).trans (u2_st (a := y) (k := 37) e_M536 (u2_a (so_ne g_y g_a505 (by decide)))))))) ((u2_row e_M593 (so_ne (hI.2.1.r1 g_y 30 130 (by decide) rfl) g_y (by decide))).trans ((hAg.row z_M585 (hI.2.1.r1 g_y 30 130 (by decide) rfl) (fun _ => rfl)).trans ((hAg.row z_M575 (hI.2.1.r1 g_y 30 130 (by decide) rfl) (fun _ => rfl)).trans ((u2_row e_M540 (so_ne (hI.2.1.r1 g_y 30 130 (by decide) rfl) g_y (by decide))).trans (u2_row e_M536 (so_ne (hI.2.1.r1 g_y 30 130 (by decide) rfl) g_a505 (by decide))))))) (by rw [← ((u2_wr e_M593)), ← (e_v512)]; exact (h_inc e_v592 i515 kc_1 (by decide) (by decide))) (by rw [← (((((u2_wr e_M540)).trans (z_M575 y 9 40 g_y rfl).symm).trans (z_M585 y 9 40 g_y rfl).symm).trans (u2_st (a := y) (k := 40) e_M593 (u2_k (by decide))).symm), ← (e_v528)]; omega) (by rw [(u2_st (a := y) (k := 39) e_M593 (u2_k (by decide))), z589.1, ((z_M575 y 9 39 g_y rfl).trans ((u2_st (a := y) (k := 39) e_M540 (u2_k (by decide))).trans (u2_st (a := y) (k := 39) e_M536 (u2_a (so_ne g_y g_a505 (by decide))))))]) (fun j => by rw [(u2_row e_M593 (so_ne (hI.2.1.r1 g_y 32 132 (by decide) rfl) g_y (by decide))), z589.2.1 j, ((hAg.row z_M575 (hI.2.1.r1 g_y 32 132 (by decide) rfl) (fun _ => rfl)).trans ((u2_row e_M540 (so_ne (hI.2.1.r1 g_y 32 132 (by decide) rfl) g_y (by decide))).trans (u2_row e_M536 (so_ne (hI.2.1.r1 g_y 32 132 (by decide) rfl) g_a505 (by decide))))), ((z_M575 y 9 39 g_y rfl).trans ((u2_st (a := y) (k := 39) e_M540 (u2_k (by decide))).trans (u2_st (a := y) (k := 39) e_M536 (u2_a (so_ne g_y g_a505 (by decide))))))]) (fun j => by rw [(u2_row e_M593 (so_ne (hI.2.1.r1 g_y 33 133 (by decide) rfl) g_y (by decide))), z589.2.2 j, ((hAg.row z_M575 (hI.2.1.r1 g_y 33 133 (by decide) rfl) (fun _ => rfl)).trans ((u2_row e_M540 (so_ne (hI.2.1.r1 g_y 33 133 (by decide) rfl) g_y (by decide))).trans (u2_row e_M536 (so_ne (hI.2.1.r1 g_y 33 133 (by decide) rfl) g_a505 (by decide))))), ((z_M575 y 9 39 g_y rfl).trans ((u2_st (a := y) (k := 39) e_M540 (u2_k (by decide))).trans (u2_st (a := y) (k := 39) e_M536 (u2_a (so_ne g_y g_a505 (by decide))))))]) (Or.inl ⟨rfl, rfl⟩) (by have h9 := i515; rw [← (e_v512)]; simp only [iv] at h9; omega) (by have h9 := i_v528; rw [← (e_v528)]; simp only [iv] at h9; omega))⟩), (gm_lt hg9 m0_PI i39 (fun _ => by have h9 := nu_eq (M1 := M593) (M := M575) (y := y) ((u2_st (a := y) (k := 3) e_M593 (u2_k (by decide))).trans (z_M585 y 9 3 g_y rfl)) ((u2_st (a := y) (k := 7) e_M593 (u2_k (by decide))).trans (z_M585 y 9 7 g_y rfl)) ((u2_st (a := y) (k := 8) e_M593 (u2_k (by decide))).trans (z_M585 y 9 8 g_y rfl)); have h8 := ng9; have h7 := (by rw [(u2_st (a := y) (k := 39) e_M593 (u2_k (by decide))), z589.1, ((z_M575 y 9 39 g_y rfl).trans ((u2_st (a := y) (k := 39) e_M540 (u2_k (by decide))).trans (u2_st (a := y) (k := 39) e_M536 (u2_a (so_ne g_y g_a505 (by decide))))))] : (M593 y 39).toInt = (M y 39).toInt + 1); omega))⟩ dX9_unit_249
                        · exact absurd c582 (iv_ne kc_1 kc_0 (by decide))
                · obtain ⟨v597, e_v597⟩ : ∃ z : Int32, z = M y 4 := ⟨_, rfl⟩
                  have i_v597 : iv v597 0 5 := by rw [e_v597]; exact hI.iv1 (n := 67) g_y rfl (by decide) rfl
                  have i598 : iv v597 1 5 := iv_neL (fun h9 => z522 c523 (e_v597.symm.trans h9)) i_v597 (by decide) (by decide)
                  have i599 : iv r516 0 0 := iv_eq1 c523 i_r516 kc_0
                  refine lv_iconst (v := 1) hx hb dX9_unit_154 (by decide) ?_
                  exact h_iret hQ hx hb hr hlocks rfl hK hI ⟨rfl, (iv_w (lo' := 0) (hi' := 1) kc_1 (by decide) (by decide)), m0_PI, PN_rf, PC_rf, (fun h9 => gd_no (e_v597) i598 h9), (gm_lt hg9 m0_PI i39 (fun h9 => gd_no (e_v597) i598 h9))⟩ dX9_unit_155
              · have i600 : iv v512 7 7 := iv_eq1 c514 i513 kc_7
                refine lv_aload_n hx hb dX9_unit_143 rfl (lv_at hl 5 rfl) ?_
                refine h_gov hI (by decide) (va_runV (As := []) (rest := []) ⟨hx, hb, hml, hown, hts⟩ (h_misplaced_X9 l D g σ Z hZ0 M N R y g_y m0_PI) (cwV 0 hts gX9_unit_X9_misplaced rfl rfl rfl (by decide +kernel) ⟨Nat.le_of_ble_eq_true rfl, Nat.le_of_ble_eq_true rfl⟩) (h_preV hZ0 hK hE hI g_y (by decide) rfl) rfl rfl hl.1 rfl (lv_room (Nat.le_of_ble_eq_true rfl)) dX9_unit_144 ⟨Nat.le_of_ble_eq_true rfl, Nat.le_of_ble_eq_true rfl⟩) (fun M602 N603 R604 H locs q605 z_M602 hI => ?_)
                obtain ⟨rfl, rfl, m606, m607, z608⟩ := q605
                obtain ⟨v609, e_v609⟩ : ∃ z : Int32, z = M602 y 4 := ⟨_, rfl⟩
                have i_v609 : iv v609 1 5 := by rw [e_v609]; exact z608
                refine lv_aload_n hx hb dX9_unit_147 rfl (lv_at hl 5 rfl) ?_
                refine h_goi hI (by decide) (va_runV (As := []) (rest := []) ⟨hx, hb, hml, hown, hts⟩ (h_isGood_X9 l D g σ Z hZ0 M602 N R y g_y) (cwV 0 hts gX9_unit_X9_isGood rfl rfl rfl (by decide +kernel) ⟨Nat.le_of_ble_eq_true rfl, Nat.le_of_ble_eq_true rfl⟩) (h_preV hZ0 hK hE hI g_y (by decide) rfl) rfl rfl hl.1 rfl (lv_room (Nat.le_of_ble_eq_true rfl)) dX9_unit_148 ⟨Nat.le_of_ble_eq_true rfl, Nat.le_of_ble_eq_true rfl⟩) (fun r610 M611 N612 R613 H locs q614 z_M611 hI => ?_)
                obtain ⟨rfl, rfl, rfl, i_r610, z615, z616⟩ := q614
                refine lv_if_ne (tgt := 156) hx hb dX9_unit_151 (by decide) (fun c617 => ?_) (fun c617 => ?_)
                · exact absurd ((e_v609).trans (z615 c617)) (iv_ne i_v609 kc_0 (by decide))
                · have i618 : iv v609 1 5 := iv_neL (fun h9 => z616 c617 ((e_v609).symm.trans h9)) i_v609 (by decide) (by decide)
                  have i619 : iv r610 0 0 := iv_eq1 c617 i_r610 kc_0
                  refine lv_iconst (v := 1) hx hb dX9_unit_154 (by decide) ?_
                  have m620 : PN M M602 y := (PN_tr PN_rf m607)
                  have m621 : PC M M602 R y := (PC_ag hI.2.1 g_y PC_rf (hAd.ag z_M602 (by decide)))
                  exact h_iret hQ hx hb hr hlocks rfl hK hI ⟨rfl, (iv_w (lo' := 0) (hi' := 1) kc_1 (by decide) (by decide)), m606, m620, m621, (fun h9 => gd_no (e_v609) i618 h9), (gm_lt hg9 m0_PI i39 (fun h9 => gd_no (e_v609) i618 h9))⟩ dX9_unit_155
            · exact absurd c511 (iv_ne kc_1 kc_0 (by decide))
          · exact absurd c510 (iv_ne kc_1 kc_0 (by decide))
        · refine lv_aload_n hx hb dX9_unit_84 rfl (lv_at hl 4 rfl) ?_
          refine h_geti (lo := 0) (hi := 30) hx hb hts iX9_unit_X9 hown hK hI g_y (by decide) rfl rfl 40 (by decide) rfl rfl (hts (.fieldLink RX9 321 "CatLeasesModel" "unitsInRule" "I") (List.mem_of_getElem? (i := 6) rfl)) (fun _ h9 => h9) dX9_unit_85 (fun v622 e_v622 i_v622 => ?_)
          refine lv_bipush (v := 30) hx hb dX9_unit_88 (by decide) ?_
          refine lv_icmp_ne (tgt := 97) hx hb dX9_unit_90 (by decide) (fun c623 => ?_) (fun c623 => ?_)
          · have i624 : iv v622 0 29 := iv_neH c623 i_v622 (by decide) (by decide)
            refine lv_iconst (v := 0) hx hb dX9_unit_97 (by decide) ?_
            refine lv_istore (lv' := [(5, .int (0 : Int32)), (4, .int r499), (3, .int r492), (2, .int (1 : Int32)), (1, .int t0_36), (0, .ref y)]) hx hb dX9_unit_98 hl (by decide) rfl (fun ls hl => ?_)
            refine lv_iload_n hx hb dX9_unit_100 rfl (lv_at hl 3 rfl) ?_
            refine lv_if_ne (tgt := 126) hx hb dX9_unit_101 (by decide) (fun c625 => ?_) (fun c625 => ?_)
            · refine lv_iload_n hx hb dX9_unit_126 rfl (lv_at hl 3 rfl) ?_
              refine lv_if_ne (tgt := 134) hx hb dX9_unit_127 (by decide) (fun c626 => ?_) (fun c626 => ?_)
              · refine lv_aload_n hx hb dX9_unit_134 rfl (lv_at hl 5 rfl) ?_
                refine h_geti (lo := (-2147483648)) (hi := 2147483647) hx hb hts iX9_unit_X9 hown hK hI g_y (by decide) rfl rfl 38 (by decide) rfl rfl (hts (.fieldLink RX9 330 "CatLeasesModel" "within" "I") (List.mem_of_getElem? (i := 8) rfl)) (fun _ h9 => h9) dX9_unit_135 (fun v627 e_v627 i_v627 => ?_)
                have i628 : iv v627 0 7 := EX1_w m0_EX1 e_v627
                refine lv_bipush (v := 7) hx hb dX9_unit_138 (by decide) ?_
                refine lv_icmp_ne (tgt := 147) hx hb dX9_unit_140 (by decide) (fun c629 => ?_) (fun c629 => ?_)
                · have i630 : iv v627 0 6 := iv_neH c629 i628 (by decide) (by decide)
                  refine lv_aload_n hx hb dX9_unit_147 rfl (lv_at hl 5 rfl) ?_
                  refine h_goi hI (by decide) (va_runV (As := []) (rest := []) ⟨hx, hb, hml, hown, hts⟩ (h_isGood_X9 l D g σ Z hZ0 M N R y g_y) (cwV 0 hts gX9_unit_X9_isGood rfl rfl rfl (by decide +kernel) ⟨Nat.le_of_ble_eq_true rfl, Nat.le_of_ble_eq_true rfl⟩) (h_preV hZ0 hK hE hI g_y (by decide) rfl) rfl rfl hl.1 rfl (lv_room (Nat.le_of_ble_eq_true rfl)) dX9_unit_148 ⟨Nat.le_of_ble_eq_true rfl, Nat.le_of_ble_eq_true rfl⟩) (fun r631 M632 N633 R634 H locs q635 z_M632 hI => ?_)
                  obtain ⟨rfl, rfl, rfl, i_r631, z636, z637⟩ := q635
                  refine lv_if_ne (tgt := 156) hx hb dX9_unit_151 (by decide) (fun c638 => ?_) (fun c638 => ?_)
                  · obtain ⟨v639, e_v639⟩ : ∃ z : Int32, z = M y 4 := ⟨_, rfl⟩
                    have i_v639 : iv v639 0 5 := by rw [e_v639]; exact hI.iv1 (n := 67) g_y rfl (by decide) rfl
                    have i640 : iv v639 0 0 := by rw [e_v639, z636 c638]; exact kc_0
                    have i641 : iv r631 1 1 := iv_neL c638 i_r631 (by decide) (by decide)
                    obtain ⟨v642, e_v642⟩ : ∃ z : Int32, z = M y 37 := ⟨_, rfl⟩
                    have i_v642 : iv v642 0 1120 := by rw [e_v642]; exact hI.iv1 (n := 67) g_y rfl (by decide) rfl
                    refine lv_aload_n hx hb dX9_unit_156 rfl (lv_at hl 5 rfl) ?_
                    refine h_getr hx hb hts iX9_unit_X9 hown hK hI g_y (by decide) rfl rfl 14 (by decide) rfl 114 rfl (hts (.fieldLink RX9 30 "CatLeasesModel" "units" "[I") (List.mem_of_getElem? (i := 4) rfl)) (fun _ h9 => h9) dX9_unit_157 (fun a643 e_a643 g_a643 => ?_)
                    have q644 : a505 = a643 := (e_a505).trans e_a643.symm
                    subst q644
                    refine lv_aload_n hx hb dX9_unit_160 rfl (lv_at hl 5 rfl) ?_
                    refine h_geti (lo := 0) (hi := 1) hx hb hts iX9_unit_X9 hown hK hI g_y (by decide) rfl rfl 36 (by decide) rfl rfl (hts (.fieldLink RX9 259 "CatLeasesModel" "rb" "I") (List.mem_of_getElem? (i := 5) rfl)) (fun _ h9 => h9) dX9_unit_161 (fun v645 e_v645 i_v645 => ?_)
                    have q646 : v506 = v645 := (e_v506).trans e_v645.symm
                    subst q646
                    refine lv_dup2_11 hx hb dX9_unit_164 rfl rfl ?_
                    refine h_iald (j := v506.toNatClampNeg) (lo := (-2147483648)) (hi := 2147483647) hx hb hK hI g_a505 (by decide) rfl (iv_in (n := 2) i_v506 (by decide) (by decide)) rfl (iv_any _) dX9_unit_165 (fun v647 e_v647 i_v647 => ?_)
                    have q648 : v507 = v647 := (e_v507).trans e_v647.symm
                    subst q648
                    refine lv_iload_n hx hb dX9_unit_166 rfl (lv_at hl 3 rfl) ?_
                    refine lv_if_eq (tgt := 174) hx hb dX9_unit_167 (by decide) (fun c649 => ?_) (fun c649 => ?_)
                    · exact absurd c649 (iv_ne kc_1 kc_0 (by decide))
                    · refine lv_iconst (v := 0) hx hb dX9_unit_170 (by decide) ?_
                      refine lv_goto (tgt := 175) hx hb dX9_unit_171 (by decide) ?_
                      refine lv_iadd hx hb dX9_unit_175 ?_
                      refine k_top (v := v507) (Int32.add_zero _) ?_
                      refine h_iast (j := v506.toNatClampNeg) hx hb hK hI g_a505 (by decide) rfl (iv_in (n := 2) i_v506 (by decide) (by decide)) rfl (iv_any _) rfl dX9_unit_176 (fun M650 H locs e_M650 hI => ?_)
                      refine lv_aload_n hx hb dX9_unit_177 rfl (lv_at hl 5 rfl) ?_
                      refine lv_dup hx hb dX9_unit_178 rfl ?_
                      refine h_geti (lo := 0) (hi := 30) hx hb hts iX9_unit_X9 hown hK hI g_y (by decide) rfl rfl 40 (by decide) rfl rfl (hts (.fieldLink RX9 321 "CatLeasesModel" "unitsInRule" "I") (List.mem_of_getElem? (i := 6) rfl)) (fun _ h9 => h9) dX9_unit_179 (fun v651 e_v651 i_v651 => ?_)
                      have q652 : v622 = v651 := ((e_v622).trans (u2_st (a := y) (k := 40) e_M650 (u2_a (so_ne g_y g_a505 (by decide)))).symm).trans e_v651.symm
                      subst q652
                      refine lv_iload_n hx hb dX9_unit_182 rfl (lv_at hl 3 rfl) ?_
                      refine lv_if_eq (tgt := 190) hx hb dX9_unit_183 (by decide) (fun c653 => ?_) (fun c653 => ?_)
                      · exact absurd c653 (iv_ne kc_1 kc_0 (by decide))
                      · refine lv_iconst (v := 0) hx hb dX9_unit_186 (by decide) ?_
                        refine lv_goto (tgt := 191) hx hb dX9_unit_187 (by decide) ?_
                        refine lv_iadd hx hb dX9_unit_191 ?_
                        refine k_top (v := v622) (Int32.add_zero _) ?_
                        refine h_puti hx hb hts iX9_unit_X9 tyX9 tyX9_ok nmX9 hown hK hI g_y (by decide) rfl rfl 40 (by decide) rfl (hts (.fieldLink RX9 321 "CatLeasesModel" "unitsInRule" "I") (List.mem_of_getElem? (i := 6) rfl)) (fun _ h9 => h9) rfl .int (by decide +kernel) rfl rfl (iv_w (lo' := 0) (hi' := 30) i624 (by decide) (by decide)) rfl dX9_unit_192 (fun M654 H locs e_M654 hI => ?_)
                        refine lv_iload hx hb dX9_unit_195 (lv_at hl 1 rfl) ?_
                        refine lv_if_ne (tgt := 207) hx hb dX9_unit_197 (by decide) (fun c655 => ?_) (fun c655 => ?_)
                        · have i656 := z504 c655
                          have i657 : iv v489 3 3 := by rw [(((e_v489).trans (u2_st (a := y) (k := 8) e_M650 (u2_a (so_ne g_y g_a505 (by decide)))).symm).trans (u2_st (a := y) (k := 8) e_M654 (u2_k (by decide))).symm), i656.2]; exact kc_3
                          have i658 : iv r499 1 119 := iv_neL c655 i_r499 (by decide) (by decide)
                          refine lv_iconst (v := 0) hx hb dX9_unit_207 (by decide) ?_
                          refine lv_istore (lv' := [(6, .int (0 : Int32)), (5, .int (0 : Int32)), (4, .int r499), (3, .int r492), (2, .int (1 : Int32)), (1, .int t0_36), (0, .ref y)]) hx hb dX9_unit_208 hl (by decide) rfl (fun ls hl => ?_)
                          refine lv_aload_n hx hb dX9_unit_210 rfl (lv_at hl 6 rfl) ?_
                          have m659 : PI M654 y := (PI_ag hI.2.1 g_y (PI_ag hI.2.1 g_y m0_PI (hAd.put e_M650 g_a505 rfl)) (hAd.put e_M654 g_y rfl))
                          have m660 : PN M M654 y := (PN_ag hI.2.1 g_y (PN_ag hI.2.1 g_y PN_rf (hAd.put e_M650 g_a505 rfl)) (hAd.put e_M654 g_y rfl))
                          refine h_gov hI (by decide) (va_runV (As := []) (rest := []) ⟨hx, hb, hml, hown, hts⟩ (h_goOn_X9 l D g σ Z hZ0 M654 N R y g_y m659) (cwV 0 hts gX9_unit_X9_goOn rfl rfl rfl (by decide +kernel) ⟨Nat.le_of_ble_eq_true rfl, Nat.le_of_ble_eq_true rfl⟩) (h_preV hZ0 hK hE hI g_y (by decide) rfl) rfl rfl hl.1 rfl (lv_room (Nat.le_of_ble_eq_true rfl)) dX9_unit_211 ⟨Nat.le_of_ble_eq_true rfl, Nat.le_of_ble_eq_true rfl⟩) (fun M662 N663 R664 H locs q665 z_M662 hI => ?_)
                          obtain ⟨rfl, z666, z667, z668⟩ := q665
                          have ng9 : nu M662 y < nu M y := Int.lt_of_lt_of_le (GO_lt z668 (z_M662 y 9 3 g_y rfl) m659 (fun h9 => iv_ne i657 kc_0 (by decide) ((((e_v489).trans (u2_st (a := y) (k := 8) e_M650 (u2_a (so_ne g_y g_a505 (by decide)))).symm).trans (u2_st (a := y) (k := 8) e_M654 (u2_k (by decide))).symm).trans h9))) m660.2.2
                          refine lv_iload_n hx hb dX9_unit_214 rfl (lv_at hl 4 rfl) ?_
                          refine lv_if_ne (tgt := 222) hx hb dX9_unit_215 (by decide) (fun c669 => ?_) (fun c669 => ?_)
                          · refine lv_aload_n hx hb dX9_unit_222 rfl (lv_at hl 6 rfl) ?_
                            refine lv_iload_n hx hb dX9_unit_223 rfl (lv_at hl 4 rfl) ?_
                            refine lv_if_eq (tgt := 231) hx hb dX9_unit_224 (by decide) (fun c670 => ?_) (fun c670 => ?_)
                            · exact absurd c670 (iv_ne kc_1 kc_0 (by decide))
                            · refine lv_iconst (v := 3) hx hb dX9_unit_227 (by decide) ?_
                              refine lv_goto (tgt := 233) hx hb dX9_unit_228 (by decide) ?_
                              refine lv_bipush (v := 126) hx hb dX9_unit_233 (by decide) ?_
                              refine h_gov hI (by decide) (va_runV (As := [.int (3 : Int32), .int (126 : Int32)]) (rest := []) ⟨hx, hb, hml, hown, hts⟩ (h_pushE_X9 l D g σ Z hZ0 M662 N663 R y g_y (3 : Int32) (126 : Int32) (by rw [((z_M662 y 9 39 g_y rfl).trans ((u2_st (a := y) (k := 39) e_M654 (u2_k (by decide))).trans (u2_st (a := y) (k := 39) e_M650 (u2_a (so_ne g_y g_a505 (by decide))))))]; exact iv_w (EX1_p m0_EX1 rfl) (by decide) (by decide))) (cwV 2 hts gX9_unit_X9_pushE rfl rfl rfl (by decide +kernel) ⟨Nat.le_of_ble_eq_true rfl, Nat.le_of_ble_eq_true rfl⟩) (h_preV hZ0 hK hE hI g_y (by decide) rfl) rfl rfl hl.1 rfl (lv_room (Nat.le_of_ble_eq_true rfl)) dX9_unit_235 ⟨Nat.le_of_ble_eq_true rfl, Nat.le_of_ble_eq_true rfl⟩) (fun M672 N673 R674 H locs q675 z_M672 hI => ?_)
                              obtain ⟨rfl, rfl, z676⟩ := q675
                              refine lv_aload_n hx hb dX9_unit_238 rfl (lv_at hl 6 rfl) ?_
                              refine lv_dup hx hb dX9_unit_239 rfl ?_
                              refine h_geti (lo := (-2147483648)) (hi := 2147483647) hx hb hts iX9_unit_X9 hown hK hI g_y (by decide) rfl rfl 38 (by decide) rfl rfl (hts (.fieldLink RX9 330 "CatLeasesModel" "within" "I") (List.mem_of_getElem? (i := 8) rfl)) (fun _ h9 => h9) dX9_unit_240 (fun v677 e_v677 i_v677 => ?_)
                              have q678 : v627 = v677 := (((((e_v627).trans (u2_st (a := y) (k := 38) e_M650 (u2_a (so_ne g_y g_a505 (by decide)))).symm).trans (u2_st (a := y) (k := 38) e_M654 (u2_k (by decide))).symm).trans (z_M662 y 9 38 g_y rfl).symm).trans (z_M672 y 9 38 g_y rfl).symm).trans e_v677.symm
                              subst q678
                              refine lv_iconst (v := 1) hx hb dX9_unit_243 (by decide) ?_
                              refine lv_iadd hx hb dX9_unit_244 ?_
                              refine h_nm (lo := 1) (hi := 7) (iv_add i630 kc_1 (by decide) (by decide) (by decide) (by decide)) (fun v679 e_v679 i_v679 => ?_)
                              refine h_puti hx hb hts iX9_unit_X9 tyX9 tyX9_ok nmX9 hown hK hI g_y (by decide) rfl rfl 38 (by decide) rfl (hts (.fieldLink RX9 330 "CatLeasesModel" "within" "I") (List.mem_of_getElem? (i := 8) rfl)) (fun _ h9 => h9) rfl .int (by decide +kernel) rfl rfl (iv_w (lo' := (-2147483648)) (hi' := 2147483647) i_v679 (by decide) (by decide)) rfl dX9_unit_245 (fun M680 H locs e_M680 hI => ?_)
                              refine lv_iconst (v := 1) hx hb dX9_unit_248 (by decide) ?_
                              have m681 : PI M680 y := (PI_ag hI.2.1 g_y (PI_ag hI.2.1 g_y z666 (hAd.ag z_M672 (by decide))) (hAd.put e_M680 g_y rfl))
                              have m682 : PN M M680 y := (PN_ag hI.2.1 g_y (PN_ag hI.2.1 g_y (PN_tr m660 z667) (hAd.ag z_M672 (by decide))) (hAd.put e_M680 g_y rfl))
                              have m683 : PC M M680 R y := (PC_ag hI.2.1 g_y (PC_ag hI.2.1 g_y (PC_ag hI.2.1 g_y (PC_ag hI.2.1 g_y (PC_ag hI.2.1 g_y PC_rf (hAd.put e_M650 g_a505 rfl)) (hAd.put e_M654 g_y rfl)) (hAd.ag z_M662 (by decide))) (hAd.ag z_M672 (by decide))) (hAd.put e_M680 g_y rfl))
                              exact h_iret hQ hx hb hr hlocks rfl hK hI ⟨rfl, (iv_w (lo' := 0) (hi' := 1) kc_1 (by decide) (by decide)), m681, m682, m683, (fun _ => ⟨fun h9 => absurd h9 (by decide), fun _ => (EX1_push (q := (3 : Int32)) (t := 0) m0_EX1 ((u2_st (a := y) (k := 36) e_M680 (u2_k (by decide))).trans ((z_M672 y 9 36 g_y rfl).trans ((z_M662 y 9 36 g_y rfl).trans ((u2_st (a := y) (k := 36) e_M654 (u2_k (by decide))).trans (u2_st (a := y) (k := 36) e_M650 (u2_a (so_ne g_y g_a505 (by decide)))))))) ((u2_st (a := y) (k := 37) e_M680 (u2_k (by decide))).trans ((z_M672 y 9 37 g_y rfl).trans ((z_M662 y 9 37 g_y rfl).trans ((u2_st (a := y) (k := 37) e_M654 (u2_k (by decide))).trans (u2_st (a := y) (k := 37) e_M650 (u2_a (so_ne g_y g_a505 (by decide)))))))) ((u2_row e_M680 (so_ne (hI.2.1.r1 g_y 30 130 (by decide) rfl) g_y (by decide))).trans ((hAg.row z_M672 (hI.2.1.r1 g_y 30 130 (by decide) rfl) (fun _ => rfl)).trans ((hAg.row z_M662 (hI.2.1.r1 g_y 30 130 (by decide) rfl) (fun _ => rfl)).trans ((u2_row e_M654 (so_ne (hI.2.1.r1 g_y 30 130 (by decide) rfl) g_y (by decide))).trans (u2_row e_M650 (so_ne (hI.2.1.r1 g_y 30 130 (by decide) rfl) g_a505 (by decide))))))) (by rw [← ((u2_wr e_M680)), ← (e_v627)]; exact (h_inc e_v679 i630 kc_1 (by decide) (by decide))) (by rw [← (((((u2_wr e_M654)).trans (z_M662 y 9 40 g_y rfl).symm).trans (z_M672 y 9 40 g_y rfl).symm).trans (u2_st (a := y) (k := 40) e_M680 (u2_k (by decide))).symm), ← (e_v622)]; omega) (by rw [(u2_st (a := y) (k := 39) e_M680 (u2_k (by decide))), z676.1, ((z_M662 y 9 39 g_y rfl).trans ((u2_st (a := y) (k := 39) e_M654 (u2_k (by decide))).trans (u2_st (a := y) (k := 39) e_M650 (u2_a (so_ne g_y g_a505 (by decide))))))]) (fun j => by rw [(u2_row e_M680 (so_ne (hI.2.1.r1 g_y 32 132 (by decide) rfl) g_y (by decide))), z676.2.1 j, ((hAg.row z_M662 (hI.2.1.r1 g_y 32 132 (by decide) rfl) (fun _ => rfl)).trans ((u2_row e_M654 (so_ne (hI.2.1.r1 g_y 32 132 (by decide) rfl) g_y (by decide))).trans (u2_row e_M650 (so_ne (hI.2.1.r1 g_y 32 132 (by decide) rfl) g_a505 (by decide))))), ((z_M662 y 9 39 g_y rfl).trans ((u2_st (a := y) (k := 39) e_M654 (u2_k (by decide))).trans (u2_st (a := y) (k := 39) e_M650 (u2_a (so_ne g_y g_a505 (by decide))))))]) (fun j => by rw [(u2_row e_M680 (so_ne (hI.2.1.r1 g_y 33 133 (by decide) rfl) g_y (by decide))), z676.2.2 j, ((hAg.row z_M662 (hI.2.1.r1 g_y 33 133 (by decide) rfl) (fun _ => rfl)).trans ((u2_row e_M654 (so_ne (hI.2.1.r1 g_y 33 133 (by decide) rfl) g_y (by decide))).trans (u2_row e_M650 (so_ne (hI.2.1.r1 g_y 33 133 (by decide) rfl) g_a505 (by decide))))), ((z_M662 y 9 39 g_y rfl).trans ((u2_st (a := y) (k := 39) e_M654 (u2_k (by decide))).trans (u2_st (a := y) (k := 39) e_M650 (u2_a (so_ne g_y g_a505 (by decide))))))]) (Or.inl ⟨rfl, rfl⟩) (by have h9 := i630; rw [← (e_v627)]; simp only [iv] at h9; omega) (by have h9 := i624; rw [← (e_v622)]; simp only [iv] at h9; omega))⟩), (gm_lt hg9 m0_PI i39 (fun _ => by have h9 := nu_eq (M1 := M680) (M := M662) (y := y) ((u2_st (a := y) (k := 3) e_M680 (u2_k (by decide))).trans (z_M672 y 9 3 g_y rfl)) ((u2_st (a := y) (k := 7) e_M680 (u2_k (by decide))).trans (z_M672 y 9 7 g_y rfl)) ((u2_st (a := y) (k := 8) e_M680 (u2_k (by decide))).trans (z_M672 y 9 8 g_y rfl)); have h8 := ng9; have h7 := (by rw [(u2_st (a := y) (k := 39) e_M680 (u2_k (by decide))), z676.1, ((z_M662 y 9 39 g_y rfl).trans ((u2_st (a := y) (k := 39) e_M654 (u2_k (by decide))).trans (u2_st (a := y) (k := 39) e_M650 (u2_a (so_ne g_y g_a505 (by decide))))))] : (M680 y 39).toInt = (M y 39).toInt + 1); omega))⟩ dX9_unit_249
                          · exact absurd c669 (iv_ne kc_1 kc_0 (by decide))
                        · have i684 : iv r499 0 0 := iv_eq1 c655 i_r499 kc_0
                          refine lv_aload_n hx hb dX9_unit_200 rfl (lv_at hl 5 rfl) ?_
                          refine h_geti (lo := (-2147483648)) (hi := 2147483647) hx hb hts iX9_unit_X9 hown hK hI g_y (by decide) rfl rfl 9 (by decide) rfl rfl (hts (.fieldLink RX9 224 "CatLeasesModel" "number" "I") (List.mem_of_getElem? (i := 9) rfl)) (fun _ h9 => h9) dX9_unit_201 (fun v685 e_v685 i_v685 => ?_)
                          refine lv_goto (tgt := 208) hx hb dX9_unit_204 (by decide) ?_
                          refine lv_istore (lv' := [(6, .int v685), (5, .int (0 : Int32)), (4, .int r499), (3, .int r492), (2, .int (1 : Int32)), (1, .int t0_36), (0, .ref y)]) hx hb dX9_unit_208 hl (by decide) rfl (fun ls hl => ?_)
                          refine lv_aload_n hx hb dX9_unit_210 rfl (lv_at hl 6 rfl) ?_
                          have m686 : PI M654 y := (PI_ag hI.2.1 g_y (PI_ag hI.2.1 g_y m0_PI (hAd.put e_M650 g_a505 rfl)) (hAd.put e_M654 g_y rfl))
                          have m687 : PN M M654 y := (PN_ag hI.2.1 g_y (PN_ag hI.2.1 g_y PN_rf (hAd.put e_M650 g_a505 rfl)) (hAd.put e_M654 g_y rfl))
                          refine h_gov hI (by decide) (va_runV (As := []) (rest := []) ⟨hx, hb, hml, hown, hts⟩ (h_goOn_X9 l D g σ Z hZ0 M654 N R y g_y m686) (cwV 0 hts gX9_unit_X9_goOn rfl rfl rfl (by decide +kernel) ⟨Nat.le_of_ble_eq_true rfl, Nat.le_of_ble_eq_true rfl⟩) (h_preV hZ0 hK hE hI g_y (by decide) rfl) rfl rfl hl.1 rfl (lv_room (Nat.le_of_ble_eq_true rfl)) dX9_unit_211 ⟨Nat.le_of_ble_eq_true rfl, Nat.le_of_ble_eq_true rfl⟩) (fun M689 N690 R691 H locs q692 z_M689 hI => ?_)
                          obtain ⟨rfl, z693, z694, z695⟩ := q692
                          have ng9 : nu M689 y < nu M y := Int.lt_of_lt_of_le (GO_lt z695 (z_M689 y 9 3 g_y rfl) m686 (fun h9 => iv_ne i490 kc_0 (by decide) ((((e_v489).trans (u2_st (a := y) (k := 8) e_M650 (u2_a (so_ne g_y g_a505 (by decide)))).symm).trans (u2_st (a := y) (k := 8) e_M654 (u2_k (by decide))).symm).trans h9))) m687.2.2
                          refine lv_iload_n hx hb dX9_unit_214 rfl (lv_at hl 4 rfl) ?_
                          refine lv_if_ne (tgt := 222) hx hb dX9_unit_215 (by decide) (fun c696 => ?_) (fun c696 => ?_)
                          · refine lv_aload_n hx hb dX9_unit_222 rfl (lv_at hl 6 rfl) ?_
                            refine lv_iload_n hx hb dX9_unit_223 rfl (lv_at hl 4 rfl) ?_
                            refine lv_if_eq (tgt := 231) hx hb dX9_unit_224 (by decide) (fun c697 => ?_) (fun c697 => ?_)
                            · exact absurd c697 (iv_ne kc_1 kc_0 (by decide))
                            · refine lv_iconst (v := 3) hx hb dX9_unit_227 (by decide) ?_
                              refine lv_goto (tgt := 233) hx hb dX9_unit_228 (by decide) ?_
                              refine lv_bipush (v := 126) hx hb dX9_unit_233 (by decide) ?_
                              refine h_gov hI (by decide) (va_runV (As := [.int (3 : Int32), .int (126 : Int32)]) (rest := []) ⟨hx, hb, hml, hown, hts⟩ (h_pushE_X9 l D g σ Z hZ0 M689 N690 R y g_y (3 : Int32) (126 : Int32) (by rw [((z_M689 y 9 39 g_y rfl).trans ((u2_st (a := y) (k := 39) e_M654 (u2_k (by decide))).trans (u2_st (a := y) (k := 39) e_M650 (u2_a (so_ne g_y g_a505 (by decide))))))]; exact iv_w (EX1_p m0_EX1 rfl) (by decide) (by decide))) (cwV 2 hts gX9_unit_X9_pushE rfl rfl rfl (by decide +kernel) ⟨Nat.le_of_ble_eq_true rfl, Nat.le_of_ble_eq_true rfl⟩) (h_preV hZ0 hK hE hI g_y (by decide) rfl) rfl rfl hl.1 rfl (lv_room (Nat.le_of_ble_eq_true rfl)) dX9_unit_235 ⟨Nat.le_of_ble_eq_true rfl, Nat.le_of_ble_eq_true rfl⟩) (fun M699 N700 R701 H locs q702 z_M699 hI => ?_)
                              obtain ⟨rfl, rfl, z703⟩ := q702
                              refine lv_aload_n hx hb dX9_unit_238 rfl (lv_at hl 6 rfl) ?_
                              refine lv_dup hx hb dX9_unit_239 rfl ?_
                              refine h_geti (lo := (-2147483648)) (hi := 2147483647) hx hb hts iX9_unit_X9 hown hK hI g_y (by decide) rfl rfl 38 (by decide) rfl rfl (hts (.fieldLink RX9 330 "CatLeasesModel" "within" "I") (List.mem_of_getElem? (i := 8) rfl)) (fun _ h9 => h9) dX9_unit_240 (fun v704 e_v704 i_v704 => ?_)
                              have q705 : v627 = v704 := (((((e_v627).trans (u2_st (a := y) (k := 38) e_M650 (u2_a (so_ne g_y g_a505 (by decide)))).symm).trans (u2_st (a := y) (k := 38) e_M654 (u2_k (by decide))).symm).trans (z_M689 y 9 38 g_y rfl).symm).trans (z_M699 y 9 38 g_y rfl).symm).trans e_v704.symm
                              subst q705
                              refine lv_iconst (v := 1) hx hb dX9_unit_243 (by decide) ?_
                              refine lv_iadd hx hb dX9_unit_244 ?_
                              refine h_nm (lo := 1) (hi := 7) (iv_add i630 kc_1 (by decide) (by decide) (by decide) (by decide)) (fun v706 e_v706 i_v706 => ?_)
                              refine h_puti hx hb hts iX9_unit_X9 tyX9 tyX9_ok nmX9 hown hK hI g_y (by decide) rfl rfl 38 (by decide) rfl (hts (.fieldLink RX9 330 "CatLeasesModel" "within" "I") (List.mem_of_getElem? (i := 8) rfl)) (fun _ h9 => h9) rfl .int (by decide +kernel) rfl rfl (iv_w (lo' := (-2147483648)) (hi' := 2147483647) i_v706 (by decide) (by decide)) rfl dX9_unit_245 (fun M707 H locs e_M707 hI => ?_)
                              refine lv_iconst (v := 1) hx hb dX9_unit_248 (by decide) ?_
                              have m708 : PI M707 y := (PI_ag hI.2.1 g_y (PI_ag hI.2.1 g_y z693 (hAd.ag z_M699 (by decide))) (hAd.put e_M707 g_y rfl))
                              have m709 : PN M M707 y := (PN_ag hI.2.1 g_y (PN_ag hI.2.1 g_y (PN_tr m687 z694) (hAd.ag z_M699 (by decide))) (hAd.put e_M707 g_y rfl))
                              have m710 : PC M M707 R y := (PC_ag hI.2.1 g_y (PC_ag hI.2.1 g_y (PC_ag hI.2.1 g_y (PC_ag hI.2.1 g_y (PC_ag hI.2.1 g_y PC_rf (hAd.put e_M650 g_a505 rfl)) (hAd.put e_M654 g_y rfl)) (hAd.ag z_M689 (by decide))) (hAd.ag z_M699 (by decide))) (hAd.put e_M707 g_y rfl))
                              exact h_iret hQ hx hb hr hlocks rfl hK hI ⟨rfl, (iv_w (lo' := 0) (hi' := 1) kc_1 (by decide) (by decide)), m708, m709, m710, (fun _ => ⟨fun h9 => absurd h9 (by decide), fun _ => (EX1_push (q := (3 : Int32)) (t := 0) m0_EX1 ((u2_st (a := y) (k := 36) e_M707 (u2_k (by decide))).trans ((z_M699 y 9 36 g_y rfl).trans ((z_M689 y 9 36 g_y rfl).trans ((u2_st (a := y) (k := 36) e_M654 (u2_k (by decide))).trans (u2_st (a := y) (k := 36) e_M650 (u2_a (so_ne g_y g_a505 (by decide)))))))) ((u2_st (a := y) (k := 37) e_M707 (u2_k (by decide))).trans ((z_M699 y 9 37 g_y rfl).trans ((z_M689 y 9 37 g_y rfl).trans ((u2_st (a := y) (k := 37) e_M654 (u2_k (by decide))).trans (u2_st (a := y) (k := 37) e_M650 (u2_a (so_ne g_y g_a505 (by decide)))))))) ((u2_row e_M707 (so_ne (hI.2.1.r1 g_y 30 130 (by decide) rfl) g_y (by decide))).trans ((hAg.row z_M699 (hI.2.1.r1 g_y 30 130 (by decide) rfl) (fun _ => rfl)).trans ((hAg.row z_M689 (hI.2.1.r1 g_y 30 130 (by decide) rfl) (fun _ => rfl)).trans ((u2_row e_M654 (so_ne (hI.2.1.r1 g_y 30 130 (by decide) rfl) g_y (by decide))).trans (u2_row e_M650 (so_ne (hI.2.1.r1 g_y 30 130 (by decide) rfl) g_a505 (by decide))))))) (by rw [← ((u2_wr e_M707)), ← (e_v627)]; exact (h_inc e_v706 i630 kc_1 (by decide) (by decide))) (by rw [← (((((u2_wr e_M654)).trans (z_M689 y 9 40 g_y rfl).symm).trans (z_M699 y 9 40 g_y rfl).symm).trans (u2_st (a := y) (k := 40) e_M707 (u2_k (by decide))).symm), ← (e_v622)]; omega) (by rw [(u2_st (a := y) (k := 39) e_M707 (u2_k (by decide))), z703.1, ((z_M689 y 9 39 g_y rfl).trans ((u2_st (a := y) (k := 39) e_M654 (u2_k (by decide))).trans (u2_st (a := y) (k := 39) e_M650 (u2_a (so_ne g_y g_a505 (by decide))))))]) (fun j => by rw [(u2_row e_M707 (so_ne (hI.2.1.r1 g_y 32 132 (by decide) rfl) g_y (by decide))), z703.2.1 j, ((hAg.row z_M689 (hI.2.1.r1 g_y 32 132 (by decide) rfl) (fun _ => rfl)).trans ((u2_row e_M654 (so_ne (hI.2.1.r1 g_y 32 132 (by decide) rfl) g_y (by decide))).trans (u2_row e_M650 (so_ne (hI.2.1.r1 g_y 32 132 (by decide) rfl) g_a505 (by decide))))), ((z_M689 y 9 39 g_y rfl).trans ((u2_st (a := y) (k := 39) e_M654 (u2_k (by decide))).trans (u2_st (a := y) (k := 39) e_M650 (u2_a (so_ne g_y g_a505 (by decide))))))]) (fun j => by rw [(u2_row e_M707 (so_ne (hI.2.1.r1 g_y 33 133 (by decide) rfl) g_y (by decide))), z703.2.2 j, ((hAg.row z_M689 (hI.2.1.r1 g_y 33 133 (by decide) rfl) (fun _ => rfl)).trans ((u2_row e_M654 (so_ne (hI.2.1.r1 g_y 33 133 (by decide) rfl) g_y (by decide))).trans (u2_row e_M650 (so_ne (hI.2.1.r1 g_y 33 133 (by decide) rfl) g_a505 (by decide))))), ((z_M689 y 9 39 g_y rfl).trans ((u2_st (a := y) (k := 39) e_M654 (u2_k (by decide))).trans (u2_st (a := y) (k := 39) e_M650 (u2_a (so_ne g_y g_a505 (by decide))))))]) (Or.inl ⟨rfl, rfl⟩) (by have h9 := i630; rw [← (e_v627)]; simp only [iv] at h9; omega) (by have h9 := i624; rw [← (e_v622)]; simp only [iv] at h9; omega))⟩), (gm_lt hg9 m0_PI i39 (fun _ => by have h9 := nu_eq (M1 := M707) (M := M689) (y := y) ((u2_st (a := y) (k := 3) e_M707 (u2_k (by decide))).trans (z_M699 y 9 3 g_y rfl)) ((u2_st (a := y) (k := 7) e_M707 (u2_k (by decide))).trans (z_M699 y 9 7 g_y rfl)) ((u2_st (a := y) (k := 8) e_M707 (u2_k (by decide))).trans (z_M699 y 9 8 g_y rfl)); have h8 := ng9; have h7 := (by rw [(u2_st (a := y) (k := 39) e_M707 (u2_k (by decide))), z703.1, ((z_M689 y 9 39 g_y rfl).trans ((u2_st (a := y) (k := 39) e_M654 (u2_k (by decide))).trans (u2_st (a := y) (k := 39) e_M650 (u2_a (so_ne g_y g_a505 (by decide))))))] : (M707 y 39).toInt = (M y 39).toInt + 1); omega))⟩ dX9_unit_249
                          · exact absurd c696 (iv_ne kc_1 kc_0 (by decide))
                  · obtain ⟨v711, e_v711⟩ : ∃ z : Int32, z = M y 4 := ⟨_, rfl⟩
                    have i_v711 : iv v711 0 5 := by rw [e_v711]; exact hI.iv1 (n := 67) g_y rfl (by decide) rfl
                    have i712 : iv v711 1 5 := iv_neL (fun h9 => z637 c638 (e_v711.symm.trans h9)) i_v711 (by decide) (by decide)
                    have i713 : iv r631 0 0 := iv_eq1 c638 i_r631 kc_0
                    refine lv_iconst (v := 1) hx hb dX9_unit_154 (by decide) ?_
                    exact h_iret hQ hx hb hr hlocks rfl hK hI ⟨rfl, (iv_w (lo' := 0) (hi' := 1) kc_1 (by decide) (by decide)), m0_PI, PN_rf, PC_rf, (fun h9 => gd_no (e_v711) i712 h9), (gm_lt hg9 m0_PI i39 (fun h9 => gd_no (e_v711) i712 h9))⟩ dX9_unit_155
                · have i714 : iv v627 7 7 := iv_eq1 c629 i628 kc_7
                  refine lv_aload_n hx hb dX9_unit_143 rfl (lv_at hl 5 rfl) ?_
                  refine h_gov hI (by decide) (va_runV (As := []) (rest := []) ⟨hx, hb, hml, hown, hts⟩ (h_misplaced_X9 l D g σ Z hZ0 M N R y g_y m0_PI) (cwV 0 hts gX9_unit_X9_misplaced rfl rfl rfl (by decide +kernel) ⟨Nat.le_of_ble_eq_true rfl, Nat.le_of_ble_eq_true rfl⟩) (h_preV hZ0 hK hE hI g_y (by decide) rfl) rfl rfl hl.1 rfl (lv_room (Nat.le_of_ble_eq_true rfl)) dX9_unit_144 ⟨Nat.le_of_ble_eq_true rfl, Nat.le_of_ble_eq_true rfl⟩) (fun M716 N717 R718 H locs q719 z_M716 hI => ?_)
                  obtain ⟨rfl, rfl, m720, m721, z722⟩ := q719
                  obtain ⟨v723, e_v723⟩ : ∃ z : Int32, z = M716 y 4 := ⟨_, rfl⟩
                  have i_v723 : iv v723 1 5 := by rw [e_v723]; exact z722
                  refine lv_aload_n hx hb dX9_unit_147 rfl (lv_at hl 5 rfl) ?_
                  refine h_goi hI (by decide) (va_runV (As := []) (rest := []) ⟨hx, hb, hml, hown, hts⟩ (h_isGood_X9 l D g σ Z hZ0 M716 N R y g_y) (cwV 0 hts gX9_unit_X9_isGood rfl rfl rfl (by decide +kernel) ⟨Nat.le_of_ble_eq_true rfl, Nat.le_of_ble_eq_true rfl⟩) (h_preV hZ0 hK hE hI g_y (by decide) rfl) rfl rfl hl.1 rfl (lv_room (Nat.le_of_ble_eq_true rfl)) dX9_unit_148 ⟨Nat.le_of_ble_eq_true rfl, Nat.le_of_ble_eq_true rfl⟩) (fun r724 M725 N726 R727 H locs q728 z_M725 hI => ?_)
                  obtain ⟨rfl, rfl, rfl, i_r724, z729, z730⟩ := q728
                  refine lv_if_ne (tgt := 156) hx hb dX9_unit_151 (by decide) (fun c731 => ?_) (fun c731 => ?_)
                  · exact absurd ((e_v723).trans (z729 c731)) (iv_ne i_v723 kc_0 (by decide))
                  · have i732 : iv v723 1 5 := iv_neL (fun h9 => z730 c731 ((e_v723).symm.trans h9)) i_v723 (by decide) (by decide)
                    have i733 : iv r724 0 0 := iv_eq1 c731 i_r724 kc_0
                    refine lv_iconst (v := 1) hx hb dX9_unit_154 (by decide) ?_
                    have m734 : PN M M716 y := (PN_tr PN_rf m721)
                    have m735 : PC M M716 R y := (PC_ag hI.2.1 g_y PC_rf (hAd.ag z_M716 (by decide)))
                    exact h_iret hQ hx hb hr hlocks rfl hK hI ⟨rfl, (iv_w (lo' := 0) (hi' := 1) kc_1 (by decide) (by decide)), m720, m734, m735, (fun h9 => gd_no (e_v723) i732 h9), (gm_lt hg9 m0_PI i39 (fun h9 => gd_no (e_v723) i732 h9))⟩ dX9_unit_155
              · exact absurd c626 (iv_ne kc_1 kc_0 (by decide))
            · exact absurd c625 (iv_ne kc_1 kc_0 (by decide))
          · have i736 : iv v622 30 30 := iv_eq1 c623 i_v622 kc_30
            refine lv_iconst (v := 1) hx hb dX9_unit_93 (by decide) ?_
            refine lv_goto (tgt := 98) hx hb dX9_unit_94 (by decide) ?_
            refine lv_istore (lv' := [(5, .int (1 : Int32)), (4, .int r499), (3, .int r492), (2, .int (1 : Int32)), (1, .int t0_36), (0, .ref y)]) hx hb dX9_unit_98 hl (by decide) rfl (fun ls hl => ?_)
            refine lv_iload_n hx hb dX9_unit_100 rfl (lv_at hl 3 rfl) ?_
            refine lv_if_ne (tgt := 126) hx hb dX9_unit_101 (by decide) (fun c737 => ?_) (fun c737 => ?_)
            · refine lv_iload_n hx hb dX9_unit_126 rfl (lv_at hl 3 rfl) ?_
              refine lv_if_ne (tgt := 134) hx hb dX9_unit_127 (by decide) (fun c738 => ?_) (fun c738 => ?_)
              · refine lv_aload_n hx hb dX9_unit_134 rfl (lv_at hl 5 rfl) ?_
                refine h_geti (lo := (-2147483648)) (hi := 2147483647) hx hb hts iX9_unit_X9 hown hK hI g_y (by decide) rfl rfl 38 (by decide) rfl rfl (hts (.fieldLink RX9 330 "CatLeasesModel" "within" "I") (List.mem_of_getElem? (i := 8) rfl)) (fun _ h9 => h9) dX9_unit_135 (fun v739 e_v739 i_v739 => ?_)
                have i740 : iv v739 0 7 := EX1_w m0_EX1 e_v739
                refine lv_bipush (v := 7) hx hb dX9_unit_138 (by decide) ?_
                refine lv_icmp_ne (tgt := 147) hx hb dX9_unit_140 (by decide) (fun c741 => ?_) (fun c741 => ?_)
                · have i742 : iv v739 0 6 := iv_neH c741 i740 (by decide) (by decide)
                  refine lv_aload_n hx hb dX9_unit_147 rfl (lv_at hl 5 rfl) ?_
                  refine h_goi hI (by decide) (va_runV (As := []) (rest := []) ⟨hx, hb, hml, hown, hts⟩ (h_isGood_X9 l D g σ Z hZ0 M N R y g_y) (cwV 0 hts gX9_unit_X9_isGood rfl rfl rfl (by decide +kernel) ⟨Nat.le_of_ble_eq_true rfl, Nat.le_of_ble_eq_true rfl⟩) (h_preV hZ0 hK hE hI g_y (by decide) rfl) rfl rfl hl.1 rfl (lv_room (Nat.le_of_ble_eq_true rfl)) dX9_unit_148 ⟨Nat.le_of_ble_eq_true rfl, Nat.le_of_ble_eq_true rfl⟩) (fun r743 M744 N745 R746 H locs q747 z_M744 hI => ?_)
                  obtain ⟨rfl, rfl, rfl, i_r743, z748, z749⟩ := q747
                  refine lv_if_ne (tgt := 156) hx hb dX9_unit_151 (by decide) (fun c750 => ?_) (fun c750 => ?_)
                  · obtain ⟨v751, e_v751⟩ : ∃ z : Int32, z = M y 4 := ⟨_, rfl⟩
                    have i_v751 : iv v751 0 5 := by rw [e_v751]; exact hI.iv1 (n := 67) g_y rfl (by decide) rfl
                    have i752 : iv v751 0 0 := by rw [e_v751, z748 c750]; exact kc_0
                    have i753 : iv r743 1 1 := iv_neL c750 i_r743 (by decide) (by decide)
                    obtain ⟨v754, e_v754⟩ : ∃ z : Int32, z = M y 37 := ⟨_, rfl⟩
                    have i_v754 : iv v754 0 1120 := by rw [e_v754]; exact hI.iv1 (n := 67) g_y rfl (by decide) rfl
                    refine lv_aload_n hx hb dX9_unit_156 rfl (lv_at hl 5 rfl) ?_
                    refine h_getr hx hb hts iX9_unit_X9 hown hK hI g_y (by decide) rfl rfl 14 (by decide) rfl 114 rfl (hts (.fieldLink RX9 30 "CatLeasesModel" "units" "[I") (List.mem_of_getElem? (i := 4) rfl)) (fun _ h9 => h9) dX9_unit_157 (fun a755 e_a755 g_a755 => ?_)
                    have q756 : a505 = a755 := (e_a505).trans e_a755.symm
                    subst q756
                    refine lv_aload_n hx hb dX9_unit_160 rfl (lv_at hl 5 rfl) ?_
                    refine h_geti (lo := 0) (hi := 1) hx hb hts iX9_unit_X9 hown hK hI g_y (by decide) rfl rfl 36 (by decide) rfl rfl (hts (.fieldLink RX9 259 "CatLeasesModel" "rb" "I") (List.mem_of_getElem? (i := 5) rfl)) (fun _ h9 => h9) dX9_unit_161 (fun v757 e_v757 i_v757 => ?_)
                    have q758 : v506 = v757 := (e_v506).trans e_v757.symm
                    subst q758
                    refine lv_dup2_11 hx hb dX9_unit_164 rfl rfl ?_
                    refine h_iald (j := v506.toNatClampNeg) (lo := (-2147483648)) (hi := 2147483647) hx hb hK hI g_a505 (by decide) rfl (iv_in (n := 2) i_v506 (by decide) (by decide)) rfl (iv_any _) dX9_unit_165 (fun v759 e_v759 i_v759 => ?_)
                    have q760 : v507 = v759 := (e_v507).trans e_v759.symm
                    subst q760
                    refine lv_iload_n hx hb dX9_unit_166 rfl (lv_at hl 3 rfl) ?_
                    refine lv_if_eq (tgt := 174) hx hb dX9_unit_167 (by decide) (fun c761 => ?_) (fun c761 => ?_)
                    · exact absurd c761 (iv_ne kc_1 kc_0 (by decide))
                    · refine lv_iconst (v := 0) hx hb dX9_unit_170 (by decide) ?_
                      refine lv_goto (tgt := 175) hx hb dX9_unit_171 (by decide) ?_
                      refine lv_iadd hx hb dX9_unit_175 ?_
                      refine k_top (v := v507) (Int32.add_zero _) ?_
                      refine h_iast (j := v506.toNatClampNeg) hx hb hK hI g_a505 (by decide) rfl (iv_in (n := 2) i_v506 (by decide) (by decide)) rfl (iv_any _) rfl dX9_unit_176 (fun M762 H locs e_M762 hI => ?_)
                      refine lv_aload_n hx hb dX9_unit_177 rfl (lv_at hl 5 rfl) ?_
                      refine lv_dup hx hb dX9_unit_178 rfl ?_
                      refine h_geti (lo := 0) (hi := 30) hx hb hts iX9_unit_X9 hown hK hI g_y (by decide) rfl rfl 40 (by decide) rfl rfl (hts (.fieldLink RX9 321 "CatLeasesModel" "unitsInRule" "I") (List.mem_of_getElem? (i := 6) rfl)) (fun _ h9 => h9) dX9_unit_179 (fun v763 e_v763 i_v763 => ?_)
                      have q764 : v622 = v763 := ((e_v622).trans (u2_st (a := y) (k := 40) e_M762 (u2_a (so_ne g_y g_a505 (by decide)))).symm).trans e_v763.symm
                      subst q764
                      refine lv_iload_n hx hb dX9_unit_182 rfl (lv_at hl 3 rfl) ?_
                      refine lv_if_eq (tgt := 190) hx hb dX9_unit_183 (by decide) (fun c765 => ?_) (fun c765 => ?_)
                      · exact absurd c765 (iv_ne kc_1 kc_0 (by decide))
                      · refine lv_iconst (v := 0) hx hb dX9_unit_186 (by decide) ?_
                        refine lv_goto (tgt := 191) hx hb dX9_unit_187 (by decide) ?_
                        refine lv_iadd hx hb dX9_unit_191 ?_
                        refine k_top (v := v622) (Int32.add_zero _) ?_
                        refine h_puti hx hb hts iX9_unit_X9 tyX9 tyX9_ok nmX9 hown hK hI g_y (by decide) rfl rfl 40 (by decide) rfl (hts (.fieldLink RX9 321 "CatLeasesModel" "unitsInRule" "I") (List.mem_of_getElem? (i := 6) rfl)) (fun _ h9 => h9) rfl .int (by decide +kernel) rfl rfl (iv_w (lo' := 0) (hi' := 30) i736 (by decide) (by decide)) rfl dX9_unit_192 (fun M766 H locs e_M766 hI => ?_)
                        refine lv_iload hx hb dX9_unit_195 (lv_at hl 1 rfl) ?_
                        refine lv_if_ne (tgt := 207) hx hb dX9_unit_197 (by decide) (fun c767 => ?_) (fun c767 => ?_)
                        · have i768 := z504 c767
                          have i769 : iv v489 3 3 := by rw [(((e_v489).trans (u2_st (a := y) (k := 8) e_M762 (u2_a (so_ne g_y g_a505 (by decide)))).symm).trans (u2_st (a := y) (k := 8) e_M766 (u2_k (by decide))).symm), i768.2]; exact kc_3
                          have i770 : iv r499 1 119 := iv_neL c767 i_r499 (by decide) (by decide)
                          refine lv_iconst (v := 0) hx hb dX9_unit_207 (by decide) ?_
                          refine lv_istore (lv' := [(6, .int (0 : Int32)), (5, .int (1 : Int32)), (4, .int r499), (3, .int r492), (2, .int (1 : Int32)), (1, .int t0_36), (0, .ref y)]) hx hb dX9_unit_208 hl (by decide) rfl (fun ls hl => ?_)
                          refine lv_aload_n hx hb dX9_unit_210 rfl (lv_at hl 6 rfl) ?_
                          have m771 : PI M766 y := (PI_ag hI.2.1 g_y (PI_ag hI.2.1 g_y m0_PI (hAd.put e_M762 g_a505 rfl)) (hAd.put e_M766 g_y rfl))
                          have m772 : PN M M766 y := (PN_ag hI.2.1 g_y (PN_ag hI.2.1 g_y PN_rf (hAd.put e_M762 g_a505 rfl)) (hAd.put e_M766 g_y rfl))
                          refine h_gov hI (by decide) (va_runV (As := []) (rest := []) ⟨hx, hb, hml, hown, hts⟩ (h_goOn_X9 l D g σ Z hZ0 M766 N R y g_y m771) (cwV 0 hts gX9_unit_X9_goOn rfl rfl rfl (by decide +kernel) ⟨Nat.le_of_ble_eq_true rfl, Nat.le_of_ble_eq_true rfl⟩) (h_preV hZ0 hK hE hI g_y (by decide) rfl) rfl rfl hl.1 rfl (lv_room (Nat.le_of_ble_eq_true rfl)) dX9_unit_211 ⟨Nat.le_of_ble_eq_true rfl, Nat.le_of_ble_eq_true rfl⟩) (fun M774 N775 R776 H locs q777 z_M774 hI => ?_)
                          obtain ⟨rfl, z778, z779, z780⟩ := q777
                          have ng9 : nu M774 y < nu M y := Int.lt_of_lt_of_le (GO_lt z780 (z_M774 y 9 3 g_y rfl) m771 (fun h9 => iv_ne i769 kc_0 (by decide) ((((e_v489).trans (u2_st (a := y) (k := 8) e_M762 (u2_a (so_ne g_y g_a505 (by decide)))).symm).trans (u2_st (a := y) (k := 8) e_M766 (u2_k (by decide))).symm).trans h9))) m772.2.2
                          refine lv_iload_n hx hb dX9_unit_214 rfl (lv_at hl 4 rfl) ?_
                          refine lv_if_ne (tgt := 222) hx hb dX9_unit_215 (by decide) (fun c781 => ?_) (fun c781 => ?_)
                          · refine lv_aload_n hx hb dX9_unit_222 rfl (lv_at hl 6 rfl) ?_
                            refine lv_iload_n hx hb dX9_unit_223 rfl (lv_at hl 4 rfl) ?_
                            refine lv_if_eq (tgt := 231) hx hb dX9_unit_224 (by decide) (fun c782 => ?_) (fun c782 => ?_)
                            · exact absurd c782 (iv_ne kc_1 kc_0 (by decide))
                            · refine lv_iconst (v := 3) hx hb dX9_unit_227 (by decide) ?_
                              refine lv_goto (tgt := 233) hx hb dX9_unit_228 (by decide) ?_
                              refine lv_bipush (v := 126) hx hb dX9_unit_233 (by decide) ?_
                              refine h_gov hI (by decide) (va_runV (As := [.int (3 : Int32), .int (126 : Int32)]) (rest := []) ⟨hx, hb, hml, hown, hts⟩ (h_pushE_X9 l D g σ Z hZ0 M774 N775 R y g_y (3 : Int32) (126 : Int32) (by rw [((z_M774 y 9 39 g_y rfl).trans ((u2_st (a := y) (k := 39) e_M766 (u2_k (by decide))).trans (u2_st (a := y) (k := 39) e_M762 (u2_a (so_ne g_y g_a505 (by decide))))))]; exact iv_w (EX1_p m0_EX1 rfl) (by decide) (by decide))) (cwV 2 hts gX9_unit_X9_pushE rfl rfl rfl (by decide +kernel) ⟨Nat.le_of_ble_eq_true rfl, Nat.le_of_ble_eq_true rfl⟩) (h_preV hZ0 hK hE hI g_y (by decide) rfl) rfl rfl hl.1 rfl (lv_room (Nat.le_of_ble_eq_true rfl)) dX9_unit_235 ⟨Nat.le_of_ble_eq_true rfl, Nat.le_of_ble_eq_true rfl⟩) (fun M784 N785 R786 H locs q787 z_M784 hI => ?_)
                              obtain ⟨rfl, rfl, z788⟩ := q787
                              refine lv_aload_n hx hb dX9_unit_238 rfl (lv_at hl 6 rfl) ?_
                              refine lv_dup hx hb dX9_unit_239 rfl ?_
                              refine h_geti (lo := (-2147483648)) (hi := 2147483647) hx hb hts iX9_unit_X9 hown hK hI g_y (by decide) rfl rfl 38 (by decide) rfl rfl (hts (.fieldLink RX9 330 "CatLeasesModel" "within" "I") (List.mem_of_getElem? (i := 8) rfl)) (fun _ h9 => h9) dX9_unit_240 (fun v789 e_v789 i_v789 => ?_)
                              have q790 : v739 = v789 := (((((e_v739).trans (u2_st (a := y) (k := 38) e_M762 (u2_a (so_ne g_y g_a505 (by decide)))).symm).trans (u2_st (a := y) (k := 38) e_M766 (u2_k (by decide))).symm).trans (z_M774 y 9 38 g_y rfl).symm).trans (z_M784 y 9 38 g_y rfl).symm).trans e_v789.symm
                              subst q790
                              refine lv_iconst (v := 1) hx hb dX9_unit_243 (by decide) ?_
                              refine lv_iadd hx hb dX9_unit_244 ?_
                              refine h_nm (lo := 1) (hi := 7) (iv_add i742 kc_1 (by decide) (by decide) (by decide) (by decide)) (fun v791 e_v791 i_v791 => ?_)
                              refine h_puti hx hb hts iX9_unit_X9 tyX9 tyX9_ok nmX9 hown hK hI g_y (by decide) rfl rfl 38 (by decide) rfl (hts (.fieldLink RX9 330 "CatLeasesModel" "within" "I") (List.mem_of_getElem? (i := 8) rfl)) (fun _ h9 => h9) rfl .int (by decide +kernel) rfl rfl (iv_w (lo' := (-2147483648)) (hi' := 2147483647) i_v791 (by decide) (by decide)) rfl dX9_unit_245 (fun M792 H locs e_M792 hI => ?_)
                              refine lv_iconst (v := 1) hx hb dX9_unit_248 (by decide) ?_
                              have m793 : PI M792 y := (PI_ag hI.2.1 g_y (PI_ag hI.2.1 g_y z778 (hAd.ag z_M784 (by decide))) (hAd.put e_M792 g_y rfl))
                              have m794 : PN M M792 y := (PN_ag hI.2.1 g_y (PN_ag hI.2.1 g_y (PN_tr m772 z779) (hAd.ag z_M784 (by decide))) (hAd.put e_M792 g_y rfl))
                              have m795 : PC M M792 R y := (PC_ag hI.2.1 g_y (PC_ag hI.2.1 g_y (PC_ag hI.2.1 g_y (PC_ag hI.2.1 g_y (PC_ag hI.2.1 g_y PC_rf (hAd.put e_M762 g_a505 rfl)) (hAd.put e_M766 g_y rfl)) (hAd.ag z_M774 (by decide))) (hAd.ag z_M784 (by decide))) (hAd.put e_M792 g_y rfl))
                              exact h_iret hQ hx hb hr hlocks rfl hK hI ⟨rfl, (iv_w (lo' := 0) (hi' := 1) kc_1 (by decide) (by decide)), m793, m794, m795, (fun _ => ⟨fun h9 => absurd h9 (by decide), fun _ => (EX1_push (q := (3 : Int32)) (t := 0) m0_EX1 ((u2_st (a := y) (k := 36) e_M792 (u2_k (by decide))).trans ((z_M784 y 9 36 g_y rfl).trans ((z_M774 y 9 36 g_y rfl).trans ((u2_st (a := y) (k := 36) e_M766 (u2_k (by decide))).trans (u2_st (a := y) (k := 36) e_M762 (u2_a (so_ne g_y g_a505 (by decide)))))))) ((u2_st (a := y) (k := 37) e_M792 (u2_k (by decide))).trans ((z_M784 y 9 37 g_y rfl).trans ((z_M774 y 9 37 g_y rfl).trans ((u2_st (a := y) (k := 37) e_M766 (u2_k (by decide))).trans (u2_st (a := y) (k := 37) e_M762 (u2_a (so_ne g_y g_a505 (by decide)))))))) ((u2_row e_M792 (so_ne (hI.2.1.r1 g_y 30 130 (by decide) rfl) g_y (by decide))).trans ((hAg.row z_M784 (hI.2.1.r1 g_y 30 130 (by decide) rfl) (fun _ => rfl)).trans ((hAg.row z_M774 (hI.2.1.r1 g_y 30 130 (by decide) rfl) (fun _ => rfl)).trans ((u2_row e_M766 (so_ne (hI.2.1.r1 g_y 30 130 (by decide) rfl) g_y (by decide))).trans (u2_row e_M762 (so_ne (hI.2.1.r1 g_y 30 130 (by decide) rfl) g_a505 (by decide))))))) (by rw [← ((u2_wr e_M792)), ← (e_v739)]; exact (h_inc e_v791 i742 kc_1 (by decide) (by decide))) (by rw [← (((((u2_wr e_M766)).trans (z_M774 y 9 40 g_y rfl).symm).trans (z_M784 y 9 40 g_y rfl).symm).trans (u2_st (a := y) (k := 40) e_M792 (u2_k (by decide))).symm), ← (e_v622)]; omega) (by rw [(u2_st (a := y) (k := 39) e_M792 (u2_k (by decide))), z788.1, ((z_M774 y 9 39 g_y rfl).trans ((u2_st (a := y) (k := 39) e_M766 (u2_k (by decide))).trans (u2_st (a := y) (k := 39) e_M762 (u2_a (so_ne g_y g_a505 (by decide))))))]) (fun j => by rw [(u2_row e_M792 (so_ne (hI.2.1.r1 g_y 32 132 (by decide) rfl) g_y (by decide))), z788.2.1 j, ((hAg.row z_M774 (hI.2.1.r1 g_y 32 132 (by decide) rfl) (fun _ => rfl)).trans ((u2_row e_M766 (so_ne (hI.2.1.r1 g_y 32 132 (by decide) rfl) g_y (by decide))).trans (u2_row e_M762 (so_ne (hI.2.1.r1 g_y 32 132 (by decide) rfl) g_a505 (by decide))))), ((z_M774 y 9 39 g_y rfl).trans ((u2_st (a := y) (k := 39) e_M766 (u2_k (by decide))).trans (u2_st (a := y) (k := 39) e_M762 (u2_a (so_ne g_y g_a505 (by decide))))))]) (fun j => by rw [(u2_row e_M792 (so_ne (hI.2.1.r1 g_y 33 133 (by decide) rfl) g_y (by decide))), z788.2.2 j, ((hAg.row z_M774 (hI.2.1.r1 g_y 33 133 (by decide) rfl) (fun _ => rfl)).trans ((u2_row e_M766 (so_ne (hI.2.1.r1 g_y 33 133 (by decide) rfl) g_y (by decide))).trans (u2_row e_M762 (so_ne (hI.2.1.r1 g_y 33 133 (by decide) rfl) g_a505 (by decide))))), ((z_M774 y 9 39 g_y rfl).trans ((u2_st (a := y) (k := 39) e_M766 (u2_k (by decide))).trans (u2_st (a := y) (k := 39) e_M762 (u2_a (so_ne g_y g_a505 (by decide))))))]) (Or.inl ⟨rfl, rfl⟩) (by have h9 := i742; rw [← (e_v739)]; simp only [iv] at h9; omega) (by have h9 := i736; rw [← (e_v622)]; simp only [iv] at h9; omega))⟩), (gm_lt hg9 m0_PI i39 (fun _ => by have h9 := nu_eq (M1 := M792) (M := M774) (y := y) ((u2_st (a := y) (k := 3) e_M792 (u2_k (by decide))).trans (z_M784 y 9 3 g_y rfl)) ((u2_st (a := y) (k := 7) e_M792 (u2_k (by decide))).trans (z_M784 y 9 7 g_y rfl)) ((u2_st (a := y) (k := 8) e_M792 (u2_k (by decide))).trans (z_M784 y 9 8 g_y rfl)); have h8 := ng9; have h7 := (by rw [(u2_st (a := y) (k := 39) e_M792 (u2_k (by decide))), z788.1, ((z_M774 y 9 39 g_y rfl).trans ((u2_st (a := y) (k := 39) e_M766 (u2_k (by decide))).trans (u2_st (a := y) (k := 39) e_M762 (u2_a (so_ne g_y g_a505 (by decide))))))] : (M792 y 39).toInt = (M y 39).toInt + 1); omega))⟩ dX9_unit_249
                          · exact absurd c781 (iv_ne kc_1 kc_0 (by decide))
                        · have i796 : iv r499 0 0 := iv_eq1 c767 i_r499 kc_0
                          refine lv_aload_n hx hb dX9_unit_200 rfl (lv_at hl 5 rfl) ?_
                          refine h_geti (lo := (-2147483648)) (hi := 2147483647) hx hb hts iX9_unit_X9 hown hK hI g_y (by decide) rfl rfl 9 (by decide) rfl rfl (hts (.fieldLink RX9 224 "CatLeasesModel" "number" "I") (List.mem_of_getElem? (i := 9) rfl)) (fun _ h9 => h9) dX9_unit_201 (fun v797 e_v797 i_v797 => ?_)
                          refine lv_goto (tgt := 208) hx hb dX9_unit_204 (by decide) ?_
                          refine lv_istore (lv' := [(6, .int v797), (5, .int (1 : Int32)), (4, .int r499), (3, .int r492), (2, .int (1 : Int32)), (1, .int t0_36), (0, .ref y)]) hx hb dX9_unit_208 hl (by decide) rfl (fun ls hl => ?_)
                          refine lv_aload_n hx hb dX9_unit_210 rfl (lv_at hl 6 rfl) ?_
                          have m798 : PI M766 y := (PI_ag hI.2.1 g_y (PI_ag hI.2.1 g_y m0_PI (hAd.put e_M762 g_a505 rfl)) (hAd.put e_M766 g_y rfl))
                          have m799 : PN M M766 y := (PN_ag hI.2.1 g_y (PN_ag hI.2.1 g_y PN_rf (hAd.put e_M762 g_a505 rfl)) (hAd.put e_M766 g_y rfl))
                          refine h_gov hI (by decide) (va_runV (As := []) (rest := []) ⟨hx, hb, hml, hown, hts⟩ (h_goOn_X9 l D g σ Z hZ0 M766 N R y g_y m798) (cwV 0 hts gX9_unit_X9_goOn rfl rfl rfl (by decide +kernel) ⟨Nat.le_of_ble_eq_true rfl, Nat.le_of_ble_eq_true rfl⟩) (h_preV hZ0 hK hE hI g_y (by decide) rfl) rfl rfl hl.1 rfl (lv_room (Nat.le_of_ble_eq_true rfl)) dX9_unit_211 ⟨Nat.le_of_ble_eq_true rfl, Nat.le_of_ble_eq_true rfl⟩) (fun M801 N802 R803 H locs q804 z_M801 hI => ?_)
                          obtain ⟨rfl, z805, z806, z807⟩ := q804
                          have ng9 : nu M801 y < nu M y := Int.lt_of_lt_of_le (GO_lt z807 (z_M801 y 9 3 g_y rfl) m798 (fun h9 => iv_ne i490 kc_0 (by decide) ((((e_v489).trans (u2_st (a := y) (k := 8) e_M762 (u2_a (so_ne g_y g_a505 (by decide)))).symm).trans (u2_st (a := y) (k := 8) e_M766 (u2_k (by decide))).symm).trans h9))) m799.2.2
                          refine lv_iload_n hx hb dX9_unit_214 rfl (lv_at hl 4 rfl) ?_
                          refine lv_if_ne (tgt := 222) hx hb dX9_unit_215 (by decide) (fun c808 => ?_) (fun c808 => ?_)
                          · refine lv_aload_n hx hb dX9_unit_222 rfl (lv_at hl 6 rfl) ?_
                            refine lv_iload_n hx hb dX9_unit_223 rfl (lv_at hl 4 rfl) ?_
                            refine lv_if_eq (tgt := 231) hx hb dX9_unit_224 (by decide) (fun c809 => ?_) (fun c809 => ?_)
                            · exact absurd c809 (iv_ne kc_1 kc_0 (by decide))
                            · refine lv_iconst (v := 3) hx hb dX9_unit_227 (by decide) ?_
                              refine lv_goto (tgt := 233) hx hb dX9_unit_228 (by decide) ?_
                              refine lv_bipush (v := 126) hx hb dX9_unit_233 (by decide) ?_
                              refine h_gov hI (by decide) (va_runV (As := [.int (3 : Int32), .int (126 : Int32)]) (rest := []) ⟨hx, hb, hml, hown, hts⟩ (h_pushE_X9 l D g σ Z hZ0 M801 N802 R y g_y (3 : Int32) (126 : Int32) (by rw [((z_M801 y 9 39 g_y rfl).trans ((u2_st (a := y) (k := 39) e_M766 (u2_k (by decide))).trans (u2_st (a := y) (k := 39) e_M762 (u2_a (so_ne g_y g_a505 (by decide))))))]; exact iv_w (EX1_p m0_EX1 rfl) (by decide) (by decide))) (cwV 2 hts gX9_unit_X9_pushE rfl rfl rfl (by decide +kernel) ⟨Nat.le_of_ble_eq_true rfl, Nat.le_of_ble_eq_true rfl⟩) (h_preV hZ0 hK hE hI g_y (by decide) rfl) rfl rfl hl.1 rfl (lv_room (Nat.le_of_ble_eq_true rfl)) dX9_unit_235 ⟨Nat.le_of_ble_eq_true rfl, Nat.le_of_ble_eq_true rfl⟩) (fun M811 N812 R813 H locs q814 z_M811 hI => ?_)
                              obtain ⟨rfl, rfl, z815⟩ := q814
                              refine lv_aload_n hx hb dX9_unit_238 rfl (lv_at hl 6 rfl) ?_
                              refine lv_dup hx hb dX9_unit_239 rfl ?_
                              refine h_geti (lo := (-2147483648)) (hi := 2147483647) hx hb hts iX9_unit_X9 hown hK hI g_y (by decide) rfl rfl 38 (by decide) rfl rfl (hts (.fieldLink RX9 330 "CatLeasesModel" "within" "I") (List.mem_of_getElem? (i := 8) rfl)) (fun _ h9 => h9) dX9_unit_240 (fun v816 e_v816 i_v816 => ?_)
                              have q817 : v739 = v816 := (((((e_v739).trans (u2_st (a := y) (k := 38) e_M762 (u2_a (so_ne g_y g_a505 (by decide)))).symm).trans (u2_st (a := y) (k := 38) e_M766 (u2_k (by decide))).symm).trans (z_M801 y 9 38 g_y rfl).symm).trans (z_M811 y 9 38 g_y rfl).symm).trans e_v816.symm
                              subst q817
                              refine lv_iconst (v := 1) hx hb dX9_unit_243 (by decide) ?_
                              refine lv_iadd hx hb dX9_unit_244 ?_
                              refine h_nm (lo := 1) (hi := 7) (iv_add i742 kc_1 (by decide) (by decide) (by decide) (by decide)) (fun v818 e_v818 i_v818 => ?_)
                              refine h_puti hx hb hts iX9_unit_X9 tyX9 tyX9_ok nmX9 hown hK hI g_y (by decide) rfl rfl 38 (by decide) rfl (hts (.fieldLink RX9 330 "CatLeasesModel" "within" "I") (List.mem_of_getElem? (i := 8) rfl)) (fun _ h9 => h9) rfl .int (by decide +kernel) rfl rfl (iv_w (lo' := (-2147483648)) (hi' := 2147483647) i_v818 (by decide) (by decide)) rfl dX9_unit_245 (fun M819 H locs e_M819 hI => ?_)
                              refine lv_iconst (v := 1) hx hb dX9_unit_248 (by decide) ?_
                              have m820 : PI M819 y := (PI_ag hI.2.1 g_y (PI_ag hI.2.1 g_y z805 (hAd.ag z_M811 (by decide))) (hAd.put e_M819 g_y rfl))
                              have m821 : PN M M819 y := (PN_ag hI.2.1 g_y (PN_ag hI.2.1 g_y (PN_tr m799 z806) (hAd.ag z_M811 (by decide))) (hAd.put e_M819 g_y rfl))
                              have m822 : PC M M819 R y := (PC_ag hI.2.1 g_y (PC_ag hI.2.1 g_y (PC_ag hI.2.1 g_y (PC_ag hI.2.1 g_y (PC_ag hI.2.1 g_y PC_rf (hAd.put e_M762 g_a505 rfl)) (hAd.put e_M766 g_y rfl)) (hAd.ag z_M801 (by decide))) (hAd.ag z_M811 (by decide))) (hAd.put e_M819 g_y rfl))
                              exact h_iret hQ hx hb hr hlocks rfl hK hI ⟨rfl, (iv_w (lo' := 0) (hi' := 1) kc_1 (by decide) (by decide)), m820, m821, m822, (fun _ => ⟨fun h9 => absurd h9 (by decide), fun _ => (EX1_push (q := (3 : Int32)) (t := 0) m0_EX1 ((u2_st (a := y) (k := 36) e_M819 (u2_k (by decide))).trans ((z_M811 y 9 36 g_y rfl).trans ((z_M801 y 9 36 g_y rfl).trans ((u2_st (a := y) (k := 36) e_M766 (u2_k (by decide))).trans (u2_st (a := y) (k := 36) e_M762 (u2_a (so_ne g_y g_a505 (by decide)))))))) ((u2_st (a := y) (k := 37) e_M819 (u2_k (by decide))).trans ((z_M811 y 9 37 g_y rfl).trans ((z_M801 y 9 37 g_y rfl).trans ((u2_st (a := y) (k := 37) e_M766 (u2_k (by decide))).trans (u2_st (a := y) (k := 37) e_M762 (u2_a (so_ne g_y g_a505 (by decide)))))))) ((u2_row e_M819 (so_ne (hI.2.1.r1 g_y 30 130 (by decide) rfl) g_y (by decide))).trans ((hAg.row z_M811 (hI.2.1.r1 g_y 30 130 (by decide) rfl) (fun _ => rfl)).trans ((hAg.row z_M801 (hI.2.1.r1 g_y 30 130 (by decide) rfl) (fun _ => rfl)).trans ((u2_row e_M766 (so_ne (hI.2.1.r1 g_y 30 130 (by decide) rfl) g_y (by decide))).trans (u2_row e_M762 (so_ne (hI.2.1.r1 g_y 30 130 (by decide) rfl) g_a505 (by decide))))))) (by rw [← ((u2_wr e_M819)), ← (e_v739)]; exact (h_inc e_v818 i742 kc_1 (by decide) (by decide))) (by rw [← (((((u2_wr e_M766)).trans (z_M801 y 9 40 g_y rfl).symm).trans (z_M811 y 9 40 g_y rfl).symm).trans (u2_st (a := y) (k := 40) e_M819 (u2_k (by decide))).symm), ← (e_v622)]; omega) (by rw [(u2_st (a := y) (k := 39) e_M819 (u2_k (by decide))), z815.1, ((z_M801 y 9 39 g_y rfl).trans ((u2_st (a := y) (k := 39) e_M766 (u2_k (by decide))).trans (u2_st (a := y) (k := 39) e_M762 (u2_a (so_ne g_y g_a505 (by decide))))))]) (fun j => by rw [(u2_row e_M819 (so_ne (hI.2.1.r1 g_y 32 132 (by decide) rfl) g_y (by decide))), z815.2.1 j, ((hAg.row z_M801 (hI.2.1.r1 g_y 32 132 (by decide) rfl) (fun _ => rfl)).trans ((u2_row e_M766 (so_ne (hI.2.1.r1 g_y 32 132 (by decide) rfl) g_y (by decide))).trans (u2_row e_M762 (so_ne (hI.2.1.r1 g_y 32 132 (by decide) rfl) g_a505 (by decide))))), ((z_M801 y 9 39 g_y rfl).trans ((u2_st (a := y) (k := 39) e_M766 (u2_k (by decide))).trans (u2_st (a := y) (k := 39) e_M762 (u2_a (so_ne g_y g_a505 (by decide))))))]) (fun j => by rw [(u2_row e_M819 (so_ne (hI.2.1.r1 g_y 33 133 (by decide) rfl) g_y (by decide))), z815.2.2 j, ((hAg.row z_M801 (hI.2.1.r1 g_y 33 133 (by decide) rfl) (fun _ => rfl)).trans ((u2_row e_M766 (so_ne (hI.2.1.r1 g_y 33 133 (by decide) rfl) g_y (by decide))).trans (u2_row e_M762 (so_ne (hI.2.1.r1 g_y 33 133 (by decide) rfl) g_a505 (by decide))))), ((z_M801 y 9 39 g_y rfl).trans ((u2_st (a := y) (k := 39) e_M766 (u2_k (by decide))).trans (u2_st (a := y) (k := 39) e_M762 (u2_a (so_ne g_y g_a505 (by decide))))))]) (Or.inl ⟨rfl, rfl⟩) (by have h9 := i742; rw [← (e_v739)]; simp only [iv] at h9; omega) (by have h9 := i736; rw [← (e_v622)]; simp only [iv] at h9; omega))⟩), (gm_lt hg9 m0_PI i39 (fun _ => by have h9 := nu_eq (M1 := M819) (M := M801) (y := y) ((u2_st (a := y) (k := 3) e_M819 (u2_k (by decide))).trans (z_M811 y 9 3 g_y rfl)) ((u2_st (a := y) (k := 7) e_M819 (u2_k (by decide))).trans (z_M811 y 9 7 g_y rfl)) ((u2_st (a := y) (k := 8) e_M819 (u2_k (by decide))).trans (z_M811 y 9 8 g_y rfl)); have h8 := ng9; have h7 := (by rw [(u2_st (a := y) (k := 39) e_M819 (u2_k (by decide))), z815.1, ((z_M801 y 9 39 g_y rfl).trans ((u2_st (a := y) (k := 39) e_M766 (u2_k (by decide))).trans (u2_st (a := y) (k := 39) e_M762 (u2_a (so_ne g_y g_a505 (by decide))))))] : (M819 y 39).toInt = (M y 39).toInt + 1); omega))⟩ dX9_unit_249
                          · exact absurd c808 (iv_ne kc_1 kc_0 (by decide))
                  · obtain ⟨v823, e_v823⟩ : ∃ z : Int32, z = M y 4 := ⟨_, rfl⟩
                    have i_v823 : iv v823 0 5 := by rw [e_v823]; exact hI.iv1 (n := 67) g_y rfl (by decide) rfl
                    have i824 : iv v823 1 5 := iv_neL (fun h9 => z749 c750 (e_v823.symm.trans h9)) i_v823 (by decide) (by decide)
                    have i825 : iv r743 0 0 := iv_eq1 c750 i_r743 kc_0
                    refine lv_iconst (v := 1) hx hb dX9_unit_154 (by decide) ?_
                    exact h_iret hQ hx hb hr hlocks rfl hK hI ⟨rfl, (iv_w (lo' := 0) (hi' := 1) kc_1 (by decide) (by decide)), m0_PI, PN_rf, PC_rf, (fun h9 => gd_no (e_v823) i824 h9), (gm_lt hg9 m0_PI i39 (fun h9 => gd_no (e_v823) i824 h9))⟩ dX9_unit_155
                · have i826 : iv v739 7 7 := iv_eq1 c741 i740 kc_7
                  refine lv_aload_n hx hb dX9_unit_143 rfl (lv_at hl 5 rfl) ?_
                  refine h_gov hI (by decide) (va_runV (As := []) (rest := []) ⟨hx, hb, hml, hown, hts⟩ (h_misplaced_X9 l D g σ Z hZ0 M N R y g_y m0_PI) (cwV 0 hts gX9_unit_X9_misplaced rfl rfl rfl (by decide +kernel) ⟨Nat.le_of_ble_eq_true rfl, Nat.le_of_ble_eq_true rfl⟩) (h_preV hZ0 hK hE hI g_y (by decide) rfl) rfl rfl hl.1 rfl (lv_room (Nat.le_of_ble_eq_true rfl)) dX9_unit_144 ⟨Nat.le_of_ble_eq_true rfl, Nat.le_of_ble_eq_true rfl⟩) (fun M828 N829 R830 H locs q831 z_M828 hI => ?_)
                  obtain ⟨rfl, rfl, m832, m833, z834⟩ := q831
                  obtain ⟨v835, e_v835⟩ : ∃ z : Int32, z = M828 y 4 := ⟨_, rfl⟩
                  have i_v835 : iv v835 1 5 := by rw [e_v835]; exact z834
                  refine lv_aload_n hx hb dX9_unit_147 rfl (lv_at hl 5 rfl) ?_
                  refine h_goi hI (by decide) (va_runV (As := []) (rest := []) ⟨hx, hb, hml, hown, hts⟩ (h_isGood_X9 l D g σ Z hZ0 M828 N R y g_y) (cwV 0 hts gX9_unit_X9_isGood rfl rfl rfl (by decide +kernel) ⟨Nat.le_of_ble_eq_true rfl, Nat.le_of_ble_eq_true rfl⟩) (h_preV hZ0 hK hE hI g_y (by decide) rfl) rfl rfl hl.1 rfl (lv_room (Nat.le_of_ble_eq_true rfl)) dX9_unit_148 ⟨Nat.le_of_ble_eq_true rfl, Nat.le_of_ble_eq_true rfl⟩) (fun r836 M837 N838 R839 H locs q840 z_M837 hI => ?_)
                  obtain ⟨rfl, rfl, rfl, i_r836, z841, z842⟩ := q840
                  refine lv_if_ne (tgt := 156) hx hb dX9_unit_151 (by decide) (fun c843 => ?_) (fun c843 => ?_)
                  · exact absurd ((e_v835).trans (z841 c843)) (iv_ne i_v835 kc_0 (by decide))
                  · have i844 : iv v835 1 5 := iv_neL (fun h9 => z842 c843 ((e_v835).symm.trans h9)) i_v835 (by decide) (by decide)
                    have i845 : iv r836 0 0 := iv_eq1 c843 i_r836 kc_0
                    refine lv_iconst (v := 1) hx hb dX9_unit_154 (by decide) ?_
                    have m846 : PN M M828 y := (PN_tr PN_rf m833)
                    have m847 : PC M M828 R y := (PC_ag hI.2.1 g_y PC_rf (hAd.ag z_M828 (by decide)))
                    exact h_iret hQ hx hb hr hlocks rfl hK hI ⟨rfl, (iv_w (lo' := 0) (hi' := 1) kc_1 (by decide) (by decide)), m832, m846, m847, (fun h9 => gd_no (e_v835) i844 h9), (gm_lt hg9 m0_PI i39 (fun h9 => gd_no (e_v835) i844 h9))⟩ dX9_unit_155
              · exact absurd c738 (iv_ne kc_1 kc_0 (by decide))
            · exact absurd c737 (iv_ne kc_1 kc_0 (by decide))
  have J31 : ∀ (H : Heap) (locs : List Loc) (ls : Array Slot), kI D g σ e_h_unit_X9 M s.heap M N R H locs → lv_has ls 7 [(0, .ref y)] → W p l e (headSpec wsX9_unit ({ frames := 2, cells := 0, slots := 0, locals := 44 })).room s m ar below meth c H locs 0 0 Q (F0 m 31 ls []) := by
    intro H locs ls hI hl
    refine lv_iconst (v := 1) hx hb dX9_unit_31 (by decide) ?_
    refine lv_goto (tgt := 36) hx hb dX9_unit_32 (by decide) ?_
    exact J36 (1 : Int32) H locs ls hI hl (iv_w (lo' := 0) (hi' := 1) kc_1 (by decide) (by decide))
  refine lv_icmp_le (tgt := 31) hx hb dX9_unit_12 (by decide) (fun c848 => ?_) (fun c848 => ?_)
  · have i849 : iv v6 (-2147483648) 3 := iv_le1 c848 i_v6 kc_3 (by decide)
    exact J31 H locs ls hI hl
  · have i850 : iv v6 4 2147483647 := iv_nle1 c848 i_v6 kc_3 (by decide)
    refine lv_aload_n hx hb dX9_unit_15 rfl (lv_at hl 0 rfl) ?_
    refine h_getr hx hb hts iX9_unit_X9 hown hK hI g_y (by decide) rfl rfl 32 (by decide) rfl 132 rfl (hts (.fieldLink RX9 85 "CatLeasesModel" "eWhat" "[I") (List.mem_of_getElem? (i := 1) rfl)) (fun _ h9 => h9) dX9_unit_16 (fun a851 e_a851 g_a851 => ?_)
    have q852 : a2 = a851 := (e_a2).trans e_a851.symm
    subst q852
    refine lv_aload_n hx hb dX9_unit_19 rfl (lv_at hl 0 rfl) ?_
    refine h_geti (lo := 0) (hi := 90) hx hb hts iX9_unit_X9 hown hK hI g_y (by decide) rfl rfl 39 (by decide) rfl rfl (hts (.fieldLink RX9 327 "CatLeasesModel" "piled" "I") (List.mem_of_getElem? (i := 2) rfl)) (fun _ h9 => h9) dX9_unit_20 (fun v853 e_v853 i_v853 => ?_)
    have q854 : v1 = v853 := (e_v1).trans e_v853.symm
    subst q854
    have ip9 : iv v1 1 38 := EX1_p m0_EX1 e_v1
    refine lv_iconst (v := 1) hx hb dX9_unit_23 (by decide) ?_
    refine lv_isub hx hb dX9_unit_24 ?_
    refine h_nm (lo := 0) (hi := 37) (iv_sub ip9 kc_1 (by decide) (by decide) (by decide) (by decide)) (fun v855 e_v855 i_v855 => ?_)
    have q856 : v5 = v855 := e_v5.trans e_v855.symm
    subst q856
    refine h_iald (j := v5.toNatClampNeg) (lo := (-2147483648)) (hi := 2147483647) hx hb hK hI g_a2 (by decide) rfl (iv_in (n := 90) i_v5 (by decide) (by decide)) rfl (iv_any _) dX9_unit_25 (fun v857 e_v857 i_v857 => ?_)
    have q858 : v6 = v857 := (e_v6).trans e_v857.symm
    subst q858
    refine lv_bipush (v := 7) hx hb dX9_unit_26 (by decide) ?_
    refine lv_icmp_lt (tgt := 35) hx hb dX9_unit_28 (by decide) (fun c859 => ?_) (fun c859 => ?_)
    · have i860 : iv v6 4 6 := iv_lt1 c859 i850 kc_7 (by decide)
      refine lv_iconst (v := 0) hx hb dX9_unit_35 (by decide) ?_
      exact J36 (0 : Int32) H locs ls hI hl (iv_w (lo' := 0) (hi' := 1) kc_0 (by decide) (by decide))
    · have i861 : iv v6 7 2147483647 := iv_nlt1 c859 i850 kc_7 (by decide)
      exact J31 H locs ls hI hl
