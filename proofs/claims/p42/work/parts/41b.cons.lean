abbrev e_h_emit_X9 : List (Nat × Nat) := [(9, 37), (130, 999), (131, 999)]
set_option maxHeartbeats 4000000 in
set_option maxRecDepth 100000 in
theorem h_emit_X9 (l : Launch) (D : va_G) (g : Nat → ClassId) (σ : Nat → Option Nat) (Z : State → Heap → Prop) (hZ0 : hZ σ Z) (M : hM) (N : hN) (R : hR) (y : Nat) (g_y : σ y = some 9) (p1 : Int32) (p2 : Int32) (hc9 : CB9 M y) : Met l yX9_emit wsX9_emit ({ frames := 0, cells := 0, slots := 0, locals := 0 }) (va_Pc [.ref y, .int p1, .int p2] (hPre D g σ Z M N R)) (hQv D g σ e_h_emit_X9 M (fun (M1 : hM) (N1 : hN) (R1 : hR) => N = N1 ∧ R = R1 ∧ (EM M M1 R y p1) ∧ (PC M M1 R y))) 0 0 (hA σ) := by
  refine h_head (cc := cX9_emit) (maxL := 3) (ret := none) (by decide) rfl (Nat.le_of_ble_eq_true rfl) e_h_emit_X9 ?_
  intro p e s m below meth c ls Q ar hQ hx hb hr hlocks hml hown hts hK hE H locs hI hl
  have hown : s.vm.findClass RX9 = some m.cls := hown
  have hl : lv_has ls 3 [(0, .ref y), (1, .int p1), (2, .int p2)] := hl
  have m36 : iv (M y 36) 0 1 := (hI.iv1 (a := y) (j := 36) (lo := 0) (hi := 1) (n := 67) g_y rfl (by decide) rfl)
  refine lv_aload_n hx hb dX9_emit_0 rfl (lv_at hl 0 rfl) ?_
  refine h_getr hx hb hts iX9_emit_X9 hown hK hI g_y (by decide) rfl rfl 30 (by decide) rfl 130 rfl (hts (.fieldLink RX9 79 "CatLeasesModel" "code" "[I") (List.mem_of_getElem? (i := 1) rfl)) (fun _ h9 => h9) dX9_emit_1 (fun a1 e_a1 g_a1 => ?_)
  refine lv_aload_n hx hb dX9_emit_4 rfl (lv_at hl 0 rfl) ?_
  refine h_geti (lo := 0) (hi := 1120) hx hb hts iX9_emit_X9 hown hK hI g_y (by decide) rfl rfl 37 (by decide) rfl rfl (hts (.fieldLink RX9 262 "CatLeasesModel" "codes" "I") (List.mem_of_getElem? (i := 2) rfl)) (fun _ h9 => h9) dX9_emit_5 (fun v2 e_v2 i_v2 => ?_)
  have ic9 : iv v2 0 1119 := by have h9 := hc9; unfold CB9 at h9; rw [← e_v2] at h9; have h8 := (hI.iv1 (a := y) (j := 36) (lo := 0) (hi := 1) (n := 67) g_y rfl (by decide) rfl); simp only [iv] at h8 ⊢; omega
  refine lv_iload_n hx hb dX9_emit_8 rfl (lv_at hl 1 rfl) ?_
  refine h_iast (j := v2.toNatClampNeg) hx hb hK hI g_a1 (by decide) rfl (iv_in (n := 1120) ic9 (by decide) (by decide)) rfl (iv_any _) rfl dX9_emit_9 (fun M3 H locs e_M3 hI => ?_)
  refine lv_aload_n hx hb dX9_emit_10 rfl (lv_at hl 0 rfl) ?_
  refine h_getr hx hb hts iX9_emit_X9 hown hK hI g_y (by decide) rfl rfl 31 (by decide) rfl 131 rfl (hts (.fieldLink RX9 82 "CatLeasesModel" "codeNumber" "[I") (List.mem_of_getElem? (i := 3) rfl)) (fun _ h9 => h9) dX9_emit_11 (fun a4 e_a4 g_a4 => ?_)
  refine lv_aload_n hx hb dX9_emit_14 rfl (lv_at hl 0 rfl) ?_
  refine h_geti (lo := 0) (hi := 1120) hx hb hts iX9_emit_X9 hown hK hI g_y (by decide) rfl rfl 37 (by decide) rfl rfl (hts (.fieldLink RX9 262 "CatLeasesModel" "codes" "I") (List.mem_of_getElem? (i := 2) rfl)) (fun _ h9 => h9) dX9_emit_15 (fun v5 e_v5 i_v5 => ?_)
  have q6 : v2 = v5 := ((e_v2).trans (u2_st (a := y) (k := 37) e_M3 (u2_a (so_ne g_y g_a1 (by decide)))).symm).trans e_v5.symm
  subst q6
  refine lv_iload_n hx hb dX9_emit_18 rfl (lv_at hl 2 rfl) ?_
  refine h_iast (j := v2.toNatClampNeg) hx hb hK hI g_a4 (by decide) rfl (iv_in (n := 1120) ic9 (by decide) (by decide)) rfl (iv_any _) rfl dX9_emit_19 (fun M7 H locs e_M7 hI => ?_)
  refine lv_aload_n hx hb dX9_emit_20 rfl (lv_at hl 0 rfl) ?_
  refine lv_dup hx hb dX9_emit_21 rfl ?_
  refine h_geti (lo := 0) (hi := 1120) hx hb hts iX9_emit_X9 hown hK hI g_y (by decide) rfl rfl 37 (by decide) rfl rfl (hts (.fieldLink RX9 262 "CatLeasesModel" "codes" "I") (List.mem_of_getElem? (i := 2) rfl)) (fun _ h9 => h9) dX9_emit_22 (fun v8 e_v8 i_v8 => ?_)
  have q9 : v2 = v8 := (((e_v2).trans (u2_st (a := y) (k := 37) e_M3 (u2_a (so_ne g_y g_a1 (by decide)))).symm).trans (u2_st (a := y) (k := 37) e_M7 (u2_a (so_ne g_y g_a4 (by decide)))).symm).trans e_v8.symm
  subst q9
  refine lv_iconst (v := 1) hx hb dX9_emit_25 (by decide) ?_
  refine lv_iadd hx hb dX9_emit_26 ?_
  refine h_nm (lo := 1) (hi := 1120) (iv_add ic9 kc_1 (by decide) (by decide) (by decide) (by decide)) (fun v10 e_v10 i_v10 => ?_)
  refine h_puti hx hb hts iX9_emit_X9 tyX9 tyX9_ok nmX9 hown hK hI g_y (by decide) rfl rfl 37 (by decide) rfl (hts (.fieldLink RX9 262 "CatLeasesModel" "codes" "I") (List.mem_of_getElem? (i := 2) rfl)) (fun _ h9 => h9) rfl .int (by decide +kernel) rfl rfl (iv_w (lo' := 0) (hi' := 1120) i_v10 (by decide) (by decide)) rfl dX9_emit_27 (fun M11 H locs e_M11 hI => ?_)
  have em9 := EM_of g_y hI.2.1 e_M3 e_M7 e_M11 e_a1 e_a4 e_v2 rfl (h_inc e_v10 ic9 kc_1 (by decide) (by decide)) hc9 m36
  exact h_vret hQ hx hb hr hlocks hK hI ⟨rfl, rfl, em9.1, em9.2⟩ dX9_emit_30
abbrev e_h_pushE_X9 : List (Nat × Nat) := [(9, 39), (132, 999), (133, 999)]
set_option maxHeartbeats 4000000 in
set_option maxRecDepth 100000 in
theorem h_pushE_X9 (l : Launch) (D : va_G) (g : Nat → ClassId) (σ : Nat → Option Nat) (Z : State → Heap → Prop) (hZ0 : hZ σ Z) (M : hM) (N : hN) (R : hR) (y : Nat) (g_y : σ y = some 9) (p1 : Int32) (p2 : Int32) (hp9 : iv (M y 39) 0 89) : Met l yX9_pushE wsX9_pushE ({ frames := 0, cells := 0, slots := 0, locals := 0 }) (va_Pc [.ref y, .int p1, .int p2] (hPre D g σ Z M N R)) (hQv D g σ e_h_pushE_X9 M (fun (M1 : hM) (N1 : hN) (R1 : hR) => N = N1 ∧ R = R1 ∧ (PE M M1 R y p1 p2))) 0 0 (hA σ) := by
  refine h_head (cc := cX9_pushE) (maxL := 3) (ret := none) (by decide) rfl (Nat.le_of_ble_eq_true rfl) e_h_pushE_X9 ?_
  intro p e s m below meth c ls Q ar hQ hx hb hr hlocks hml hown hts hK hE H locs hI hl
  have hown : s.vm.findClass RX9 = some m.cls := hown
  have hl : lv_has ls 3 [(0, .ref y), (1, .int p1), (2, .int p2)] := hl
  refine lv_aload_n hx hb dX9_pushE_0 rfl (lv_at hl 0 rfl) ?_
  refine h_getr hx hb hts iX9_pushE_X9 hown hK hI g_y (by decide) rfl rfl 32 (by decide) rfl 132 rfl (hts (.fieldLink RX9 85 "CatLeasesModel" "eWhat" "[I") (List.mem_of_getElem? (i := 1) rfl)) (fun _ h9 => h9) dX9_pushE_1 (fun a1 e_a1 g_a1 => ?_)
  refine lv_aload_n hx hb dX9_pushE_4 rfl (lv_at hl 0 rfl) ?_
  refine h_geti (lo := 0) (hi := 90) hx hb hts iX9_pushE_X9 hown hK hI g_y (by decide) rfl rfl 39 (by decide) rfl rfl (hts (.fieldLink RX9 327 "CatLeasesModel" "piled" "I") (List.mem_of_getElem? (i := 2) rfl)) (fun _ h9 => h9) dX9_pushE_5 (fun v2 e_v2 i_v2 => ?_)
  have ic9 : iv v2 0 89 := by rw [e_v2]; exact hp9
  refine lv_iload_n hx hb dX9_pushE_8 rfl (lv_at hl 1 rfl) ?_
  refine h_iast (j := v2.toNatClampNeg) hx hb hK hI g_a1 (by decide) rfl (iv_in (n := 90) ic9 (by decide) (by decide)) rfl (iv_any _) rfl dX9_pushE_9 (fun M3 H locs e_M3 hI => ?_)
  refine lv_aload_n hx hb dX9_pushE_10 rfl (lv_at hl 0 rfl) ?_
  refine h_getr hx hb hts iX9_pushE_X9 hown hK hI g_y (by decide) rfl rfl 33 (by decide) rfl 133 rfl (hts (.fieldLink RX9 88 "CatLeasesModel" "eSign" "[I") (List.mem_of_getElem? (i := 3) rfl)) (fun _ h9 => h9) dX9_pushE_11 (fun a4 e_a4 g_a4 => ?_)
  refine lv_aload_n hx hb dX9_pushE_14 rfl (lv_at hl 0 rfl) ?_
  refine h_geti (lo := 0) (hi := 90) hx hb hts iX9_pushE_X9 hown hK hI g_y (by decide) rfl rfl 39 (by decide) rfl rfl (hts (.fieldLink RX9 327 "CatLeasesModel" "piled" "I") (List.mem_of_getElem? (i := 2) rfl)) (fun _ h9 => h9) dX9_pushE_15 (fun v5 e_v5 i_v5 => ?_)
  have q6 : v2 = v5 := ((e_v2).trans (u2_st (a := y) (k := 39) e_M3 (u2_a (so_ne g_y g_a1 (by decide)))).symm).trans e_v5.symm
  subst q6
  refine lv_iload_n hx hb dX9_pushE_18 rfl (lv_at hl 2 rfl) ?_
  refine h_iast (j := v2.toNatClampNeg) hx hb hK hI g_a4 (by decide) rfl (iv_in (n := 90) ic9 (by decide) (by decide)) rfl (iv_any _) rfl dX9_pushE_19 (fun M7 H locs e_M7 hI => ?_)
  refine lv_aload_n hx hb dX9_pushE_20 rfl (lv_at hl 0 rfl) ?_
  refine lv_dup hx hb dX9_pushE_21 rfl ?_
  refine h_geti (lo := 0) (hi := 90) hx hb hts iX9_pushE_X9 hown hK hI g_y (by decide) rfl rfl 39 (by decide) rfl rfl (hts (.fieldLink RX9 327 "CatLeasesModel" "piled" "I") (List.mem_of_getElem? (i := 2) rfl)) (fun _ h9 => h9) dX9_pushE_22 (fun v8 e_v8 i_v8 => ?_)
  have q9 : v2 = v8 := (((e_v2).trans (u2_st (a := y) (k := 39) e_M3 (u2_a (so_ne g_y g_a1 (by decide)))).symm).trans (u2_st (a := y) (k := 39) e_M7 (u2_a (so_ne g_y g_a4 (by decide)))).symm).trans e_v8.symm
  subst q9
  refine lv_iconst (v := 1) hx hb dX9_pushE_25 (by decide) ?_
  refine lv_iadd hx hb dX9_pushE_26 ?_
  refine h_nm (lo := 1) (hi := 90) (iv_add ic9 kc_1 (by decide) (by decide) (by decide) (by decide)) (fun v10 e_v10 i_v10 => ?_)
  refine h_puti hx hb hts iX9_pushE_X9 tyX9 tyX9_ok nmX9 hown hK hI g_y (by decide) rfl rfl 39 (by decide) rfl (hts (.fieldLink RX9 327 "CatLeasesModel" "piled" "I") (List.mem_of_getElem? (i := 2) rfl)) (fun _ h9 => h9) rfl .int (by decide +kernel) rfl rfl (iv_w (lo' := 0) (hi' := 90) i_v10 (by decide) (by decide)) rfl dX9_pushE_27 (fun M11 H locs e_M11 hI => ?_)
  exact h_vret hQ hx hb hr hlocks hK hI ⟨rfl, rfl, (PE_of g_y hI.2.1 e_M3 e_M7 e_M11 e_a1 e_a4 e_v2 rfl (h_inc e_v10 ic9 kc_1 (by decide) (by decide)))⟩ dX9_pushE_30
abbrev e_h_wordHere_X9 : List (Nat × Nat) := []
set_option maxHeartbeats 4000000 in
set_option maxRecDepth 100000 in
theorem h_wordHere_X9 (l : Launch) (D : va_G) (g : Nat → ClassId) (σ : Nat → Option Nat) (Z : State → Heap → Prop) (hZ0 : hZ σ Z) (M : hM) (N : hN) (R : hR) (y : Nat) (g_y : σ y = some 9) : Met l yX9_wordHere wsX9_wordHere ({ frames := 1, cells := 0, slots := 0, locals := 22 }) (va_Pc [.ref y] (hPre D g σ Z M N R)) (hQi D g σ e_h_wordHere_X9 M (fun (r : Int32) (M1 : hM) (N1 : hN) (R1 : hR) => M = M1 ∧ N = N1 ∧ R = R1 ∧ iv r 0 119 ∧ (¬ r = 0 → iv r 97 122 ∧ M y 8 = 3))) 0 0 (hA σ) := by
  refine h_head (cc := cX9_wordHere) (maxL := 1) (ret := (some .int)) (by decide) rfl (Nat.le_of_ble_eq_true rfl) e_h_wordHere_X9 ?_
  intro p e s m below meth c ls Q ar hQ hx hb hr hlocks hml hown hts hK hE H locs hI hl
  have hown : s.vm.findClass RX9 = some m.cls := hown
  have hl : lv_has ls 1 [(0, .ref y)] := hl
  refine lv_aload_n hx hb dX9_wordHere_0 rfl (lv_at hl 0 rfl) ?_
  refine lv_ldc2 (v := 448546566771) hx hb hown (hts (.constantLong RX9 170 (448546566771)) (List.mem_of_getElem? (i := 1) rfl)) dX9_wordHere_1 ?_
  refine h_goi hI (by decide) (va_runV (As := [.long (448546566771 : Int64)]) (rest := []) ⟨hx, hb, hml, hown, hts⟩ (h_isWord_X9 l D g σ Z hZ0 M N R y g_y (448546566771 : Int64)) (cwV 1 hts gX9_wordHere_X9_isWord rfl rfl rfl (by decide +kernel) ⟨Nat.le_of_ble_eq_true rfl, Nat.le_of_ble_eq_true rfl⟩) (h_preV hZ0 hK hE hI g_y (by decide) rfl) rfl rfl hl.1 rfl (lv_room (Nat.le_of_ble_eq_true rfl)) dX9_wordHere_4 ⟨Nat.le_of_ble_eq_true rfl, Nat.le_of_ble_eq_true rfl⟩) (fun r1 M2 N3 R4 H locs q5 z_M2 hI => ?_)
  obtain ⟨rfl, rfl, rfl, i_r1, z6, z7⟩ := q5
  refine lv_if_eq (tgt := 13) hx hb dX9_wordHere_7 (by decide) (fun c8 => ?_) (fun c8 => ?_)
  · have i9 : iv r1 0 0 := iv_eq1 c8 i_r1 kc_0
    refine lv_aload_n hx hb dX9_wordHere_13 rfl (lv_at hl 0 rfl) ?_
    refine lv_ldc2 (v := 512735736947) hx hb hown (hts (.constantLong RX9 160 (512735736947)) (List.mem_of_getElem? (i := 2) rfl)) dX9_wordHere_14 ?_
    refine h_goi hI (by decide) (va_runV (As := [.long (512735736947 : Int64)]) (rest := []) ⟨hx, hb, hml, hown, hts⟩ (h_isWord_X9 l D g σ Z hZ0 M N R y g_y (512735736947 : Int64)) (cwV 1 hts gX9_wordHere_X9_isWord rfl rfl rfl (by decide +kernel) ⟨Nat.le_of_ble_eq_true rfl, Nat.le_of_ble_eq_true rfl⟩) (h_preV hZ0 hK hE hI g_y (by decide) rfl) rfl rfl hl.1 rfl (lv_room (Nat.le_of_ble_eq_true rfl)) dX9_wordHere_17 ⟨Nat.le_of_ble_eq_true rfl, Nat.le_of_ble_eq_true rfl⟩) (fun r10 M11 N12 R13 H locs q14 z_M11 hI => ?_)
    obtain ⟨rfl, rfl, rfl, i_r10, z15, z16⟩ := q14
    refine lv_if_eq (tgt := 26) hx hb dX9_wordHere_20 (by decide) (fun c17 => ?_) (fun c17 => ?_)
    · have i18 : iv r10 0 0 := iv_eq1 c17 i_r10 kc_0
      refine lv_aload_n hx hb dX9_wordHere_26 rfl (lv_at hl 0 rfl) ?_
      refine lv_ldc2 (v := 2002874989) hx hb hown (hts (.constantLong RX9 172 (2002874989)) (List.mem_of_getElem? (i := 3) rfl)) dX9_wordHere_27 ?_
      refine h_goi hI (by decide) (va_runV (As := [.long (2002874989 : Int64)]) (rest := []) ⟨hx, hb, hml, hown, hts⟩ (h_isWord_X9 l D g σ Z hZ0 M N R y g_y (2002874989 : Int64)) (cwV 1 hts gX9_wordHere_X9_isWord rfl rfl rfl (by decide +kernel) ⟨Nat.le_of_ble_eq_true rfl, Nat.le_of_ble_eq_true rfl⟩) (h_preV hZ0 hK hE hI g_y (by decide) rfl) rfl rfl hl.1 rfl (lv_room (Nat.le_of_ble_eq_true rfl)) dX9_wordHere_30 ⟨Nat.le_of_ble_eq_true rfl, Nat.le_of_ble_eq_true rfl⟩) (fun r19 M20 N21 R22 H locs q23 z_M20 hI => ?_)
      obtain ⟨rfl, rfl, rfl, i_r19, z24, z25⟩ := q23
      refine lv_if_eq (tgt := 39) hx hb dX9_wordHere_33 (by decide) (fun c26 => ?_) (fun c26 => ?_)
      · have i27 : iv r19 0 0 := iv_eq1 c26 i_r19 kc_0
        refine lv_aload_n hx hb dX9_wordHere_39 rfl (lv_at hl 0 rfl) ?_
        refine lv_ldc2 (v := 28826327576835187) hx hb hown (hts (.constantLong RX9 174 (28826327576835187)) (List.mem_of_getElem? (i := 4) rfl)) dX9_wordHere_40 ?_
        refine h_goi hI (by decide) (va_runV (As := [.long (28826327576835187 : Int64)]) (rest := []) ⟨hx, hb, hml, hown, hts⟩ (h_isWord_X9 l D g σ Z hZ0 M N R y g_y (28826327576835187 : Int64)) (cwV 1 hts gX9_wordHere_X9_isWord rfl rfl rfl (by decide +kernel) ⟨Nat.le_of_ble_eq_true rfl, Nat.le_of_ble_eq_true rfl⟩) (h_preV hZ0 hK hE hI g_y (by decide) rfl) rfl rfl hl.1 rfl (lv_room (Nat.le_of_ble_eq_true rfl)) dX9_wordHere_43 ⟨Nat.le_of_ble_eq_true rfl, Nat.le_of_ble_eq_true rfl⟩) (fun r28 M29 N30 R31 H locs q32 z_M29 hI => ?_)
        obtain ⟨rfl, rfl, rfl, i_r28, z33, z34⟩ := q32
        refine lv_if_eq (tgt := 52) hx hb dX9_wordHere_46 (by decide) (fun c35 => ?_) (fun c35 => ?_)
        · have i36 : iv r28 0 0 := iv_eq1 c35 i_r28 kc_0
          refine lv_aload_n hx hb dX9_wordHere_52 rfl (lv_at hl 0 rfl) ?_
          refine lv_ldc2 (v := 126943688746340) hx hb hown (hts (.constantLong RX9 184 (126943688746340)) (List.mem_of_getElem? (i := 5) rfl)) dX9_wordHere_53 ?_
          refine h_goi hI (by decide) (va_runV (As := [.long (126943688746340 : Int64)]) (rest := []) ⟨hx, hb, hml, hown, hts⟩ (h_isWord_X9 l D g σ Z hZ0 M N R y g_y (126943688746340 : Int64)) (cwV 1 hts gX9_wordHere_X9_isWord rfl rfl rfl (by decide +kernel) ⟨Nat.le_of_ble_eq_true rfl, Nat.le_of_ble_eq_true rfl⟩) (h_preV hZ0 hK hE hI g_y (by decide) rfl) rfl rfl hl.1 rfl (lv_room (Nat.le_of_ble_eq_true rfl)) dX9_wordHere_56 ⟨Nat.le_of_ble_eq_true rfl, Nat.le_of_ble_eq_true rfl⟩) (fun r37 M38 N39 R40 H locs q41 z_M38 hI => ?_)
          obtain ⟨rfl, rfl, rfl, i_r37, z42, z43⟩ := q41
          refine lv_if_eq (tgt := 65) hx hb dX9_wordHere_59 (by decide) (fun c44 => ?_) (fun c44 => ?_)
          · have i45 : iv r37 0 0 := iv_eq1 c44 i_r37 kc_0
            refine lv_aload_n hx hb dX9_wordHere_65 rfl (lv_at hl 0 rfl) ?_
            refine lv_ldc2 (v := 491495845235) hx hb hown (hts (.constantLong RX9 186 (491495845235)) (List.mem_of_getElem? (i := 6) rfl)) dX9_wordHere_66 ?_
            refine h_goi hI (by decide) (va_runV (As := [.long (491495845235 : Int64)]) (rest := []) ⟨hx, hb, hml, hown, hts⟩ (h_isWord_X9 l D g σ Z hZ0 M N R y g_y (491495845235 : Int64)) (cwV 1 hts gX9_wordHere_X9_isWord rfl rfl rfl (by decide +kernel) ⟨Nat.le_of_ble_eq_true rfl, Nat.le_of_ble_eq_true rfl⟩) (h_preV hZ0 hK hE hI g_y (by decide) rfl) rfl rfl hl.1 rfl (lv_room (Nat.le_of_ble_eq_true rfl)) dX9_wordHere_69 ⟨Nat.le_of_ble_eq_true rfl, Nat.le_of_ble_eq_true rfl⟩) (fun r46 M47 N48 R49 H locs q50 z_M47 hI => ?_)
            obtain ⟨rfl, rfl, rfl, i_r46, z51, z52⟩ := q50
            refine lv_if_eq (tgt := 78) hx hb dX9_wordHere_72 (by decide) (fun c53 => ?_) (fun c53 => ?_)
            · have i54 : iv r46 0 0 := iv_eq1 c53 i_r46 kc_0
              refine lv_aload_n hx hb dX9_wordHere_78 rfl (lv_at hl 0 rfl) ?_
              refine lv_ldc2 (v := 31935733760812402) hx hb hown (hts (.constantLong RX9 188 (31935733760812402)) (List.mem_of_getElem? (i := 7) rfl)) dX9_wordHere_79 ?_
              refine h_goi hI (by decide) (va_runV (As := [.long (31935733760812402 : Int64)]) (rest := []) ⟨hx, hb, hml, hown, hts⟩ (h_isWord_X9 l D g σ Z hZ0 M N R y g_y (31935733760812402 : Int64)) (cwV 1 hts gX9_wordHere_X9_isWord rfl rfl rfl (by decide +kernel) ⟨Nat.le_of_ble_eq_true rfl, Nat.le_of_ble_eq_true rfl⟩) (h_preV hZ0 hK hE hI g_y (by decide) rfl) rfl rfl hl.1 rfl (lv_room (Nat.le_of_ble_eq_true rfl)) dX9_wordHere_82 ⟨Nat.le_of_ble_eq_true rfl, Nat.le_of_ble_eq_true rfl⟩) (fun r55 M56 N57 R58 H locs q59 z_M56 hI => ?_)
              obtain ⟨rfl, rfl, rfl, i_r55, z60, z61⟩ := q59
              refine lv_if_eq (tgt := 93) hx hb dX9_wordHere_85 (by decide) (fun c62 => ?_) (fun c62 => ?_)
              · have i63 : iv r55 0 0 := iv_eq1 c62 i_r55 kc_0
                refine lv_iconst (v := 0) hx hb dX9_wordHere_93 (by decide) ?_
                exact h_iret hQ hx hb hr hlocks rfl hK hI ⟨rfl, rfl, rfl, (iv_w (lo' := 0) (hi' := 119) kc_0 (by decide) (by decide)), (fun h9 => absurd rfl h9)⟩ dX9_wordHere_94
              · obtain ⟨v64, e_v64⟩ : ∃ z : Int32, z = M y 8 := ⟨_, rfl⟩
                have i65 : iv v64 3 3 := by rw [e_v64, (z60 c62).1]; exact kc_3
                have i66 : iv r55 1 1 := iv_neL c62 i_r55 (by decide) (by decide)
                refine lv_bipush (v := 113) hx hb dX9_wordHere_88 (by decide) ?_
                refine lv_goto (tgt := 94) hx hb dX9_wordHere_90 (by decide) ?_
                exact h_iret hQ hx hb hr hlocks rfl hK hI ⟨rfl, rfl, rfl, (iv_w (lo' := 0) (hi' := 119) kc_113 (by decide) (by decide)), (fun _ => ⟨iv_w kc_113 (by decide) (by decide), (z60 c62).1⟩)⟩ dX9_wordHere_94
            · obtain ⟨v67, e_v67⟩ : ∃ z : Int32, z = M y 8 := ⟨_, rfl⟩
              have i68 : iv v67 3 3 := by rw [e_v67, (z51 c53).1]; exact kc_3
              have i69 : iv r46 1 1 := iv_neL c53 i_r46 (by decide) (by decide)
              refine lv_bipush (v := 114) hx hb dX9_wordHere_75 (by decide) ?_
              exact h_iret hQ hx hb hr hlocks rfl hK hI ⟨rfl, rfl, rfl, (iv_w (lo' := 0) (hi' := 119) kc_114 (by decide) (by decide)), (fun _ => ⟨iv_w kc_114 (by decide) (by decide), (z51 c53).1⟩)⟩ dX9_wordHere_77
          · obtain ⟨v70, e_v70⟩ : ∃ z : Int32, z = M y 8 := ⟨_, rfl⟩
            have i71 : iv v70 3 3 := by rw [e_v70, (z42 c44).1]; exact kc_3
            have i72 : iv r37 1 1 := iv_neL c44 i_r37 (by decide) (by decide)
            refine lv_bipush (v := 115) hx hb dX9_wordHere_62 (by decide) ?_
            exact h_iret hQ hx hb hr hlocks rfl hK hI ⟨rfl, rfl, rfl, (iv_w (lo' := 0) (hi' := 119) kc_115 (by decide) (by decide)), (fun _ => ⟨iv_w kc_115 (by decide) (by decide), (z42 c44).1⟩)⟩ dX9_wordHere_64
        · obtain ⟨v73, e_v73⟩ : ∃ z : Int32, z = M y 8 := ⟨_, rfl⟩
          have i74 : iv v73 3 3 := by rw [e_v73, (z33 c35).1]; exact kc_3
          have i75 : iv r28 1 1 := iv_neL c35 i_r28 (by decide) (by decide)
          refine lv_bipush (v := 102) hx hb dX9_wordHere_49 (by decide) ?_
          exact h_iret hQ hx hb hr hlocks rfl hK hI ⟨rfl, rfl, rfl, (iv_w (lo' := 0) (hi' := 119) kc_102 (by decide) (by decide)), (fun _ => ⟨iv_w kc_102 (by decide) (by decide), (z33 c35).1⟩)⟩ dX9_wordHere_51
      · obtain ⟨v76, e_v76⟩ : ∃ z : Int32, z = M y 8 := ⟨_, rfl⟩
        have i77 : iv v76 3 3 := by rw [e_v76, (z24 c26).1]; exact kc_3
        have i78 : iv r19 1 1 := iv_neL c26 i_r19 (by decide) (by decide)
        refine lv_bipush (v := 109) hx hb dX9_wordHere_36 (by decide) ?_
        exact h_iret hQ hx hb hr hlocks rfl hK hI ⟨rfl, rfl, rfl, (iv_w (lo' := 0) (hi' := 119) kc_109 (by decide) (by decide)), (fun _ => ⟨iv_w kc_109 (by decide) (by decide), (z24 c26).1⟩)⟩ dX9_wordHere_38
    · obtain ⟨v79, e_v79⟩ : ∃ z : Int32, z = M y 8 := ⟨_, rfl⟩
      have i80 : iv v79 3 3 := by rw [e_v79, (z15 c17).1]; exact kc_3
      have i81 : iv r10 1 1 := iv_neL c17 i_r10 (by decide) (by decide)
      refine lv_bipush (v := 119) hx hb dX9_wordHere_23 (by decide) ?_
      exact h_iret hQ hx hb hr hlocks rfl hK hI ⟨rfl, rfl, rfl, (iv_w (lo' := 0) (hi' := 119) kc_119 (by decide) (by decide)), (fun _ => ⟨iv_w kc_119 (by decide) (by decide), (z15 c17).1⟩)⟩ dX9_wordHere_25
  · obtain ⟨v82, e_v82⟩ : ∃ z : Int32, z = M y 8 := ⟨_, rfl⟩
    have i83 : iv v82 3 3 := by rw [e_v82, (z6 c8).1]; exact kc_3
    have i84 : iv r1 1 1 := iv_neL c8 i_r1 (by decide) (by decide)
    refine lv_bipush (v := 104) hx hb dX9_wordHere_10 (by decide) ?_
    exact h_iret hQ hx hb hr hlocks rfl hK hI ⟨rfl, rfl, rfl, (iv_w (lo' := 0) (hi' := 119) kc_104 (by decide) (by decide)), (fun _ => ⟨iv_w kc_104 (by decide) (by decide), (z6 c8).1⟩)⟩ dX9_wordHere_12
abbrev e_h_rankHere_X9 : List (Nat × Nat) := []
set_option maxHeartbeats 4000000 in
set_option maxRecDepth 100000 in
theorem h_rankHere_X9 (l : Launch) (D : va_G) (g : Nat → ClassId) (σ : Nat → Option Nat) (Z : State → Heap → Prop) (hZ0 : hZ σ Z) (M : hM) (N : hN) (R : hR) (y : Nat) (g_y : σ y = some 9) : Met l yX9_rankHere wsX9_rankHere ({ frames := 2, cells := 0, slots := 0, locals := 42 }) (va_Pc [.ref y] (hPre D g σ Z M N R)) (hQi D g σ e_h_rankHere_X9 M (fun (r : Int32) (M1 : hM) (N1 : hN) (R1 : hR) => M = M1 ∧ N = N1 ∧ R = R1 ∧ iv r 0 6 ∧ (RK M R y r))) 0 0 (hA σ) := by
  refine h_head (cc := cX9_rankHere) (maxL := 1) (ret := (some .int)) (by decide) rfl (Nat.le_of_ble_eq_true rfl) e_h_rankHere_X9 ?_
  intro p e s m below meth c ls Q ar hQ hx hb hr hlocks hml hown hts hK hE H locs hI hl
  have hown : s.vm.findClass RX9 = some m.cls := hown
  have hl : lv_has ls 1 [(0, .ref y)] := hl
  refine lv_aload_n hx hb dX9_rankHere_0 rfl (lv_at hl 0 rfl) ?_
  refine lv_ldc2 (v := 6385252) hx hb hown (hts (.constantLong RX9 192 (6385252)) (List.mem_of_getElem? (i := 1) rfl)) dX9_rankHere_1 ?_
  refine h_goi hI (by decide) (va_runV (As := [.long (6385252 : Int64)]) (rest := []) ⟨hx, hb, hml, hown, hts⟩ (h_isWord_X9 l D g σ Z hZ0 M N R y g_y (6385252 : Int64)) (cwV 1 hts gX9_rankHere_X9_isWord rfl rfl rfl (by decide +kernel) ⟨Nat.le_of_ble_eq_true rfl, Nat.le_of_ble_eq_true rfl⟩) (h_preV hZ0 hK hE hI g_y (by decide) rfl) rfl rfl hl.1 rfl (lv_room (Nat.le_of_ble_eq_true rfl)) dX9_rankHere_4 ⟨Nat.le_of_ble_eq_true rfl, Nat.le_of_ble_eq_true rfl⟩) (fun r1 M2 N3 R4 H locs q5 z_M2 hI => ?_)
  obtain ⟨rfl, rfl, rfl, i_r1, z6, z7⟩ := q5
  refine lv_if_eq (tgt := 12) hx hb dX9_rankHere_7 (by decide) (fun c8 => ?_) (fun c8 => ?_)
  · have i9 : iv r1 0 0 := iv_eq1 c8 i_r1 kc_0
    refine lv_aload_n hx hb dX9_rankHere_12 rfl (lv_at hl 0 rfl) ?_
    refine lv_ldc2 (v := 28530) hx hb hown (hts (.constantLong RX9 190 (28530)) (List.mem_of_getElem? (i := 2) rfl)) dX9_rankHere_13 ?_
    refine h_goi hI (by decide) (va_runV (As := [.long (28530 : Int64)]) (rest := []) ⟨hx, hb, hml, hown, hts⟩ (h_isWord_X9 l D g σ Z hZ0 M N R y g_y (28530 : Int64)) (cwV 1 hts gX9_rankHere_X9_isWord rfl rfl rfl (by decide +kernel) ⟨Nat.le_of_ble_eq_true rfl, Nat.le_of_ble_eq_true rfl⟩) (h_preV hZ0 hK hE hI g_y (by decide) rfl) rfl rfl hl.1 rfl (lv_room (Nat.le_of_ble_eq_true rfl)) dX9_rankHere_16 ⟨Nat.le_of_ble_eq_true rfl, Nat.le_of_ble_eq_true rfl⟩) (fun r10 M11 N12 R13 H locs q14 z_M11 hI => ?_)
    obtain ⟨rfl, rfl, rfl, i_r10, z15, z16⟩ := q14
    refine lv_if_eq (tgt := 24) hx hb dX9_rankHere_19 (by decide) (fun c17 => ?_) (fun c17 => ?_)
    · have i18 : iv r10 0 0 := iv_eq1 c17 i_r10 kc_0
      refine lv_aload_n hx hb dX9_rankHere_24 rfl (lv_at hl 0 rfl) ?_
      refine lv_bipush (v := 60) hx hb dX9_rankHere_25 (by decide) ?_
      refine h_goi hI (by decide) (va_runV (As := [.int (60 : Int32)]) (rest := []) ⟨hx, hb, hml, hown, hts⟩ (h_isSignHere_X9 l D g σ Z hZ0 M N R y g_y (60 : Int32)) (cwV 1 hts gX9_rankHere_X9_isSignHere rfl rfl rfl (by decide +kernel) ⟨Nat.le_of_ble_eq_true rfl, Nat.le_of_ble_eq_true rfl⟩) (h_preV hZ0 hK hE hI g_y (by decide) rfl) rfl rfl hl.1 rfl (lv_room (Nat.le_of_ble_eq_true rfl)) dX9_rankHere_27 ⟨Nat.le_of_ble_eq_true rfl, Nat.le_of_ble_eq_true rfl⟩) (fun r19 M20 N21 R22 H locs q23 z_M20 hI => ?_)
      obtain ⟨rfl, rfl, rfl, i_r19, z24, z25⟩ := q23
      refine lv_if_ne (tgt := 51) hx hb dX9_rankHere_30 (by decide) (fun c26 => ?_) (fun c26 => ?_)
      · obtain ⟨v27, e_v27⟩ : ∃ z : Int32, z = M y 8 := ⟨_, rfl⟩
        have i28 : iv v27 5 5 := by rw [e_v27, (z25 c26).1]; exact kc_5
        have i29 : iv r19 1 1 := iv_neL c26 i_r19 (by decide) (by decide)
        refine lv_iconst (v := 4) hx hb dX9_rankHere_51 (by decide) ?_
        exact h_iret hQ hx hb hr hlocks rfl hK hI ⟨rfl, rfl, rfl, (iv_w (lo' := 0) (hi' := 6) kc_4 (by decide) (by decide)), ⟨by decide, fun _ => Or.inr (z25 c26).1, fun _ => by rw [(z25 c26).2]; exact ⟨by decide, by decide⟩⟩⟩ dX9_rankHere_52
      · have i30 : iv r19 0 0 := iv_eq1 c26 i_r19 kc_0
        refine lv_aload_n hx hb dX9_rankHere_33 rfl (lv_at hl 0 rfl) ?_
        refine lv_bipush (v := 62) hx hb dX9_rankHere_34 (by decide) ?_
        refine h_goi hI (by decide) (va_runV (As := [.int (62 : Int32)]) (rest := []) ⟨hx, hb, hml, hown, hts⟩ (h_isSignHere_X9 l D g σ Z hZ0 M N R y g_y (62 : Int32)) (cwV 1 hts gX9_rankHere_X9_isSignHere rfl rfl rfl (by decide +kernel) ⟨Nat.le_of_ble_eq_true rfl, Nat.le_of_ble_eq_true rfl⟩) (h_preV hZ0 hK hE hI g_y (by decide) rfl) rfl rfl hl.1 rfl (lv_room (Nat.le_of_ble_eq_true rfl)) dX9_rankHere_36 ⟨Nat.le_of_ble_eq_true rfl, Nat.le_of_ble_eq_true rfl⟩) (fun r31 M32 N33 R34 H locs q35 z_M32 hI => ?_)
        obtain ⟨rfl, rfl, rfl, i_r31, z36, z37⟩ := q35
        refine lv_if_ne (tgt := 51) hx hb dX9_rankHere_39 (by decide) (fun c38 => ?_) (fun c38 => ?_)
        · obtain ⟨v39, e_v39⟩ : ∃ z : Int32, z = M y 8 := ⟨_, rfl⟩
          have i40 : iv v39 5 5 := by rw [e_v39, (z37 c38).1]; exact kc_5
          have i41 : iv r31 1 1 := iv_neL c38 i_r31 (by decide) (by decide)
          refine lv_iconst (v := 4) hx hb dX9_rankHere_51 (by decide) ?_
          exact h_iret hQ hx hb hr hlocks rfl hK hI ⟨rfl, rfl, rfl, (iv_w (lo' := 0) (hi' := 6) kc_4 (by decide) (by decide)), ⟨by decide, fun _ => Or.inr (z37 c38).1, fun _ => by rw [(z37 c38).2]; exact ⟨by decide, by decide⟩⟩⟩ dX9_rankHere_52
        · have i42 : iv r31 0 0 := iv_eq1 c38 i_r31 kc_0
          refine lv_aload_n hx hb dX9_rankHere_42 rfl (lv_at hl 0 rfl) ?_
          refine lv_bipush (v := 61) hx hb dX9_rankHere_43 (by decide) ?_
          refine h_goi hI (by decide) (va_runV (As := [.int (61 : Int32)]) (rest := []) ⟨hx, hb, hml, hown, hts⟩ (h_isSignHere_X9 l D g σ Z hZ0 M N R y g_y (61 : Int32)) (cwV 1 hts gX9_rankHere_X9_isSignHere rfl rfl rfl (by decide +kernel) ⟨Nat.le_of_ble_eq_true rfl, Nat.le_of_ble_eq_true rfl⟩) (h_preV hZ0 hK hE hI g_y (by decide) rfl) rfl rfl hl.1 rfl (lv_room (Nat.le_of_ble_eq_true rfl)) dX9_rankHere_45 ⟨Nat.le_of_ble_eq_true rfl, Nat.le_of_ble_eq_true rfl⟩) (fun r43 M44 N45 R46 H locs q47 z_M44 hI => ?_)
          obtain ⟨rfl, rfl, rfl, i_r43, z48, z49⟩ := q47
          refine lv_if_eq (tgt := 53) hx hb dX9_rankHere_48 (by decide) (fun c50 => ?_) (fun c50 => ?_)
          · have i51 : iv r43 0 0 := iv_eq1 c50 i_r43 kc_0
            refine lv_aload_n hx hb dX9_rankHere_53 rfl (lv_at hl 0 rfl) ?_
            refine lv_bipush (v := 43) hx hb dX9_rankHere_54 (by decide) ?_
            refine h_goi hI (by decide) (va_runV (As := [.int (43 : Int32)]) (rest := []) ⟨hx, hb, hml, hown, hts⟩ (h_isSignHere_X9 l D g σ Z hZ0 M N R y g_y (43 : Int32)) (cwV 1 hts gX9_rankHere_X9_isSignHere rfl rfl rfl (by decide +kernel) ⟨Nat.le_of_ble_eq_true rfl, Nat.le_of_ble_eq_true rfl⟩) (h_preV hZ0 hK hE hI g_y (by decide) rfl) rfl rfl hl.1 rfl (lv_room (Nat.le_of_ble_eq_true rfl)) dX9_rankHere_56 ⟨Nat.le_of_ble_eq_true rfl, Nat.le_of_ble_eq_true rfl⟩) (fun r52 M53 N54 R55 H locs q56 z_M53 hI => ?_)
            obtain ⟨rfl, rfl, rfl, i_r52, z57, z58⟩ := q56
            refine lv_if_ne (tgt := 71) hx hb dX9_rankHere_59 (by decide) (fun c59 => ?_) (fun c59 => ?_)
            · obtain ⟨v60, e_v60⟩ : ∃ z : Int32, z = M y 8 := ⟨_, rfl⟩
              have i61 : iv v60 5 5 := by rw [e_v60, (z58 c59).1]; exact kc_5
              have i62 : iv r52 1 1 := iv_neL c59 i_r52 (by decide) (by decide)
              refine lv_iconst (v := 5) hx hb dX9_rankHere_71 (by decide) ?_
              exact h_iret hQ hx hb hr hlocks rfl hK hI ⟨rfl, rfl, rfl, (iv_w (lo' := 0) (hi' := 6) kc_5 (by decide) (by decide)), ⟨by decide, fun _ => Or.inr (z58 c59).1, fun _ => by rw [(z58 c59).2]; exact ⟨by decide, by decide⟩⟩⟩ dX9_rankHere_72
            · have i63 : iv r52 0 0 := iv_eq1 c59 i_r52 kc_0
              refine lv_aload_n hx hb dX9_rankHere_62 rfl (lv_at hl 0 rfl) ?_
              refine lv_bipush (v := 45) hx hb dX9_rankHere_63 (by decide) ?_
              refine h_goi hI (by decide) (va_runV (As := [.int (45 : Int32)]) (rest := []) ⟨hx, hb, hml, hown, hts⟩ (h_isSignHere_X9 l D g σ Z hZ0 M N R y g_y (45 : Int32)) (cwV 1 hts gX9_rankHere_X9_isSignHere rfl rfl rfl (by decide +kernel) ⟨Nat.le_of_ble_eq_true rfl, Nat.le_of_ble_eq_true rfl⟩) (h_preV hZ0 hK hE hI g_y (by decide) rfl) rfl rfl hl.1 rfl (lv_room (Nat.le_of_ble_eq_true rfl)) dX9_rankHere_65 ⟨Nat.le_of_ble_eq_true rfl, Nat.le_of_ble_eq_true rfl⟩) (fun r64 M65 N66 R67 H locs q68 z_M65 hI => ?_)
              obtain ⟨rfl, rfl, rfl, i_r64, z69, z70⟩ := q68
              refine lv_if_eq (tgt := 73) hx hb dX9_rankHere_68 (by decide) (fun c71 => ?_) (fun c71 => ?_)
              · have i72 : iv r64 0 0 := iv_eq1 c71 i_r64 kc_0
                refine lv_aload_n hx hb dX9_rankHere_73 rfl (lv_at hl 0 rfl) ?_
                refine lv_bipush (v := 42) hx hb dX9_rankHere_74 (by decide) ?_
                refine h_goi hI (by decide) (va_runV (As := [.int (42 : Int32)]) (rest := []) ⟨hx, hb, hml, hown, hts⟩ (h_isSignHere_X9 l D g σ Z hZ0 M N R y g_y (42 : Int32)) (cwV 1 hts gX9_rankHere_X9_isSignHere rfl rfl rfl (by decide +kernel) ⟨Nat.le_of_ble_eq_true rfl, Nat.le_of_ble_eq_true rfl⟩) (h_preV hZ0 hK hE hI g_y (by decide) rfl) rfl rfl hl.1 rfl (lv_room (Nat.le_of_ble_eq_true rfl)) dX9_rankHere_76 ⟨Nat.le_of_ble_eq_true rfl, Nat.le_of_ble_eq_true rfl⟩) (fun r73 M74 N75 R76 H locs q77 z_M74 hI => ?_)
                obtain ⟨rfl, rfl, rfl, i_r73, z78, z79⟩ := q77
                refine lv_if_ne (tgt := 100) hx hb dX9_rankHere_79 (by decide) (fun c80 => ?_) (fun c80 => ?_)
                · obtain ⟨v81, e_v81⟩ : ∃ z : Int32, z = M y 8 := ⟨_, rfl⟩
                  have i82 : iv v81 5 5 := by rw [e_v81, (z79 c80).1]; exact kc_5
                  have i83 : iv r73 1 1 := iv_neL c80 i_r73 (by decide) (by decide)
                  refine lv_bipush (v := 6) hx hb dX9_rankHere_100 (by decide) ?_
                  refine lv_goto (tgt := 106) hx hb dX9_rankHere_102 (by decide) ?_
                  exact h_iret hQ hx hb hr hlocks rfl hK hI ⟨rfl, rfl, rfl, (iv_w (lo' := 0) (hi' := 6) kc_6 (by decide) (by decide)), ⟨by decide, fun _ => Or.inr (z79 c80).1, fun _ => by rw [(z79 c80).2]; exact ⟨by decide, by decide⟩⟩⟩ dX9_rankHere_106
                · have i84 : iv r73 0 0 := iv_eq1 c80 i_r73 kc_0
                  refine lv_aload_n hx hb dX9_rankHere_82 rfl (lv_at hl 0 rfl) ?_
                  refine lv_bipush (v := 47) hx hb dX9_rankHere_83 (by decide) ?_
                  refine h_goi hI (by decide) (va_runV (As := [.int (47 : Int32)]) (rest := []) ⟨hx, hb, hml, hown, hts⟩ (h_isSignHere_X9 l D g σ Z hZ0 M N R y g_y (47 : Int32)) (cwV 1 hts gX9_rankHere_X9_isSignHere rfl rfl rfl (by decide +kernel) ⟨Nat.le_of_ble_eq_true rfl, Nat.le_of_ble_eq_true rfl⟩) (h_preV hZ0 hK hE hI g_y (by decide) rfl) rfl rfl hl.1 rfl (lv_room (Nat.le_of_ble_eq_true rfl)) dX9_rankHere_85 ⟨Nat.le_of_ble_eq_true rfl, Nat.le_of_ble_eq_true rfl⟩) (fun r85 M86 N87 R88 H locs q89 z_M86 hI => ?_)
                  obtain ⟨rfl, rfl, rfl, i_r85, z90, z91⟩ := q89
                  refine lv_if_ne (tgt := 100) hx hb dX9_rankHere_88 (by decide) (fun c92 => ?_) (fun c92 => ?_)
                  · obtain ⟨v93, e_v93⟩ : ∃ z : Int32, z = M y 8 := ⟨_, rfl⟩
                    have i94 : iv v93 5 5 := by rw [e_v93, (z91 c92).1]; exact kc_5
                    have i95 : iv r85 1 1 := iv_neL c92 i_r85 (by decide) (by decide)
                    refine lv_bipush (v := 6) hx hb dX9_rankHere_100 (by decide) ?_
                    refine lv_goto (tgt := 106) hx hb dX9_rankHere_102 (by decide) ?_
                    exact h_iret hQ hx hb hr hlocks rfl hK hI ⟨rfl, rfl, rfl, (iv_w (lo' := 0) (hi' := 6) kc_6 (by decide) (by decide)), ⟨by decide, fun _ => Or.inr (z91 c92).1, fun _ => by rw [(z91 c92).2]; exact ⟨by decide, by decide⟩⟩⟩ dX9_rankHere_106
                  · have i96 : iv r85 0 0 := iv_eq1 c92 i_r85 kc_0
                    refine lv_aload_n hx hb dX9_rankHere_91 rfl (lv_at hl 0 rfl) ?_
                    refine lv_bipush (v := 37) hx hb dX9_rankHere_92 (by decide) ?_
                    refine h_goi hI (by decide) (va_runV (As := [.int (37 : Int32)]) (rest := []) ⟨hx, hb, hml, hown, hts⟩ (h_isSignHere_X9 l D g σ Z hZ0 M N R y g_y (37 : Int32)) (cwV 1 hts gX9_rankHere_X9_isSignHere rfl rfl rfl (by decide +kernel) ⟨Nat.le_of_ble_eq_true rfl, Nat.le_of_ble_eq_true rfl⟩) (h_preV hZ0 hK hE hI g_y (by decide) rfl) rfl rfl hl.1 rfl (lv_room (Nat.le_of_ble_eq_true rfl)) dX9_rankHere_94 ⟨Nat.le_of_ble_eq_true rfl, Nat.le_of_ble_eq_true rfl⟩) (fun r97 M98 N99 R100 H locs q101 z_M98 hI => ?_)
                    obtain ⟨rfl, rfl, rfl, i_r97, z102, z103⟩ := q101
                    refine lv_if_eq (tgt := 105) hx hb dX9_rankHere_97 (by decide) (fun c104 => ?_) (fun c104 => ?_)
                    · have i105 : iv r97 0 0 := iv_eq1 c104 i_r97 kc_0
                      refine lv_iconst (v := 0) hx hb dX9_rankHere_105 (by decide) ?_
                      exact h_iret hQ hx hb hr hlocks rfl hK hI ⟨rfl, rfl, rfl, (iv_w (lo' := 0) (hi' := 6) kc_0 (by decide) (by decide)), ⟨by decide, fun h9 => absurd rfl h9, fun h9 => absurd h9 (by decide)⟩⟩ dX9_rankHere_106
                    · obtain ⟨v106, e_v106⟩ : ∃ z : Int32, z = M y 8 := ⟨_, rfl⟩
                      have i107 : iv v106 5 5 := by rw [e_v106, (z103 c104).1]; exact kc_5
                      have i108 : iv r97 1 1 := iv_neL c104 i_r97 (by decide) (by decide)
                      refine lv_bipush (v := 6) hx hb dX9_rankHere_100 (by decide) ?_
                      refine lv_goto (tgt := 106) hx hb dX9_rankHere_102 (by decide) ?_
                      exact h_iret hQ hx hb hr hlocks rfl hK hI ⟨rfl, rfl, rfl, (iv_w (lo' := 0) (hi' := 6) kc_6 (by decide) (by decide)), ⟨by decide, fun _ => Or.inr (z103 c104).1, fun _ => by rw [(z103 c104).2]; exact ⟨by decide, by decide⟩⟩⟩ dX9_rankHere_106
              · obtain ⟨v109, e_v109⟩ : ∃ z : Int32, z = M y 8 := ⟨_, rfl⟩
                have i110 : iv v109 5 5 := by rw [e_v109, (z70 c71).1]; exact kc_5
                have i111 : iv r64 1 1 := iv_neL c71 i_r64 (by decide) (by decide)
                refine lv_iconst (v := 5) hx hb dX9_rankHere_71 (by decide) ?_
                exact h_iret hQ hx hb hr hlocks rfl hK hI ⟨rfl, rfl, rfl, (iv_w (lo' := 0) (hi' := 6) kc_5 (by decide) (by decide)), ⟨by decide, fun _ => Or.inr (z70 c71).1, fun _ => by rw [(z70 c71).2]; exact ⟨by decide, by decide⟩⟩⟩ dX9_rankHere_72
          · obtain ⟨v112, e_v112⟩ : ∃ z : Int32, z = M y 8 := ⟨_, rfl⟩
            have i113 : iv v112 5 5 := by rw [e_v112, (z49 c50).1]; exact kc_5
            have i114 : iv r43 1 1 := iv_neL c50 i_r43 (by decide) (by decide)
            refine lv_iconst (v := 4) hx hb dX9_rankHere_51 (by decide) ?_
            exact h_iret hQ hx hb hr hlocks rfl hK hI ⟨rfl, rfl, rfl, (iv_w (lo' := 0) (hi' := 6) kc_4 (by decide) (by decide)), ⟨by decide, fun _ => Or.inr (z49 c50).1, fun _ => by rw [(z49 c50).2]; exact ⟨by decide, by decide⟩⟩⟩ dX9_rankHere_52
    · obtain ⟨v115, e_v115⟩ : ∃ z : Int32, z = M y 8 := ⟨_, rfl⟩
      have i116 : iv v115 3 3 := by rw [e_v115, (z15 c17).1]; exact kc_3
      have i117 : iv r10 1 1 := iv_neL c17 i_r10 (by decide) (by decide)
      refine lv_iconst (v := 1) hx hb dX9_rankHere_22 (by decide) ?_
      exact h_iret hQ hx hb hr hlocks rfl hK hI ⟨rfl, rfl, rfl, (iv_w (lo' := 0) (hi' := 6) kc_1 (by decide) (by decide)), ⟨by decide, fun _ => Or.inl (z15 c17).1, fun h9 => absurd h9 (by decide)⟩⟩ dX9_rankHere_23
  · obtain ⟨v118, e_v118⟩ : ∃ z : Int32, z = M y 8 := ⟨_, rfl⟩
    have i119 : iv v118 3 3 := by rw [e_v118, (z6 c8).1]; exact kc_3
    have i120 : iv r1 1 1 := iv_neL c8 i_r1 (by decide) (by decide)
    refine lv_iconst (v := 2) hx hb dX9_rankHere_10 (by decide) ?_
    exact h_iret hQ hx hb hr hlocks rfl hK hI ⟨rfl, rfl, rfl, (iv_w (lo' := 0) (hi' := 6) kc_2 (by decide) (by decide)), ⟨by decide, fun _ => Or.inl (z6 c8).1, fun h9 => absurd h9 (by decide)⟩⟩ dX9_rankHere_11
abbrev e_h_unit_X9 : List (Nat × Nat) := [(9, 4), (9, 5), (9, 6), (9, 7), (9, 8), (9, 9), (9, 37), (9, 38), (9, 39), (9, 40), (114, 999), (130, 999), (131, 999), (132, 999), (133, 999)]
set_option maxHeartbeats 4000000 in
set_option maxRecDepth 100000 in
theorem h_unit_X9 (l : Launch) (D : va_G) (g : Nat → ClassId) (σ : Nat → Option Nat) (Z : State → Heap → Prop) (hZ0 : hZ σ Z) (M : hM) (N : hN) (R : hR) (y : Nat) (g_y : σ y = some 9) (m0_PI : PI M y) (m0_EX1 : EX1 M R y) (hg9 : M y 4 = 0) : Met l yX9_unit wsX9_unit ({ frames := 2, cells := 0, slots := 0, locals := 44 }) (va_Pc [.ref y] (hPre D g σ Z M N R)) (hQi D g σ e_h_unit_X9 M (fun (r : Int32) (M1 : hM) (N1 : hN) (R1 : hR) => R = R1 ∧ iv r 0 1 ∧ (PI M1 y) ∧ (PN M M1 y) ∧ (PC M M1 R y) ∧ (M1 y 4 = 0 → EXw M1 R y r) ∧ (gm M1 y < gm M y))) 0 0 (hA σ) := by
  refine h_head (cc := cX9_unit) (maxL := 7) (ret := (some .boolean)) (by decide) rfl (Nat.le_of_ble_eq_true rfl) e_h_unit_X9 ?_
  intro p e s m below meth c ls Q ar hQ hx hb hr hlocks hml hown hts hK hE H locs hI hl
  have hown : s.vm.findClass RX9 = some m.cls := hown
  have hl : lv_has ls 7 [(0, .ref y)] := hl
  have i39 : iv (M y 39) 0 90 := hI.iv1 (a := y) (j := 39) (lo := 0) (hi := 90) (n := 67) g_y rfl (by decide) rfl
  obtain ⟨v1, e_v1⟩ : ∃ z : Int32, z = M y 39 := ⟨_, rfl⟩
  have i_v1 : iv v1 0 90 := by rw [e_v1]; exact hI.iv1 (n := 67) g_y rfl (by decide) rfl
  refine lv_aload_n hx hb dX9_unit_0 rfl (lv_at hl 0 rfl) ?_
  refine h_getr hx hb hts iX9_unit_X9 hown hK hI g_y (by decide) rfl rfl 32 (by decide) rfl 132 rfl (hts (.fieldLink RX9 85 "CatLeasesModel" "eWhat" "[I") (List.mem_of_getElem? (i := 1) rfl)) (fun _ h9 => h9) dX9_unit_1 (fun a2 e_a2 g_a2 => ?_)
  refine lv_aload_n hx hb dX9_unit_4 rfl (lv_at hl 0 rfl) ?_
  refine h_geti (lo := 0) (hi := 90) hx hb hts iX9_unit_X9 hown hK hI g_y (by decide) rfl rfl 39 (by decide) rfl rfl (hts (.fieldLink RX9 327 "CatLeasesModel" "piled" "I") (List.mem_of_getElem? (i := 2) rfl)) (fun _ h9 => h9) dX9_unit_5 (fun v3 e_v3 i_v3 => ?_)
  have q4 : v1 = v3 := (e_v1).trans e_v3.symm
  subst q4
  have ip9 : iv v1 1 38 := EX1_p m0_EX1 e_v1
  refine lv_iconst (v := 1) hx hb dX9_unit_8 (by decide) ?_
  refine lv_isub hx hb dX9_unit_9 ?_
  refine h_nm (lo := 0) (hi := 37) (iv_sub ip9 kc_1 (by decide) (by decide) (by decide) (by decide)) (fun v5 e_v5 i_v5 => ?_)
  refine h_iald (j := v5.toNatClampNeg) (lo := (-2147483648)) (hi := 2147483647) hx hb hK hI g_a2 (by decide) rfl (iv_in (n := 90) i_v5 (by decide) (by decide)) rfl (iv_any _) dX9_unit_10 (fun v6 e_v6 i_v6 => ?_)
  refine lv_iconst (v := 3) hx hb dX9_unit_11 (by decide) ?_
  have J36 : ∀ (t0_36 : Int32) (H : Heap) (locs : List Loc) (ls : Array Slot), kI D g σ e_h_unit_X9 M s.heap M N R H locs → lv_has ls 7 [(0, .ref y)] → iv t0_36 0 1 → W p l e (headSpec wsX9_unit ({ frames := 2, cells := 0, slots := 0, locals := 44 })).room s m ar below meth c H locs 0 0 Q (F0 m 36 ls [.int t0_36]) := by
    intro t0_36 H locs ls hI hl i_t0_36
    refine lv_istore_n (lv' := [(1, .int t0_36), (0, .ref y)]) hx hb dX9_unit_36 rfl hl (by decide) rfl (fun ls hl => ?_)
    refine lv_iload_n hx hb dX9_unit_37 rfl (lv_at hl 0 rfl) ?_
    have J55 : ∀ (H : Heap) (locs : List Loc) (ls : Array Slot), kI D g σ e_h_unit_X9 M s.heap M N R H locs → lv_has ls 7 [(0, .ref y)] → W p l e (headSpec wsX9_unit ({ frames := 2, cells := 0, slots := 0, locals := 44 })).room s m ar below meth c H locs 0 0 Q (F0 m 55 ls []) := by
      intro H locs ls hI hl
      refine lv_iconst (v := 0) hx hb dX9_unit_55 (by decide) ?_
      refine lv_istore_n (lv' := [(2, .int (0 : Int32)), (0, .ref y)]) hx hb dX9_unit_56 rfl hl (by decide) rfl (fun ls hl => ?_)
      refine lv_aload_n hx hb dX9_unit_57 rfl (lv_at hl 1 rfl) ?_
      refine lv_bipush (v := 40) hx hb dX9_unit_58 (by decide) ?_
      refine h_goi hI (by decide) (va_runV (As := [.int (40 : Int32)]) (rest := []) ⟨hx, hb, hml, hown, hts⟩ (h_isSignHere_X9 l D g σ Z hZ0 M N R y g_y (40 : Int32)) (cwV 1 hts gX9_unit_X9_isSignHere rfl rfl rfl (by decide +kernel) ⟨Nat.le_of_ble_eq_true rfl, Nat.le_of_ble_eq_true rfl⟩) (h_preV hZ0 hK hE hI g_y (by decide) rfl) rfl rfl hl.1 rfl (lv_room (Nat.le_of_ble_eq_true rfl)) dX9_unit_60 ⟨Nat.le_of_ble_eq_true rfl, Nat.le_of_ble_eq_true rfl⟩) (fun r7 M8 N9 R10 H locs q11 z_M8 hI => ?_)
      obtain ⟨rfl, rfl, rfl, i_r7, z12, z13⟩ := q11
      refine lv_istore_n (lv' := [(3, .int r7), (2, .int (0 : Int32)), (0, .ref y)]) hx hb dX9_unit_63 rfl hl (by decide) rfl (fun ls hl => ?_)
      refine lv_aload_n hx hb dX9_unit_64 rfl (lv_at hl 2 rfl) ?_
      refine h_goi hI (by decide) (va_runV (As := []) (rest := []) ⟨hx, hb, hml, hown, hts⟩ (h_wordHere_X9 l D g σ Z hZ0 M N R y g_y) (cwV 0 hts gX9_unit_X9_wordHere rfl rfl rfl (by decide +kernel) ⟨Nat.le_of_ble_eq_true rfl, Nat.le_of_ble_eq_true rfl⟩) (h_preV hZ0 hK hE hI g_y (by decide) rfl) rfl rfl hl.1 rfl (lv_room (Nat.le_of_ble_eq_true rfl)) dX9_unit_65 ⟨Nat.le_of_ble_eq_true rfl, Nat.le_of_ble_eq_true rfl⟩) (fun r14 M15 N16 R17 H locs q18 z_M15 hI => ?_)
      obtain ⟨rfl, rfl, rfl, i_r14, z19⟩ := q18
      refine lv_istore (lv' := [(4, .int r14), (3, .int r7), (2, .int (0 : Int32)), (0, .ref y)]) hx hb dX9_unit_68 hl (by decide) rfl (fun ls hl => ?_)
      refine lv_aload_n hx hb dX9_unit_70 rfl (lv_at hl 3 rfl) ?_
      refine h_getr hx hb hts iX9_unit_X9 hown hK hI g_y (by decide) rfl rfl 14 (by decide) rfl 114 rfl (hts (.fieldLink RX9 30 "CatLeasesModel" "units" "[I") (List.mem_of_getElem? (i := 4) rfl)) (fun _ h9 => h9) dX9_unit_71 (fun a20 e_a20 g_a20 => ?_)
      refine lv_aload_n hx hb dX9_unit_74 rfl (lv_at hl 3 rfl) ?_
      refine h_geti (lo := 0) (hi := 1) hx hb hts iX9_unit_X9 hown hK hI g_y (by decide) rfl rfl 36 (by decide) rfl rfl (hts (.fieldLink RX9 259 "CatLeasesModel" "rb" "I") (List.mem_of_getElem? (i := 5) rfl)) (fun _ h9 => h9) dX9_unit_75 (fun v21 e_v21 i_v21 => ?_)
      refine h_iald (j := v21.toNatClampNeg) (lo := (-2147483648)) (hi := 2147483647) hx hb hK hI g_a20 (by decide) rfl (iv_in (n := 2) i_v21 (by decide) (by decide)) rfl (iv_any _) dX9_unit_78 (fun v22 e_v22 i_v22 => ?_)
      refine lv_bipush (v := 60) hx hb dX9_unit_79 (by decide) ?_
      refine lv_icmp_eq (tgt := 93) hx hb dX9_unit_81 (by decide) (fun c23 => ?_) (fun c23 => ?_)
      · have i24 : iv v22 60 60 := iv_eq1 c23 i_v22 kc_60
        refine lv_iconst (v := 1) hx hb dX9_unit_93 (by decide) ?_
        refine lv_goto (tgt := 98) hx hb dX9_unit_94 (by decide) ?_
        refine lv_istore (lv' := [(5, .int (1 : Int32)), (4, .int r14), (3, .int r7), (2, .int (0 : Int32)), (0, .ref y)]) hx hb dX9_unit_98 hl (by decide) rfl (fun ls hl => ?_)
        refine lv_iload_n hx hb dX9_unit_100 rfl (lv_at hl 3 rfl) ?_
        refine lv_if_ne (tgt := 126) hx hb dX9_unit_101 (by decide) (fun c25 => ?_) (fun c25 => ?_)
        · exact absurd rfl c25
        · refine lv_iload hx hb dX9_unit_104 (lv_at hl 1 rfl) ?_
          refine lv_if_ne (tgt := 121) hx hb dX9_unit_106 (by decide) (fun c26 => ?_) (fun c26 => ?_)
          · have i27 := z19 c26
            obtain ⟨v28, e_v28⟩ : ∃ z : Int32, z = M y 8 := ⟨_, rfl⟩
            have i29 : iv v28 3 3 := by rw [e_v28, i27.2]; exact kc_3
            refine lv_iload hx hb dX9_unit_121 (lv_at hl 0 rfl) ?_
            refine lv_if_ne (tgt := 143) hx hb dX9_unit_123 (by decide) (fun c30 => ?_) (fun c30 => ?_)
            · refine lv_aload_n hx hb dX9_unit_143 rfl (lv_at hl 4 rfl) ?_
              refine h_gov hI (by decide) (va_runV (As := []) (rest := []) ⟨hx, hb, hml, hown, hts⟩ (h_misplaced_X9 l D g σ Z hZ0 M N R y g_y m0_PI) (cwV 0 hts gX9_unit_X9_misplaced rfl rfl rfl (by decide +kernel) ⟨Nat.le_of_ble_eq_true rfl, Nat.le_of_ble_eq_true rfl⟩) (h_preV hZ0 hK hE hI g_y (by decide) rfl) rfl rfl hl.1 rfl (lv_room (Nat.le_of_ble_eq_true rfl)) dX9_unit_144 ⟨Nat.le_of_ble_eq_true rfl, Nat.le_of_ble_eq_true rfl⟩) (fun M32 N33 R34 H locs q35 z_M32 hI => ?_)
              obtain ⟨rfl, rfl, m36, m37, z38⟩ := q35
              obtain ⟨v39, e_v39⟩ : ∃ z : Int32, z = M32 y 4 := ⟨_, rfl⟩
              have i_v39 : iv v39 1 5 := by rw [e_v39]; exact z38
              refine lv_aload_n hx hb dX9_unit_147 rfl (lv_at hl 4 rfl) ?_
              refine h_goi hI (by decide) (va_runV (As := []) (rest := []) ⟨hx, hb, hml, hown, hts⟩ (h_isGood_X9 l D g σ Z hZ0 M32 N R y g_y) (cwV 0 hts gX9_unit_X9_isGood rfl rfl rfl (by decide +kernel) ⟨Nat.le_of_ble_eq_true rfl, Nat.le_of_ble_eq_true rfl⟩) (h_preV hZ0 hK hE hI g_y (by decide) rfl) rfl rfl hl.1 rfl (lv_room (Nat.le_of_ble_eq_true rfl)) dX9_unit_148 ⟨Nat.le_of_ble_eq_true rfl, Nat.le_of_ble_eq_true rfl⟩) (fun r40 M41 N42 R43 H locs q44 z_M41 hI => ?_)
              obtain ⟨rfl, rfl, rfl, i_r40, z45, z46⟩ := q44
              refine lv_if_ne (tgt := 156) hx hb dX9_unit_151 (by decide) (fun c47 => ?_) (fun c47 => ?_)
              · exact absurd ((e_v39).trans (z45 c47)) (iv_ne i_v39 kc_0 (by decide))
              · have i48 : iv r40 0 0 := iv_eq1 c47 i_r40 kc_0
                refine lv_iconst (v := 1) hx hb dX9_unit_154 (by decide) ?_
                have m49 : PN M M32 y := (PN_tr PN_rf m37)
                have m50 : PC M M32 R y := (PC_ag hI.2.1 g_y PC_rf (hAd.ag z_M32 (by decide)))
                exact h_iret hQ hx hb hr hlocks rfl hK hI ⟨rfl, (iv_w (lo' := 0) (hi' := 1) kc_1 (by decide) (by decide)), m36, m49, m50, (fun h9 => gd_no (e_v39) i_v39 h9), (gm_lt hg9 m0_PI i39 (fun h9 => gd_no (e_v39) i_v39 h9))⟩ dX9_unit_155
            · exact absurd c30 (iv_ne kc_1 kc_0 (by decide))
          · have i51 : iv r14 0 0 := iv_eq1 c26 i_r14 kc_0
            refine lv_aload_n hx hb dX9_unit_109 rfl (lv_at hl 4 rfl) ?_
            refine h_geti (lo := (-2147483648)) (hi := 2147483647) hx hb hts iX9_unit_X9 hown hK hI g_y (by decide) rfl rfl 8 (by decide) rfl rfl (hts (.fieldLink RX9 206 "CatLeasesModel" "token" "I") (List.mem_of_getElem? (i := 7) rfl)) (fun _ h9 => h9) dX9_unit_110 (fun v52 e_v52 i_v52 => ?_)
            refine lv_iconst (v := 4) hx hb dX9_unit_113 (by decide) ?_
            refine lv_icmp_eq (tgt := 121) hx hb dX9_unit_114 (by decide) (fun c53 => ?_) (fun c53 => ?_)
            · have i54 : iv v52 4 4 := iv_eq1 c53 i_v52 kc_4
              refine lv_iload hx hb dX9_unit_121 (lv_at hl 0 rfl) ?_
              refine lv_if_ne (tgt := 143) hx hb dX9_unit_123 (by decide) (fun c55 => ?_) (fun c55 => ?_)
              · refine lv_aload_n hx hb dX9_unit_143 rfl (lv_at hl 4 rfl) ?_
                refine h_gov hI (by decide) (va_runV (As := []) (rest := []) ⟨hx, hb, hml, hown, hts⟩ (h_misplaced_X9 l D g σ Z hZ0 M N R y g_y m0_PI) (cwV 0 hts gX9_unit_X9_misplaced rfl rfl rfl (by decide +kernel) ⟨Nat.le_of_ble_eq_true rfl, Nat.le_of_ble_eq_true rfl⟩) (h_preV hZ0 hK hE hI g_y (by decide) rfl) rfl rfl hl.1 rfl (lv_room (Nat.le_of_ble_eq_true rfl)) dX9_unit_144 ⟨Nat.le_of_ble_eq_true rfl, Nat.le_of_ble_eq_true rfl⟩) (fun M57 N58 R59 H locs q60 z_M57 hI => ?_)
                obtain ⟨rfl, rfl, m61, m62, z63⟩ := q60
                obtain ⟨v64, e_v64⟩ : ∃ z : Int32, z = M57 y 4 := ⟨_, rfl⟩
                have i_v64 : iv v64 1 5 := by rw [e_v64]; exact z63
                refine lv_aload_n hx hb dX9_unit_147 rfl (lv_at hl 4 rfl) ?_
                refine h_goi hI (by decide) (va_runV (As := []) (rest := []) ⟨hx, hb, hml, hown, hts⟩ (h_isGood_X9 l D g σ Z hZ0 M57 N R y g_y) (cwV 0 hts gX9_unit_X9_isGood rfl rfl rfl (by decide +kernel) ⟨Nat.le_of_ble_eq_true rfl, Nat.le_of_ble_eq_true rfl⟩) (h_preV hZ0 hK hE hI g_y (by decide) rfl) rfl rfl hl.1 rfl (lv_room (Nat.le_of_ble_eq_true rfl)) dX9_unit_148 ⟨Nat.le_of_ble_eq_true rfl, Nat.le_of_ble_eq_true rfl⟩) (fun r65 M66 N67 R68 H locs q69 z_M66 hI => ?_)
                obtain ⟨rfl, rfl, rfl, i_r65, z70, z71⟩ := q69
                refine lv_if_ne (tgt := 156) hx hb dX9_unit_151 (by decide) (fun c72 => ?_) (fun c72 => ?_)
                · exact absurd ((e_v64).trans (z70 c72)) (iv_ne i_v64 kc_0 (by decide))
                · have i73 : iv r65 0 0 := iv_eq1 c72 i_r65 kc_0
                  refine lv_iconst (v := 1) hx hb dX9_unit_154 (by decide) ?_
                  have m74 : PN M M57 y := (PN_tr PN_rf m62)
                  have m75 : PC M M57 R y := (PC_ag hI.2.1 g_y PC_rf (hAd.ag z_M57 (by decide)))
                  exact h_iret hQ hx hb hr hlocks rfl hK hI ⟨rfl, (iv_w (lo' := 0) (hi' := 1) kc_1 (by decide) (by decide)), m61, m74, m75, (fun h9 => gd_no (e_v64) i_v64 h9), (gm_lt hg9 m0_PI i39 (fun h9 => gd_no (e_v64) i_v64 h9))⟩ dX9_unit_155
              · exact absurd c55 (iv_ne kc_1 kc_0 (by decide))
            · refine lv_iload_n hx hb dX9_unit_117 rfl (lv_at hl 2 rfl) ?_
              refine lv_if_eq (tgt := 143) hx hb dX9_unit_118 (by decide) (fun c76 => ?_) (fun c76 => ?_)
              · have i77 : iv r7 0 0 := iv_eq1 c76 i_r7 kc_0
                refine lv_aload_n hx hb dX9_unit_143 rfl (lv_at hl 4 rfl) ?_
                refine h_gov hI (by decide) (va_runV (As := []) (rest := []) ⟨hx, hb, hml, hown, hts⟩ (h_misplaced_X9 l D g σ Z hZ0 M N R y g_y m0_PI) (cwV 0 hts gX9_unit_X9_misplaced rfl rfl rfl (by decide +kernel) ⟨Nat.le_of_ble_eq_true rfl, Nat.le_of_ble_eq_true rfl⟩) (h_preV hZ0 hK hE hI g_y (by decide) rfl) rfl rfl hl.1 rfl (lv_room (Nat.le_of_ble_eq_true rfl)) dX9_unit_144 ⟨Nat.le_of_ble_eq_true rfl, Nat.le_of_ble_eq_true rfl⟩) (fun M79 N80 R81 H locs q82 z_M79 hI => ?_)
                obtain ⟨rfl, rfl, m83, m84, z85⟩ := q82
                obtain ⟨v86, e_v86⟩ : ∃ z : Int32, z = M79 y 4 := ⟨_, rfl⟩
                have i_v86 : iv v86 1 5 := by rw [e_v86]; exact z85
                refine lv_aload_n hx hb dX9_unit_147 rfl (lv_at hl 4 rfl) ?_
                refine h_goi hI (by decide) (va_runV (As := []) (rest := []) ⟨hx, hb, hml, hown, hts⟩ (h_isGood_X9 l D g σ Z hZ0 M79 N R y g_y) (cwV 0 hts gX9_unit_X9_isGood rfl rfl rfl (by decide +kernel) ⟨Nat.le_of_ble_eq_true rfl, Nat.le_of_ble_eq_true rfl⟩) (h_preV hZ0 hK hE hI g_y (by decide) rfl) rfl rfl hl.1 rfl (lv_room (Nat.le_of_ble_eq_true rfl)) dX9_unit_148 ⟨Nat.le_of_ble_eq_true rfl, Nat.le_of_ble_eq_true rfl⟩) (fun r87 M88 N89 R90 H locs q91 z_M88 hI => ?_)
                obtain ⟨rfl, rfl, rfl, i_r87, z92, z93⟩ := q91
                refine lv_if_ne (tgt := 156) hx hb dX9_unit_151 (by decide) (fun c94 => ?_) (fun c94 => ?_)
                · exact absurd ((e_v86).trans (z92 c94)) (iv_ne i_v86 kc_0 (by decide))
                · have i95 : iv r87 0 0 := iv_eq1 c94 i_r87 kc_0
                  refine lv_iconst (v := 1) hx hb dX9_unit_154 (by decide) ?_
                  have m96 : PN M M79 y := (PN_tr PN_rf m84)
                  have m97 : PC M M79 R y := (PC_ag hI.2.1 g_y PC_rf (hAd.ag z_M79 (by decide)))
                  exact h_iret hQ hx hb hr hlocks rfl hK hI ⟨rfl, (iv_w (lo' := 0) (hi' := 1) kc_1 (by decide) (by decide)), m83, m96, m97, (fun h9 => gd_no (e_v86) i_v86 h9), (gm_lt hg9 m0_PI i39 (fun h9 => gd_no (e_v86) i_v86 h9))⟩ dX9_unit_155
              · have i98 : iv v52 5 5 := by rw [(e_v52), (z13 c76).1]; exact kc_5
                have i99 : iv r7 1 1 := iv_neL c76 i_r7 (by decide) (by decide)
                refine lv_iload hx hb dX9_unit_121 (lv_at hl 0 rfl) ?_
                refine lv_if_ne (tgt := 143) hx hb dX9_unit_123 (by decide) (fun c100 => ?_) (fun c100 => ?_)
                · refine lv_aload_n hx hb dX9_unit_143 rfl (lv_at hl 4 rfl) ?_
                  refine h_gov hI (by decide) (va_runV (As := []) (rest := []) ⟨hx, hb, hml, hown, hts⟩ (h_misplaced_X9 l D g σ Z hZ0 M N R y g_y m0_PI) (cwV 0 hts gX9_unit_X9_misplaced rfl rfl rfl (by decide +kernel) ⟨Nat.le_of_ble_eq_true rfl, Nat.le_of_ble_eq_true rfl⟩) (h_preV hZ0 hK hE hI g_y (by decide) rfl) rfl rfl hl.1 rfl (lv_room (Nat.le_of_ble_eq_true rfl)) dX9_unit_144 ⟨Nat.le_of_ble_eq_true rfl, Nat.le_of_ble_eq_true rfl⟩) (fun M102 N103 R104 H locs q105 z_M102 hI => ?_)
                  obtain ⟨rfl, rfl, m106, m107, z108⟩ := q105
                  obtain ⟨v109, e_v109⟩ : ∃ z : Int32, z = M102 y 4 := ⟨_, rfl⟩
                  have i_v109 : iv v109 1 5 := by rw [e_v109]; exact z108
                  refine lv_aload_n hx hb dX9_unit_147 rfl (lv_at hl 4 rfl) ?_
                  refine h_goi hI (by decide) (va_runV (As := []) (rest := []) ⟨hx, hb, hml, hown, hts⟩ (h_isGood_X9 l D g σ Z hZ0 M102 N R y g_y) (cwV 0 hts gX9_unit_X9_isGood rfl rfl rfl (by decide +kernel) ⟨Nat.le_of_ble_eq_true rfl, Nat.le_of_ble_eq_true rfl⟩) (h_preV hZ0 hK hE hI g_y (by decide) rfl) rfl rfl hl.1 rfl (lv_room (Nat.le_of_ble_eq_true rfl)) dX9_unit_148 ⟨Nat.le_of_ble_eq_true rfl, Nat.le_of_ble_eq_true rfl⟩) (fun r110 M111 N112 R113 H locs q114 z_M111 hI => ?_)
                  obtain ⟨rfl, rfl, rfl, i_r110, z115, z116⟩ := q114
                  refine lv_if_ne (tgt := 156) hx hb dX9_unit_151 (by decide) (fun c117 => ?_) (fun c117 => ?_)
                  · exact absurd ((e_v109).trans (z115 c117)) (iv_ne i_v109 kc_0 (by decide))
                  · have i118 : iv r110 0 0 := iv_eq1 c117 i_r110 kc_0
                    refine lv_iconst (v := 1) hx hb dX9_unit_154 (by decide) ?_
                    have m119 : PN M M102 y := (PN_tr PN_rf m107)
                    have m120 : PC M M102 R y := (PC_ag hI.2.1 g_y PC_rf (hAd.ag z_M102 (by decide)))
                    exact h_iret hQ hx hb hr hlocks rfl hK hI ⟨rfl, (iv_w (lo' := 0) (hi' := 1) kc_1 (by decide) (by decide)), m106, m119, m120, (fun h9 => gd_no (e_v109) i_v109 h9), (gm_lt hg9 m0_PI i39 (fun h9 => gd_no (e_v109) i_v109 h9))⟩ dX9_unit_155
                · exact absurd c100 (iv_ne kc_1 kc_0 (by decide))
      · refine lv_aload_n hx hb dX9_unit_84 rfl (lv_at hl 3 rfl) ?_
        refine h_geti (lo := 0) (hi := 30) hx hb hts iX9_unit_X9 hown hK hI g_y (by decide) rfl rfl 40 (by decide) rfl rfl (hts (.fieldLink RX9 321 "CatLeasesModel" "unitsInRule" "I") (List.mem_of_getElem? (i := 6) rfl)) (fun _ h9 => h9) dX9_unit_85 (fun v121 e_v121 i_v121 => ?_)
        refine lv_bipush (v := 30) hx hb dX9_unit_88 (by decide) ?_
        refine lv_icmp_ne (tgt := 97) hx hb dX9_unit_90 (by decide) (fun c122 => ?_) (fun c122 => ?_)
        · have i123 : iv v121 0 29 := iv_neH c122 i_v121 (by decide) (by decide)
          refine lv_iconst (v := 0) hx hb dX9_unit_97 (by decide) ?_
          refine lv_istore (lv' := [(5, .int (0 : Int32)), (4, .int r14), (3, .int r7), (2, .int (0 : Int32)), (0, .ref y)]) hx hb dX9_unit_98 hl (by decide) rfl (fun ls hl => ?_)
          refine lv_iload_n hx hb dX9_unit_100 rfl (lv_at hl 3 rfl) ?_
          refine lv_if_ne (tgt := 126) hx hb dX9_unit_101 (by decide) (fun c124 => ?_) (fun c124 => ?_)
          · exact absurd rfl c124
          · refine lv_iload hx hb dX9_unit_104 (lv_at hl 1 rfl) ?_
            refine lv_if_ne (tgt := 121) hx hb dX9_unit_106 (by decide) (fun c125 => ?_) (fun c125 => ?_)
            · have i126 := z19 c125
              obtain ⟨v127, e_v127⟩ : ∃ z : Int32, z = M y 8 := ⟨_, rfl⟩
              have i128 : iv v127 3 3 := by rw [e_v127, i126.2]; exact kc_3
              refine lv_iload hx hb dX9_unit_121 (lv_at hl 0 rfl) ?_
              refine lv_if_ne (tgt := 143) hx hb dX9_unit_123 (by decide) (fun c129 => ?_) (fun c129 => ?_)
              · exact absurd rfl c129
              · refine lv_iload_n hx hb dX9_unit_126 rfl (lv_at hl 3 rfl) ?_
                refine lv_if_ne (tgt := 134) hx hb dX9_unit_127 (by decide) (fun c130 => ?_) (fun c130 => ?_)
                · exact absurd rfl c130
                · refine lv_iload_n hx hb dX9_unit_130 rfl (lv_at hl 2 rfl) ?_
                  refine lv_if_eq (tgt := 147) hx hb dX9_unit_131 (by decide) (fun c131 => ?_) (fun c131 => ?_)
                  · have i132 : iv r7 0 0 := iv_eq1 c131 i_r7 kc_0
                    refine lv_aload_n hx hb dX9_unit_147 rfl (lv_at hl 4 rfl) ?_
                    refine h_goi hI (by decide) (va_runV (As := []) (rest := []) ⟨hx, hb, hml, hown, hts⟩ (h_isGood_X9 l D g σ Z hZ0 M N R y g_y) (cwV 0 hts gX9_unit_X9_isGood rfl rfl rfl (by decide +kernel) ⟨Nat.le_of_ble_eq_true rfl, Nat.le_of_ble_eq_true rfl⟩) (h_preV hZ0 hK hE hI g_y (by decide) rfl) rfl rfl hl.1 rfl (lv_room (Nat.le_of_ble_eq_true rfl)) dX9_unit_148 ⟨Nat.le_of_ble_eq_true rfl, Nat.le_of_ble_eq_true rfl⟩) (fun r133 M134 N135 R136 H locs q137 z_M134 hI => ?_)
                    obtain ⟨rfl, rfl, rfl, i_r133, z138, z139⟩ := q137
                    refine lv_if_ne (tgt := 156) hx hb dX9_unit_151 (by decide) (fun c140 => ?_) (fun c140 => ?_)
                    · obtain ⟨v141, e_v141⟩ : ∃ z : Int32, z = M y 4 := ⟨_, rfl⟩
                      have i_v141 : iv v141 0 5 := by rw [e_v141]; exact hI.iv1 (n := 67) g_y rfl (by decide) rfl
                      have i142 : iv v141 0 0 := by rw [e_v141, z138 c140]; exact kc_0
                      have i143 : iv r133 1 1 := iv_neL c140 i_r133 (by decide) (by decide)
                      obtain ⟨v144, e_v144⟩ : ∃ z : Int32, z = M y 37 := ⟨_, rfl⟩
                      have i_v144 : iv v144 0 1120 := by rw [e_v144]; exact hI.iv1 (n := 67) g_y rfl (by decide) rfl
                      obtain ⟨v145, e_v145⟩ : ∃ z : Int32, z = M y 38 := ⟨_, rfl⟩
                      refine lv_aload_n hx hb dX9_unit_156 rfl (lv_at hl 4 rfl) ?_
                      refine h_getr hx hb hts iX9_unit_X9 hown hK hI g_y (by decide) rfl rfl 14 (by decide) rfl 114 rfl (hts (.fieldLink RX9 30 "CatLeasesModel" "units" "[I") (List.mem_of_getElem? (i := 4) rfl)) (fun _ h9 => h9) dX9_unit_157 (fun a146 e_a146 g_a146 => ?_)
                      have q147 : a20 = a146 := (e_a20).trans e_a146.symm
                      subst q147
                      refine lv_aload_n hx hb dX9_unit_160 rfl (lv_at hl 4 rfl) ?_
                      refine h_geti (lo := 0) (hi := 1) hx hb hts iX9_unit_X9 hown hK hI g_y (by decide) rfl rfl 36 (by decide) rfl rfl (hts (.fieldLink RX9 259 "CatLeasesModel" "rb" "I") (List.mem_of_getElem? (i := 5) rfl)) (fun _ h9 => h9) dX9_unit_161 (fun v148 e_v148 i_v148 => ?_)
                      have q149 : v21 = v148 := (e_v21).trans e_v148.symm
                      subst q149
                      refine lv_dup2_11 hx hb dX9_unit_164 rfl rfl ?_
                      refine h_iald (j := v21.toNatClampNeg) (lo := (-2147483648)) (hi := 2147483647) hx hb hK hI g_a20 (by decide) rfl (iv_in (n := 2) i_v21 (by decide) (by decide)) rfl (iv_any _) dX9_unit_165 (fun v150 e_v150 i_v150 => ?_)
                      have q151 : v22 = v150 := (e_v22).trans e_v150.symm
                      subst q151
                      refine lv_iload_n hx hb dX9_unit_166 rfl (lv_at hl 3 rfl) ?_
                      refine lv_if_eq (tgt := 174) hx hb dX9_unit_167 (by decide) (fun c152 => ?_) (fun c152 => ?_)
                      · refine lv_iconst (v := 1) hx hb dX9_unit_174 (by decide) ?_
                        refine lv_iadd hx hb dX9_unit_175 ?_
                        refine h_nm (lo := (-2147483648)) (hi := 2147483647) (iv_any _) (fun v153 e_v153 i_v153 => ?_)
                        refine h_iast (j := v21.toNatClampNeg) hx hb hK hI g_a20 (by decide) rfl (iv_in (n := 2) i_v21 (by decide) (by decide)) rfl (iv_any _) rfl dX9_unit_176 (fun M154 H locs e_M154 hI => ?_)
                        refine lv_aload_n hx hb dX9_unit_177 rfl (lv_at hl 4 rfl) ?_
                        refine lv_dup hx hb dX9_unit_178 rfl ?_
                        refine h_geti (lo := 0) (hi := 30) hx hb hts iX9_unit_X9 hown hK hI g_y (by decide) rfl rfl 40 (by decide) rfl rfl (hts (.fieldLink RX9 321 "CatLeasesModel" "unitsInRule" "I") (List.mem_of_getElem? (i := 6) rfl)) (fun _ h9 => h9) dX9_unit_179 (fun v155 e_v155 i_v155 => ?_)
                        have q156 : v121 = v155 := ((e_v121).trans (u2_st (a := y) (k := 40) e_M154 (u2_a (so_ne g_y g_a20 (by decide)))).symm).trans e_v155.symm
                        subst q156
                        refine lv_iload_n hx hb dX9_unit_182 rfl (lv_at hl 3 rfl) ?_
                        refine lv_if_eq (tgt := 190) hx hb dX9_unit_183 (by decide) (fun c157 => ?_) (fun c157 => ?_)
                        · refine lv_iconst (v := 1) hx hb dX9_unit_190 (by decide) ?_
                          refine lv_iadd hx hb dX9_unit_191 ?_
                          refine h_nm (lo := 1) (hi := 30) (iv_add i123 kc_1 (by decide) (by decide) (by decide) (by decide)) (fun v158 e_v158 i_v158 => ?_)
                          refine h_puti hx hb hts iX9_unit_X9 tyX9 tyX9_ok nmX9 hown hK hI g_y (by decide) rfl rfl 40 (by decide) rfl (hts (.fieldLink RX9 321 "CatLeasesModel" "unitsInRule" "I") (List.mem_of_getElem? (i := 6) rfl)) (fun _ h9 => h9) rfl .int (by decide +kernel) rfl rfl (iv_w (lo' := 0) (hi' := 30) i_v158 (by decide) (by decide)) rfl dX9_unit_192 (fun M159 H locs e_M159 hI => ?_)
                          refine lv_iload hx hb dX9_unit_195 (lv_at hl 1 rfl) ?_
                          refine lv_if_ne (tgt := 207) hx hb dX9_unit_197 (by decide) (fun c160 => ?_) (fun c160 => ?_)
                          · refine lv_iconst (v := 0) hx hb dX9_unit_207 (by decide) ?_
                            refine lv_istore (lv' := [(6, .int (0 : Int32)), (5, .int (0 : Int32)), (4, .int r14), (3, .int r7), (2, .int (0 : Int32)), (0, .ref y)]) hx hb dX9_unit_208 hl (by decide) rfl (fun ls hl => ?_)
                            refine lv_aload_n hx hb dX9_unit_210 rfl (lv_at hl 5 rfl) ?_
                            have m161 : PI M159 y := (PI_ag hI.2.1 g_y (PI_ag hI.2.1 g_y m0_PI (hAd.put e_M154 g_a20 rfl)) (hAd.put e_M159 g_y rfl))
                            have m162 : PN M M159 y := (PN_ag hI.2.1 g_y (PN_ag hI.2.1 g_y PN_rf (hAd.put e_M154 g_a20 rfl)) (hAd.put e_M159 g_y rfl))
                            refine h_gov hI (by decide) (va_runV (As := []) (rest := []) ⟨hx, hb, hml, hown, hts⟩ (h_goOn_X9 l D g σ Z hZ0 M159 N R y g_y m161) (cwV 0 hts gX9_unit_X9_goOn rfl rfl rfl (by decide +kernel) ⟨Nat.le_of_ble_eq_true rfl, Nat.le_of_ble_eq_true rfl⟩) (h_preV hZ0 hK hE hI g_y (by decide) rfl) rfl rfl hl.1 rfl (lv_room (Nat.le_of_ble_eq_true rfl)) dX9_unit_211 ⟨Nat.le_of_ble_eq_true rfl, Nat.le_of_ble_eq_true rfl⟩) (fun M164 N165 R166 H locs q167 z_M164 hI => ?_)
                            obtain ⟨rfl, z168, z169, z170⟩ := q167
                            have ng9 : nu M164 y < nu M y := Int.lt_of_lt_of_le (GO_lt z170 (z_M164 y 9 3 g_y rfl) m161 (fun h9 => iv_ne i128 kc_0 (by decide) ((((e_v127).trans (u2_st (a := y) (k := 8) e_M154 (u2_a (so_ne g_y g_a20 (by decide)))).symm).trans (u2_st (a := y) (k := 8) e_M159 (u2_k (by decide))).symm).trans h9))) m162.2.2
                            refine lv_iload_n hx hb dX9_unit_214 rfl (lv_at hl 4 rfl) ?_
                            refine lv_if_ne (tgt := 222) hx hb dX9_unit_215 (by decide) (fun c171 => ?_) (fun c171 => ?_)
                            · exact absurd rfl c171
                            · refine lv_iload_n hx hb dX9_unit_218 rfl (lv_at hl 3 rfl) ?_
                              refine lv_if_eq (tgt := 250) hx hb dX9_unit_219 (by decide) (fun c172 => ?_) (fun c172 => ?_)
                              · refine lv_aload_n hx hb dX9_unit_250 rfl (lv_at hl 5 rfl) ?_
                                refine lv_iload hx hb dX9_unit_251 (lv_at hl 2 rfl) ?_
                                refine lv_if_ne (tgt := 261) hx hb dX9_unit_253 (by decide) (fun c173 => ?_) (fun c173 => ?_)
                                · refine lv_iload hx hb dX9_unit_261 (lv_at hl 2 rfl) ?_
                                  refine lv_iload hx hb dX9_unit_263 (lv_at hl 0 rfl) ?_
                                  refine h_gov hI (by decide) (va_runV (As := [.int r14, .int (0 : Int32)]) (rest := []) ⟨hx, hb, hml, hown, hts⟩ (h_emit_X9 l D g σ Z hZ0 M164 N165 R y g_y r14 (0 : Int32) (EX1_c m0_EX1 (by rw [← ((z_M164 y 9 36 g_y rfl).trans ((u2_st (a := y) (k := 36) e_M159 (u2_k (by decide))).trans (u2_st (a := y) (k := 36) e_M154 (u2_a (so_ne g_y g_a20 (by decide))))))]; exact (hI.iv1 (a := y) (j := 36) (lo := 0) (hi := 1) (n := 67) g_y rfl (by decide) rfl)) ((z_M164 y 9 36 g_y rfl).trans ((u2_st (a := y) (k := 36) e_M159 (u2_k (by decide))).trans (u2_st (a := y) (k := 36) e_M154 (u2_a (so_ne g_y g_a20 (by decide)))))) ((z_M164 y 9 37 g_y rfl).trans ((u2_st (a := y) (k := 37) e_M159 (u2_k (by decide))).trans (u2_st (a := y) (k := 37) e_M154 (u2_a (so_ne g_y g_a20 (by decide)))))))) (cwV 2 hts gX9_unit_X9_emit rfl rfl rfl (by decide +kernel) ⟨Nat.le_of_ble_eq_true rfl, Nat.le_of_ble_eq_true rfl⟩) (h_preV hZ0 hK hE hI g_y (by decide) rfl) rfl rfl hl.1 rfl (lv_room (Nat.le_of_ble_eq_true rfl)) dX9_unit_265 ⟨Nat.le_of_ble_eq_true rfl, Nat.le_of_ble_eq_true rfl⟩) (fun M175 N176 R177 H locs q178 z_M175 hI => ?_)
                                  obtain ⟨rfl, rfl, z179, z180⟩ := q178
                                  refine lv_iconst (v := 0) hx hb dX9_unit_268 (by decide) ?_
                                  have m181 : PI M175 y := (PI_ag hI.2.1 g_y z168 (hAd.ag z_M175 (by decide)))
                                  have m182 : PN M M175 y := (PN_ag hI.2.1 g_y (PN_tr m162 z169) (hAd.ag z_M175 (by decide)))
                                  have m183 : PC M M175 R y := (PC_tr (PC_ag hI.2.1 g_y (PC_ag hI.2.1 g_y (PC_ag hI.2.1 g_y PC_rf (hAd.put e_M154 g_a20 rfl)) (hAd.put e_M159 g_y rfl)) (hAd.ag z_M164 (by decide))) z180)
                                  exact h_iret hQ hx hb hr hlocks rfl hK hI ⟨rfl, (iv_w (lo' := 0) (hi' := 1) kc_0 (by decide) (by decide)), m181, m182, m183, (fun _ => ⟨fun _ => (EX1_let (q := r14) m0_EX1 ((z_M175 y 9 36 g_y rfl).trans ((z_M164 y 9 36 g_y rfl).trans ((u2_st (a := y) (k := 36) e_M159 (u2_k (by decide))).trans (u2_st (a := y) (k := 36) e_M154 (u2_a (so_ne g_y g_a20 (by decide))))))) ((z_M175 y 9 38 g_y rfl).trans ((z_M164 y 9 38 g_y rfl).trans ((u2_st (a := y) (k := 38) e_M159 (u2_k (by decide))).trans (u2_st (a := y) (k := 38) e_M154 (u2_a (so_ne g_y g_a20 (by decide))))))) ((z_M175 y 9 39 g_y rfl).trans ((z_M164 y 9 39 g_y rfl).trans ((u2_st (a := y) (k := 39) e_M159 (u2_k (by decide))).trans (u2_st (a := y) (k := 39) e_M154 (u2_a (so_ne g_y g_a20 (by decide))))))) ((hAg.row z_M175 (hI.2.1.r1 g_y 32 132 (by decide) rfl) (fun _ => rfl)).trans ((hAg.row z_M164 (hI.2.1.r1 g_y 32 132 (by decide) rfl) (fun _ => rfl)).trans ((u2_row e_M159 (so_ne (hI.2.1.r1 g_y 32 132 (by decide) rfl) g_y (by decide))).trans (u2_row e_M154 (so_ne (hI.2.1.r1 g_y 32 132 (by decide) rfl) g_a20 (by decide)))))) ((hAg.row z_M175 (hI.2.1.r1 g_y 33 133 (by decide) rfl) (fun _ => rfl)).trans ((hAg.row z_M164 (hI.2.1.r1 g_y 33 133 (by decide) rfl) (fun _ => rfl)).trans ((u2_row e_M159 (so_ne (hI.2.1.r1 g_y 33 133 (by decide) rfl) g_y (by decide))).trans (u2_row e_M154 (so_ne (hI.2.1.r1 g_y 33 133 (by decide) rfl) g_a20 (by decide)))))) (by rw [← ((((u2_wr e_M159)).trans (z_M164 y 9 40 g_y rfl).symm).trans (z_M175 y 9 40 g_y rfl).symm), ← (e_v121)]; exact (h_inc e_v158 i123 kc_1 (by decide) (by decide))) (by rw [z179.1, ((z_M164 y 9 37 g_y rfl).trans ((u2_st (a := y) (k := 37) e_M159 (u2_k (by decide))).trans (u2_st (a := y) (k := 37) e_M154 (u2_a (so_ne g_y g_a20 (by decide))))))]) (fun j => by rw [z179.2 j, ((hAg.row z_M164 (hI.2.1.r1 g_y 30 130 (by decide) rfl) (fun _ => rfl)).trans ((u2_row e_M159 (so_ne (hI.2.1.r1 g_y 30 130 (by decide) rfl) g_y (by decide))).trans (u2_row e_M154 (so_ne (hI.2.1.r1 g_y 30 130 (by decide) rfl) g_a20 (by decide))))), ((z_M164 y 9 37 g_y rfl).trans ((u2_st (a := y) (k := 37) e_M159 (u2_k (by decide))).trans (u2_st (a := y) (k := 37) e_M154 (u2_a (so_ne g_y g_a20 (by decide))))))]) i126.1 (by have h9 := i123; rw [← (e_v121)]; simp only [iv] at h9; omega)), fun h9 => absurd rfl h9⟩), (gm_lt hg9 m0_PI i39 (fun _ => by have h9 := nu_eq (M1 := M175) (M := M164) (y := y) (z_M175 y 9 3 g_y rfl) (z_M175 y 9 7 g_y rfl) (z_M175 y 9 8 g_y rfl); have h8 := ng9; have h7 := (by rw [((z_M175 y 9 39 g_y rfl).trans ((z_M164 y 9 39 g_y rfl).trans ((u2_st (a := y) (k := 39) e_M159 (u2_k (by decide))).trans (u2_st (a := y) (k := 39) e_M154 (u2_a (so_ne g_y g_a20 (by decide)))))))]; omega : (M175 y 39).toInt ≤ (M y 39).toInt + 1); omega))⟩ dX9_unit_269
                                · exact absurd c173 (iv_ne i126.1 kc_0 (by decide))
                              · exact iv_f (iv_neL (lo := 1) c172 i132 (by decide) (by decide)) (by decide)
                          · exact absurd c160 (iv_ne i126.1 kc_0 (by decide))
                        · exact absurd rfl c157
                      · exact absurd rfl c152
                    · obtain ⟨v184, e_v184⟩ : ∃ z : Int32, z = M y 4 := ⟨_, rfl⟩
                      have i_v184 : iv v184 0 5 := by rw [e_v184]; exact hI.iv1 (n := 67) g_y rfl (by decide) rfl
                      have i185 : iv v184 1 5 := iv_neL (fun h9 => z139 c140 (e_v184.symm.trans h9)) i_v184 (by decide) (by decide)
                      have i186 : iv r133 0 0 := iv_eq1 c140 i_r133 kc_0
                      refine lv_iconst (v := 1) hx hb dX9_unit_154 (by decide) ?_
                      exact h_iret hQ hx hb hr hlocks rfl hK hI ⟨rfl, (iv_w (lo' := 0) (hi' := 1) kc_1 (by decide) (by decide)), m0_PI, PN_rf, PC_rf, (fun h9 => gd_no (e_v184) i185 h9), (gm_lt hg9 m0_PI i39 (fun h9 => gd_no (e_v184) i185 h9))⟩ dX9_unit_155
                  · exact absurd ((e_v127).trans (z13 c131).1) (iv_ne i128 kc_5 (by decide))
            · have i187 : iv r14 0 0 := iv_eq1 c125 i_r14 kc_0
              refine lv_aload_n hx hb dX9_unit_109 rfl (lv_at hl 4 rfl) ?_
              refine h_geti (lo := (-2147483648)) (hi := 2147483647) hx hb hts iX9_unit_X9 hown hK hI g_y (by decide) rfl rfl 8 (by decide) rfl rfl (hts (.fieldLink RX9 206 "CatLeasesModel" "token" "I") (List.mem_of_getElem? (i := 7) rfl)) (fun _ h9 => h9) dX9_unit_110 (fun v188 e_v188 i_v188 => ?_)
              refine lv_iconst (v := 4) hx hb dX9_unit_113 (by decide) ?_
              refine lv_icmp_eq (tgt := 121) hx hb dX9_unit_114 (by decide) (fun c189 => ?_) (fun c189 => ?_)
              · have i190 : iv v188 4 4 := iv_eq1 c189 i_v188 kc_4
                refine lv_iload hx hb dX9_unit_121 (lv_at hl 0 rfl) ?_
                refine lv_if_ne (tgt := 143) hx hb dX9_unit_123 (by decide) (fun c191 => ?_) (fun c191 => ?_)
                · exact absurd rfl c191
                · refine lv_iload_n hx hb dX9_unit_126 rfl (lv_at hl 3 rfl) ?_
                  refine lv_if_ne (tgt := 134) hx hb dX9_unit_127 (by decide) (fun c192 => ?_) (fun c192 => ?_)
                  · exact absurd rfl c192
                  · refine lv_iload_n hx hb dX9_unit_130 rfl (lv_at hl 2 rfl) ?_
                    refine lv_if_eq (tgt := 147) hx hb dX9_unit_131 (by decide) (fun c193 => ?_) (fun c193 => ?_)
                    · have i194 : iv r7 0 0 := iv_eq1 c193 i_r7 kc_0
                      refine lv_aload_n hx hb dX9_unit_147 rfl (lv_at hl 4 rfl) ?_
                      refine h_goi hI (by decide) (va_runV (As := []) (rest := []) ⟨hx, hb, hml, hown, hts⟩ (h_isGood_X9 l D g σ Z hZ0 M N R y g_y) (cwV 0 hts gX9_unit_X9_isGood rfl rfl rfl (by decide +kernel) ⟨Nat.le_of_ble_eq_true rfl, Nat.le_of_ble_eq_true rfl⟩) (h_preV hZ0 hK hE hI g_y (by decide) rfl) rfl rfl hl.1 rfl (lv_room (Nat.le_of_ble_eq_true rfl)) dX9_unit_148 ⟨Nat.le_of_ble_eq_true rfl, Nat.le_of_ble_eq_true rfl⟩) (fun r195 M196 N197 R198 H locs q199 z_M196 hI => ?_)
                      obtain ⟨rfl, rfl, rfl, i_r195, z200, z201⟩ := q199
                      refine lv_if_ne (tgt := 156) hx hb dX9_unit_151 (by decide) (fun c202 => ?_) (fun c202 => ?_)
                      · obtain ⟨v203, e_v203⟩ : ∃ z : Int32, z = M y 4 := ⟨_, rfl⟩
                        have i_v203 : iv v203 0 5 := by rw [e_v203]; exact hI.iv1 (n := 67) g_y rfl (by decide) rfl
                        have i204 : iv v203 0 0 := by rw [e_v203, z200 c202]; exact kc_0
                        have i205 : iv r195 1 1 := iv_neL c202 i_r195 (by decide) (by decide)
                        obtain ⟨v206, e_v206⟩ : ∃ z : Int32, z = M y 37 := ⟨_, rfl⟩
                        have i_v206 : iv v206 0 1120 := by rw [e_v206]; exact hI.iv1 (n := 67) g_y rfl (by decide) rfl
                        obtain ⟨v207, e_v207⟩ : ∃ z : Int32, z = M y 38 := ⟨_, rfl⟩
                        refine lv_aload_n hx hb dX9_unit_156 rfl (lv_at hl 4 rfl) ?_
                        refine h_getr hx hb hts iX9_unit_X9 hown hK hI g_y (by decide) rfl rfl 14 (by decide) rfl 114 rfl (hts (.fieldLink RX9 30 "CatLeasesModel" "units" "[I") (List.mem_of_getElem? (i := 4) rfl)) (fun _ h9 => h9) dX9_unit_157 (fun a208 e_a208 g_a208 => ?_)
                        have q209 : a20 = a208 := (e_a20).trans e_a208.symm
                        subst q209
                        refine lv_aload_n hx hb dX9_unit_160 rfl (lv_at hl 4 rfl) ?_
                        refine h_geti (lo := 0) (hi := 1) hx hb hts iX9_unit_X9 hown hK hI g_y (by decide) rfl rfl 36 (by decide) rfl rfl (hts (.fieldLink RX9 259 "CatLeasesModel" "rb" "I") (List.mem_of_getElem? (i := 5) rfl)) (fun _ h9 => h9) dX9_unit_161 (fun v210 e_v210 i_v210 => ?_)
                        have q211 : v21 = v210 := (e_v21).trans e_v210.symm
                        subst q211
                        refine lv_dup2_11 hx hb dX9_unit_164 rfl rfl ?_
                        refine h_iald (j := v21.toNatClampNeg) (lo := (-2147483648)) (hi := 2147483647) hx hb hK hI g_a20 (by decide) rfl (iv_in (n := 2) i_v21 (by decide) (by decide)) rfl (iv_any _) dX9_unit_165 (fun v212 e_v212 i_v212 => ?_)
                        have q213 : v22 = v212 := (e_v22).trans e_v212.symm
                        subst q213
                        refine lv_iload_n hx hb dX9_unit_166 rfl (lv_at hl 3 rfl) ?_
                        refine lv_if_eq (tgt := 174) hx hb dX9_unit_167 (by decide) (fun c214 => ?_) (fun c214 => ?_)
                        · refine lv_iconst (v := 1) hx hb dX9_unit_174 (by decide) ?_
                          refine lv_iadd hx hb dX9_unit_175 ?_
                          refine h_nm (lo := (-2147483648)) (hi := 2147483647) (iv_any _) (fun v215 e_v215 i_v215 => ?_)
                          refine h_iast (j := v21.toNatClampNeg) hx hb hK hI g_a20 (by decide) rfl (iv_in (n := 2) i_v21 (by decide) (by decide)) rfl (iv_any _) rfl dX9_unit_176 (fun M216 H locs e_M216 hI => ?_)
                          refine lv_aload_n hx hb dX9_unit_177 rfl (lv_at hl 4 rfl) ?_
                          refine lv_dup hx hb dX9_unit_178 rfl ?_
                          refine h_geti (lo := 0) (hi := 30) hx hb hts iX9_unit_X9 hown hK hI g_y (by decide) rfl rfl 40 (by decide) rfl rfl (hts (.fieldLink RX9 321 "CatLeasesModel" "unitsInRule" "I") (List.mem_of_getElem? (i := 6) rfl)) (fun _ h9 => h9) dX9_unit_179 (fun v217 e_v217 i_v217 => ?_)
                          have q218 : v121 = v217 := ((e_v121).trans (u2_st (a := y) (k := 40) e_M216 (u2_a (so_ne g_y g_a20 (by decide)))).symm).trans e_v217.symm
                          subst q218
                          refine lv_iload_n hx hb dX9_unit_182 rfl (lv_at hl 3 rfl) ?_
                          refine lv_if_eq (tgt := 190) hx hb dX9_unit_183 (by decide) (fun c219 => ?_) (fun c219 => ?_)
                          · refine lv_iconst (v := 1) hx hb dX9_unit_190 (by decide) ?_
                            refine lv_iadd hx hb dX9_unit_191 ?_
                            refine h_nm (lo := 1) (hi := 30) (iv_add i123 kc_1 (by decide) (by decide) (by decide) (by decide)) (fun v220 e_v220 i_v220 => ?_)
                            refine h_puti hx hb hts iX9_unit_X9 tyX9 tyX9_ok nmX9 hown hK hI g_y (by decide) rfl rfl 40 (by decide) rfl (hts (.fieldLink RX9 321 "CatLeasesModel" "unitsInRule" "I") (List.mem_of_getElem? (i := 6) rfl)) (fun _ h9 => h9) rfl .int (by decide +kernel) rfl rfl (iv_w (lo' := 0) (hi' := 30) i_v220 (by decide) (by decide)) rfl dX9_unit_192 (fun M221 H locs e_M221 hI => ?_)
                            refine lv_iload hx hb dX9_unit_195 (lv_at hl 1 rfl) ?_
                            refine lv_if_ne (tgt := 207) hx hb dX9_unit_197 (by decide) (fun c222 => ?_) (fun c222 => ?_)
                            · exact iv_f (iv_neL (lo := 1) c222 i187 (by decide) (by decide)) (by decide)
                            · refine lv_aload_n hx hb dX9_unit_200 rfl (lv_at hl 4 rfl) ?_
                              refine h_geti (lo := (-2147483648)) (hi := 2147483647) hx hb hts iX9_unit_X9 hown hK hI g_y (by decide) rfl rfl 9 (by decide) rfl rfl (hts (.fieldLink RX9 224 "CatLeasesModel" "number" "I") (List.mem_of_getElem? (i := 9) rfl)) (fun _ h9 => h9) dX9_unit_201 (fun v223 e_v223 i_v223 => ?_)
                              refine lv_goto (tgt := 208) hx hb dX9_unit_204 (by decide) ?_
                              refine lv_istore (lv' := [(6, .int v223), (5, .int (0 : Int32)), (4, .int r14), (3, .int r7), (2, .int (0 : Int32)), (0, .ref y)]) hx hb dX9_unit_208 hl (by decide) rfl (fun ls hl => ?_)
                              refine lv_aload_n hx hb dX9_unit_210 rfl (lv_at hl 5 rfl) ?_
                              have m224 : PI M221 y := (PI_ag hI.2.1 g_y (PI_ag hI.2.1 g_y m0_PI (hAd.put e_M216 g_a20 rfl)) (hAd.put e_M221 g_y rfl))
                              have m225 : PN M M221 y := (PN_ag hI.2.1 g_y (PN_ag hI.2.1 g_y PN_rf (hAd.put e_M216 g_a20 rfl)) (hAd.put e_M221 g_y rfl))
                              refine h_gov hI (by decide) (va_runV (As := []) (rest := []) ⟨hx, hb, hml, hown, hts⟩ (h_goOn_X9 l D g σ Z hZ0 M221 N R y g_y m224) (cwV 0 hts gX9_unit_X9_goOn rfl rfl rfl (by decide +kernel) ⟨Nat.le_of_ble_eq_true rfl, Nat.le_of_ble_eq_true rfl⟩) (h_preV hZ0 hK hE hI g_y (by decide) rfl) rfl rfl hl.1 rfl (lv_room (Nat.le_of_ble_eq_true rfl)) dX9_unit_211 ⟨Nat.le_of_ble_eq_true rfl, Nat.le_of_ble_eq_true rfl⟩) (fun M227 N228 R229 H locs q230 z_M227 hI => ?_)
                              obtain ⟨rfl, z231, z232, z233⟩ := q230
                              have ng9 : nu M227 y < nu M y := Int.lt_of_lt_of_le (GO_lt z233 (z_M227 y 9 3 g_y rfl) m224 (fun h9 => iv_ne i190 kc_0 (by decide) ((((e_v188).trans (u2_st (a := y) (k := 8) e_M216 (u2_a (so_ne g_y g_a20 (by decide)))).symm).trans (u2_st (a := y) (k := 8) e_M221 (u2_k (by decide))).symm).trans h9))) m225.2.2
                              refine lv_iload_n hx hb dX9_unit_214 rfl (lv_at hl 4 rfl) ?_
                              refine lv_if_ne (tgt := 222) hx hb dX9_unit_215 (by decide) (fun c234 => ?_) (fun c234 => ?_)
                              · exact absurd rfl c234
                              · refine lv_iload_n hx hb dX9_unit_218 rfl (lv_at hl 3 rfl) ?_
                                refine lv_if_eq (tgt := 250) hx hb dX9_unit_219 (by decide) (fun c235 => ?_) (fun c235 => ?_)
                                · refine lv_aload_n hx hb dX9_unit_250 rfl (lv_at hl 5 rfl) ?_
                                  refine lv_iload hx hb dX9_unit_251 (lv_at hl 2 rfl) ?_
                                  refine lv_if_ne (tgt := 261) hx hb dX9_unit_253 (by decide) (fun c236 => ?_) (fun c236 => ?_)
                                  · exact iv_f (iv_neL (lo := 1) c236 i187 (by decide) (by decide)) (by decide)
                                  · refine lv_bipush (v := 110) hx hb dX9_unit_256 (by decide) ?_
                                    refine lv_goto (tgt := 263) hx hb dX9_unit_258 (by decide) ?_
                                    refine lv_iload hx hb dX9_unit_263 (lv_at hl 0 rfl) ?_
                                    refine h_gov hI (by decide) (va_runV (As := [.int (110 : Int32), .int v223]) (rest := []) ⟨hx, hb, hml, hown, hts⟩ (h_emit_X9 l D g σ Z hZ0 M227 N228 R y g_y (110 : Int32) v223 (EX1_c m0_EX1 (by rw [← ((z_M227 y 9 36 g_y rfl).trans ((u2_st (a := y) (k := 36) e_M221 (u2_k (by decide))).trans (u2_st (a := y) (k := 36) e_M216 (u2_a (so_ne g_y g_a20 (by decide))))))]; exact (hI.iv1 (a := y) (j := 36) (lo := 0) (hi := 1) (n := 67) g_y rfl (by decide) rfl)) ((z_M227 y 9 36 g_y rfl).trans ((u2_st (a := y) (k := 36) e_M221 (u2_k (by decide))).trans (u2_st (a := y) (k := 36) e_M216 (u2_a (so_ne g_y g_a20 (by decide)))))) ((z_M227 y 9 37 g_y rfl).trans ((u2_st (a := y) (k := 37) e_M221 (u2_k (by decide))).trans (u2_st (a := y) (k := 37) e_M216 (u2_a (so_ne g_y g_a20 (by decide)))))))) (cwV 2 hts gX9_unit_X9_emit rfl rfl rfl (by decide +kernel) ⟨Nat.le_of_ble_eq_true rfl, Nat.le_of_ble_eq_true rfl⟩) (h_preV hZ0 hK hE hI g_y (by decide) rfl) rfl rfl hl.1 rfl (lv_room (Nat.le_of_ble_eq_true rfl)) dX9_unit_265 ⟨Nat.le_of_ble_eq_true rfl, Nat.le_of_ble_eq_true rfl⟩) (fun M238 N239 R240 H locs q241 z_M238 hI => ?_)
                                    obtain ⟨rfl, rfl, z242, z243⟩ := q241
                                    refine lv_iconst (v := 0) hx hb dX9_unit_268 (by decide) ?_
                                    have m244 : PI M238 y := (PI_ag hI.2.1 g_y z231 (hAd.ag z_M238 (by decide)))
                                    have m245 : PN M M238 y := (PN_ag hI.2.1 g_y (PN_tr m225 z232) (hAd.ag z_M238 (by decide)))
                                    have m246 : PC M M238 R y := (PC_tr (PC_ag hI.2.1 g_y (PC_ag hI.2.1 g_y (PC_ag hI.2.1 g_y PC_rf (hAd.put e_M216 g_a20 rfl)) (hAd.put e_M221 g_y rfl)) (hAd.ag z_M227 (by decide))) z243)
                                    exact h_iret hQ hx hb hr hlocks rfl hK hI ⟨rfl, (iv_w (lo' := 0) (hi' := 1) kc_0 (by decide) (by decide)), m244, m245, m246, (fun _ => ⟨fun _ => (EX1_let (q := (110 : Int32)) m0_EX1 ((z_M238 y 9 36 g_y rfl).trans ((z_M227 y 9 36 g_y rfl).trans ((u2_st (a := y) (k := 36) e_M221 (u2_k (by decide))).trans (u2_st (a := y) (k := 36) e_M216 (u2_a (so_ne g_y g_a20 (by decide))))))) ((z_M238 y 9 38 g_y rfl).trans ((z_M227 y 9 38 g_y rfl).trans ((u2_st (a := y) (k := 38) e_M221 (u2_k (by decide))).trans (u2_st (a := y) (k := 38) e_M216 (u2_a (so_ne g_y g_a20 (by decide))))))) ((z_M238 y 9 39 g_y rfl).trans ((z_M227 y 9 39 g_y rfl).trans ((u2_st (a := y) (k := 39) e_M221 (u2_k (by decide))).trans (u2_st (a := y) (k := 39) e_M216 (u2_a (so_ne g_y g_a20 (by decide))))))) ((hAg.row z_M238 (hI.2.1.r1 g_y 32 132 (by decide) rfl) (fun _ => rfl)).trans ((hAg.row z_M227 (hI.2.1.r1 g_y 32 132 (by decide) rfl) (fun _ => rfl)).trans ((u2_row e_M221 (so_ne (hI.2.1.r1 g_y 32 132 (by decide) rfl) g_y (by decide))).trans (u2_row e_M216 (so_ne (hI.2.1.r1 g_y 32 132 (by decide) rfl) g_a20 (by decide)))))) ((hAg.row z_M238 (hI.2.1.r1 g_y 33 133 (by decide) rfl) (fun _ => rfl)).trans ((hAg.row z_M227 (hI.2.1.r1 g_y 33 133 (by decide) rfl) (fun _ => rfl)).trans ((u2_row e_M221 (so_ne (hI.2.1.r1 g_y 33 133 (by decide) rfl) g_y (by decide))).trans (u2_row e_M216 (so_ne (hI.2.1.r1 g_y 33 133 (by decide) rfl) g_a20 (by decide)))))) (by rw [← ((((u2_wr e_M221)).trans (z_M227 y 9 40 g_y rfl).symm).trans (z_M238 y 9 40 g_y rfl).symm), ← (e_v121)]; exact (h_inc e_v220 i123 kc_1 (by decide) (by decide))) (by rw [z242.1, ((z_M227 y 9 37 g_y rfl).trans ((u2_st (a := y) (k := 37) e_M221 (u2_k (by decide))).trans (u2_st (a := y) (k := 37) e_M216 (u2_a (so_ne g_y g_a20 (by decide))))))]) (fun j => by rw [z242.2 j, ((hAg.row z_M227 (hI.2.1.r1 g_y 30 130 (by decide) rfl) (fun _ => rfl)).trans ((u2_row e_M221 (so_ne (hI.2.1.r1 g_y 30 130 (by decide) rfl) g_y (by decide))).trans (u2_row e_M216 (so_ne (hI.2.1.r1 g_y 30 130 (by decide) rfl) g_a20 (by decide))))), ((z_M227 y 9 37 g_y rfl).trans ((u2_st (a := y) (k := 37) e_M221 (u2_k (by decide))).trans (u2_st (a := y) (k := 37) e_M216 (u2_a (so_ne g_y g_a20 (by decide))))))]) (iv_w (lo' := 97) (hi' := 122) kc_110 (by decide) (by decide)) (by have h9 := i123; rw [← (e_v121)]; simp only [iv] at h9; omega)), fun h9 => absurd rfl h9⟩), (gm_lt hg9 m0_PI i39 (fun _ => by have h9 := nu_eq (M1 := M238) (M := M227) (y := y) (z_M238 y 9 3 g_y rfl) (z_M238 y 9 7 g_y rfl) (z_M238 y 9 8 g_y rfl); have h8 := ng9; have h7 := (by rw [((z_M238 y 9 39 g_y rfl).trans ((z_M227 y 9 39 g_y rfl).trans ((u2_st (a := y) (k := 39) e_M221 (u2_k (by decide))).trans (u2_st (a := y) (k := 39) e_M216 (u2_a (so_ne g_y g_a20 (by decide)))))))]; omega : (M238 y 39).toInt ≤ (M y 39).toInt + 1); omega))⟩ dX9_unit_269
                                · exact iv_f (iv_neL (lo := 1) c235 i194 (by decide) (by decide)) (by decide)
                          · exact absurd rfl c219
                        · exact absurd rfl c214
                      · obtain ⟨v247, e_v247⟩ : ∃ z : Int32, z = M y 4 := ⟨_, rfl⟩
                        have i_v247 : iv v247 0 5 := by rw [e_v247]; exact hI.iv1 (n := 67) g_y rfl (by decide) rfl
                        have i248 : iv v247 1 5 := iv_neL (fun h9 => z201 c202 (e_v247.symm.trans h9)) i_v247 (by decide) (by decide)
                        have i249 : iv r195 0 0 := iv_eq1 c202 i_r195 kc_0
                        refine lv_iconst (v := 1) hx hb dX9_unit_154 (by decide) ?_
                        exact h_iret hQ hx hb hr hlocks rfl hK hI ⟨rfl, (iv_w (lo' := 0) (hi' := 1) kc_1 (by decide) (by decide)), m0_PI, PN_rf, PC_rf, (fun h9 => gd_no (e_v247) i248 h9), (gm_lt hg9 m0_PI i39 (fun h9 => gd_no (e_v247) i248 h9))⟩ dX9_unit_155
                    · exact absurd ((e_v188).trans (z13 c193).1) (iv_ne i190 kc_5 (by decide))
              · refine lv_iload_n hx hb dX9_unit_117 rfl (lv_at hl 2 rfl) ?_
                refine lv_if_eq (tgt := 143) hx hb dX9_unit_118 (by decide) (fun c250 => ?_) (fun c250 => ?_)
                · have i251 : iv r7 0 0 := iv_eq1 c250 i_r7 kc_0
                  refine lv_aload_n hx hb dX9_unit_143 rfl (lv_at hl 4 rfl) ?_
                  refine h_gov hI (by decide) (va_runV (As := []) (rest := []) ⟨hx, hb, hml, hown, hts⟩ (h_misplaced_X9 l D g σ Z hZ0 M N R y g_y m0_PI) (cwV 0 hts gX9_unit_X9_misplaced rfl rfl rfl (by decide +kernel) ⟨Nat.le_of_ble_eq_true rfl, Nat.le_of_ble_eq_true rfl⟩) (h_preV hZ0 hK hE hI g_y (by decide) rfl) rfl rfl hl.1 rfl (lv_room (Nat.le_of_ble_eq_true rfl)) dX9_unit_144 ⟨Nat.le_of_ble_eq_true rfl, Nat.le_of_ble_eq_true rfl⟩) (fun M253 N254 R255 H locs q256 z_M253 hI => ?_)
                  obtain ⟨rfl, rfl, m257, m258, z259⟩ := q256
                  obtain ⟨v260, e_v260⟩ : ∃ z : Int32, z = M253 y 4 := ⟨_, rfl⟩
                  have i_v260 : iv v260 1 5 := by rw [e_v260]; exact z259
                  refine lv_aload_n hx hb dX9_unit_147 rfl (lv_at hl 4 rfl) ?_
                  refine h_goi hI (by decide) (va_runV (As := []) (rest := []) ⟨hx, hb, hml, hown, hts⟩ (h_isGood_X9 l D g σ Z hZ0 M253 N R y g_y) (cwV 0 hts gX9_unit_X9_isGood rfl rfl rfl (by decide +kernel) ⟨Nat.le_of_ble_eq_true rfl, Nat.le_of_ble_eq_true rfl⟩) (h_preV hZ0 hK hE hI g_y (by decide) rfl) rfl rfl hl.1 rfl (lv_room (Nat.le_of_ble_eq_true rfl)) dX9_unit_148 ⟨Nat.le_of_ble_eq_true rfl, Nat.le_of_ble_eq_true rfl⟩) (fun r261 M262 N263 R264 H locs q265 z_M262 hI => ?_)
                  obtain ⟨rfl, rfl, rfl, i_r261, z266, z267⟩ := q265
                  refine lv_if_ne (tgt := 156) hx hb dX9_unit_151 (by decide) (fun c268 => ?_) (fun c268 => ?_)
                  · exact absurd ((e_v260).trans (z266 c268)) (iv_ne i_v260 kc_0 (by decide))
                  · have i269 : iv r261 0 0 := iv_eq1 c268 i_r261 kc_0
                    refine lv_iconst (v := 1) hx hb dX9_unit_154 (by decide) ?_
                    have m270 : PN M M253 y := (PN_tr PN_rf m258)
                    have m271 : PC M M253 R y := (PC_ag hI.2.1 g_y PC_rf (hAd.ag z_M253 (by decide)))
                    exact h_iret hQ hx hb hr hlocks rfl hK hI ⟨rfl, (iv_w (lo' := 0) (hi' := 1) kc_1 (by decide) (by decide)), m257, m270, m271, (fun h9 => gd_no (e_v260) i_v260 h9), (gm_lt hg9 m0_PI i39 (fun h9 => gd_no (e_v260) i_v260 h9))⟩ dX9_unit_155
                · have i272 : iv v188 5 5 := by rw [(e_v188), (z13 c250).1]; exact kc_5
                  have i273 : iv r7 1 1 := iv_neL c250 i_r7 (by decide) (by decide)
                  refine lv_iload hx hb dX9_unit_121 (lv_at hl 0 rfl) ?_
                  refine lv_if_ne (tgt := 143) hx hb dX9_unit_123 (by decide) (fun c274 => ?_) (fun c274 => ?_)
                  · exact absurd rfl c274
                  · refine lv_iload_n hx hb dX9_unit_126 rfl (lv_at hl 3 rfl) ?_
                    refine lv_if_ne (tgt := 134) hx hb dX9_unit_127 (by decide) (fun c275 => ?_) (fun c275 => ?_)
                    · exact absurd rfl c275
                    · refine lv_iload_n hx hb dX9_unit_130 rfl (lv_at hl 2 rfl) ?_
                      refine lv_if_eq (tgt := 147) hx hb dX9_unit_131 (by decide) (fun c276 => ?_) (fun c276 => ?_)
                      · exact absurd c276 (iv_ne i273 kc_0 (by decide))
                      · have i277 : iv v188 5 5 := by rw [(e_v188), (z13 c276).1]; exact kc_5
                        refine lv_aload_n hx hb dX9_unit_134 rfl (lv_at hl 4 rfl) ?_
                        refine h_geti (lo := (-2147483648)) (hi := 2147483647) hx hb hts iX9_unit_X9 hown hK hI g_y (by decide) rfl rfl 38 (by decide) rfl rfl (hts (.fieldLink RX9 330 "CatLeasesModel" "within" "I") (List.mem_of_getElem? (i := 8) rfl)) (fun _ h9 => h9) dX9_unit_135 (fun v278 e_v278 i_v278 => ?_)
                        have i279 : iv v278 0 7 := EX1_w m0_EX1 e_v278
                        refine lv_bipush (v := 7) hx hb dX9_unit_138 (by decide) ?_
                        refine lv_icmp_ne (tgt := 147) hx hb dX9_unit_140 (by decide) (fun c280 => ?_) (fun c280 => ?_)
                        · have i281 : iv v278 0 6 := iv_neH c280 i279 (by decide) (by decide)
                          refine lv_aload_n hx hb dX9_unit_147 rfl (lv_at hl 4 rfl) ?_
                          refine h_goi hI (by decide) (va_runV (As := []) (rest := []) ⟨hx, hb, hml, hown, hts⟩ (h_isGood_X9 l D g σ Z hZ0 M N R y g_y) (cwV 0 hts gX9_unit_X9_isGood rfl rfl rfl (by decide +kernel) ⟨Nat.le_of_ble_eq_true rfl, Nat.le_of_ble_eq_true rfl⟩) (h_preV hZ0 hK hE hI g_y (by decide) rfl) rfl rfl hl.1 rfl (lv_room (Nat.le_of_ble_eq_true rfl)) dX9_unit_148 ⟨Nat.le_of_ble_eq_true rfl, Nat.le_of_ble_eq_true rfl⟩) (fun r282 M283 N284 R285 H locs q286 z_M283 hI => ?_)
                          obtain ⟨rfl, rfl, rfl, i_r282, z287, z288⟩ := q286
                          refine lv_if_ne (tgt := 156) hx hb dX9_unit_151 (by decide) (fun c289 => ?_) (fun c289 => ?_)
                          · obtain ⟨v290, e_v290⟩ : ∃ z : Int32, z = M y 4 := ⟨_, rfl⟩
                            have i_v290 : iv v290 0 5 := by rw [e_v290]; exact hI.iv1 (n := 67) g_y rfl (by decide) rfl
                            have i291 : iv v290 0 0 := by rw [e_v290, z287 c289]; exact kc_0
                            have i292 : iv r282 1 1 := iv_neL c289 i_r282 (by decide) (by decide)
                            obtain ⟨v293, e_v293⟩ : ∃ z : Int32, z = M y 37 := ⟨_, rfl⟩
                            have i_v293 : iv v293 0 1120 := by rw [e_v293]; exact hI.iv1 (n := 67) g_y rfl (by decide) rfl
                            refine lv_aload_n hx hb dX9_unit_156 rfl (lv_at hl 4 rfl) ?_
                            refine h_getr hx hb hts iX9_unit_X9 hown hK hI g_y (by decide) rfl rfl 14 (by decide) rfl 114 rfl (hts (.fieldLink RX9 30 "CatLeasesModel" "units" "[I") (List.mem_of_getElem? (i := 4) rfl)) (fun _ h9 => h9) dX9_unit_157 (fun a294 e_a294 g_a294 => ?_)
                            have q295 : a20 = a294 := (e_a20).trans e_a294.symm
                            subst q295
                            refine lv_aload_n hx hb dX9_unit_160 rfl (lv_at hl 4 rfl) ?_
                            refine h_geti (lo := 0) (hi := 1) hx hb hts iX9_unit_X9 hown hK hI g_y (by decide) rfl rfl 36 (by decide) rfl rfl (hts (.fieldLink RX9 259 "CatLeasesModel" "rb" "I") (List.mem_of_getElem? (i := 5) rfl)) (fun _ h9 => h9) dX9_unit_161 (fun v296 e_v296 i_v296 => ?_)
                            have q297 : v21 = v296 := (e_v21).trans e_v296.symm
                            subst q297
                            refine lv_dup2_11 hx hb dX9_unit_164 rfl rfl ?_
                            refine h_iald (j := v21.toNatClampNeg) (lo := (-2147483648)) (hi := 2147483647) hx hb hK hI g_a20 (by decide) rfl (iv_in (n := 2) i_v21 (by decide) (by decide)) rfl (iv_any _) dX9_unit_165 (fun v298 e_v298 i_v298 => ?_)
                            have q299 : v22 = v298 := (e_v22).trans e_v298.symm
                            subst q299
                            refine lv_iload_n hx hb dX9_unit_166 rfl (lv_at hl 3 rfl) ?_
                            refine lv_if_eq (tgt := 174) hx hb dX9_unit_167 (by decide) (fun c300 => ?_) (fun c300 => ?_)
                            · refine lv_iconst (v := 1) hx hb dX9_unit_174 (by decide) ?_
                              refine lv_iadd hx hb dX9_unit_175 ?_
                              refine h_nm (lo := (-2147483648)) (hi := 2147483647) (iv_any _) (fun v301 e_v301 i_v301 => ?_)
                              refine h_iast (j := v21.toNatClampNeg) hx hb hK hI g_a20 (by decide) rfl (iv_in (n := 2) i_v21 (by decide) (by decide)) rfl (iv_any _) rfl dX9_unit_176 (fun M302 H locs e_M302 hI => ?_)
                              refine lv_aload_n hx hb dX9_unit_177 rfl (lv_at hl 4 rfl) ?_
                              refine lv_dup hx hb dX9_unit_178 rfl ?_
                              refine h_geti (lo := 0) (hi := 30) hx hb hts iX9_unit_X9 hown hK hI g_y (by decide) rfl rfl 40 (by decide) rfl rfl (hts (.fieldLink RX9 321 "CatLeasesModel" "unitsInRule" "I") (List.mem_of_getElem? (i := 6) rfl)) (fun _ h9 => h9) dX9_unit_179 (fun v303 e_v303 i_v303 => ?_)
                              have q304 : v121 = v303 := ((e_v121).trans (u2_st (a := y) (k := 40) e_M302 (u2_a (so_ne g_y g_a20 (by decide)))).symm).trans e_v303.symm
                              subst q304
                              refine lv_iload_n hx hb dX9_unit_182 rfl (lv_at hl 3 rfl) ?_
                              refine lv_if_eq (tgt := 190) hx hb dX9_unit_183 (by decide) (fun c305 => ?_) (fun c305 => ?_)
                              · refine lv_iconst (v := 1) hx hb dX9_unit_190 (by decide) ?_
                                refine lv_iadd hx hb dX9_unit_191 ?_
                                refine h_nm (lo := 1) (hi := 30) (iv_add i123 kc_1 (by decide) (by decide) (by decide) (by decide)) (fun v306 e_v306 i_v306 => ?_)
                                refine h_puti hx hb hts iX9_unit_X9 tyX9 tyX9_ok nmX9 hown hK hI g_y (by decide) rfl rfl 40 (by decide) rfl (hts (.fieldLink RX9 321 "CatLeasesModel" "unitsInRule" "I") (List.mem_of_getElem? (i := 6) rfl)) (fun _ h9 => h9) rfl .int (by decide +kernel) rfl rfl (iv_w (lo' := 0) (hi' := 30) i_v306 (by decide) (by decide)) rfl dX9_unit_192 (fun M307 H locs e_M307 hI => ?_)
                                refine lv_iload hx hb dX9_unit_195 (lv_at hl 1 rfl) ?_
                                refine lv_if_ne (tgt := 207) hx hb dX9_unit_197 (by decide) (fun c308 => ?_) (fun c308 => ?_)
                                · exact iv_f (iv_neL (lo := 1) c308 i187 (by decide) (by decide)) (by decide)
                                · refine lv_aload_n hx hb dX9_unit_200 rfl (lv_at hl 4 rfl) ?_
                                  refine h_geti (lo := (-2147483648)) (hi := 2147483647) hx hb hts iX9_unit_X9 hown hK hI g_y (by decide) rfl rfl 9 (by decide) rfl rfl (hts (.fieldLink RX9 224 "CatLeasesModel" "number" "I") (List.mem_of_getElem? (i := 9) rfl)) (fun _ h9 => h9) dX9_unit_201 (fun v309 e_v309 i_v309 => ?_)
                                  refine lv_goto (tgt := 208) hx hb dX9_unit_204 (by decide) ?_
                                  refine lv_istore (lv' := [(6, .int v309), (5, .int (0 : Int32)), (4, .int r14), (3, .int r7), (2, .int (0 : Int32)), (0, .ref y)]) hx hb dX9_unit_208 hl (by decide) rfl (fun ls hl => ?_)
                                  refine lv_aload_n hx hb dX9_unit_210 rfl (lv_at hl 5 rfl) ?_
                                  have m310 : PI M307 y := (PI_ag hI.2.1 g_y (PI_ag hI.2.1 g_y m0_PI (hAd.put e_M302 g_a20 rfl)) (hAd.put e_M307 g_y rfl))
                                  have m311 : PN M M307 y := (PN_ag hI.2.1 g_y (PN_ag hI.2.1 g_y PN_rf (hAd.put e_M302 g_a20 rfl)) (hAd.put e_M307 g_y rfl))
                                  refine h_gov hI (by decide) (va_runV (As := []) (rest := []) ⟨hx, hb, hml, hown, hts⟩ (h_goOn_X9 l D g σ Z hZ0 M307 N R y g_y m310) (cwV 0 hts gX9_unit_X9_goOn rfl rfl rfl (by decide +kernel) ⟨Nat.le_of_ble_eq_true rfl, Nat.le_of_ble_eq_true rfl⟩) (h_preV hZ0 hK hE hI g_y (by decide) rfl) rfl rfl hl.1 rfl (lv_room (Nat.le_of_ble_eq_true rfl)) dX9_unit_211 ⟨Nat.le_of_ble_eq_true rfl, Nat.le_of_ble_eq_true rfl⟩) (fun M313 N314 R315 H locs q316 z_M313 hI => ?_)
                                  obtain ⟨rfl, z317, z318, z319⟩ := q316
                                  have ng9 : nu M313 y < nu M y := Int.lt_of_lt_of_le (GO_lt z319 (z_M313 y 9 3 g_y rfl) m310 (fun h9 => iv_ne i277 kc_0 (by decide) ((((e_v188).trans (u2_st (a := y) (k := 8) e_M302 (u2_a (so_ne g_y g_a20 (by decide)))).symm).trans (u2_st (a := y) (k := 8) e_M307 (u2_k (by decide))).symm).trans h9))) m311.2.2
                                  refine lv_iload_n hx hb dX9_unit_214 rfl (lv_at hl 4 rfl) ?_
                                  refine lv_if_ne (tgt := 222) hx hb dX9_unit_215 (by decide) (fun c320 => ?_) (fun c320 => ?_)
                                  · exact absurd rfl c320
                                  · refine lv_iload_n hx hb dX9_unit_218 rfl (lv_at hl 3 rfl) ?_
                                    refine lv_if_eq (tgt := 250) hx hb dX9_unit_219 (by decide) (fun c321 => ?_) (fun c321 => ?_)
                                    · exact absurd c321 (iv_ne i273 kc_0 (by decide))
                                    · refine lv_aload_n hx hb dX9_unit_222 rfl (lv_at hl 5 rfl) ?_
                                      refine lv_iload_n hx hb dX9_unit_223 rfl (lv_at hl 4 rfl) ?_
                                      refine lv_if_eq (tgt := 231) hx hb dX9_unit_224 (by decide) (fun c322 => ?_) (fun c322 => ?_)
                                      · refine lv_bipush (v := 7) hx hb dX9_unit_231 (by decide) ?_
                                        refine lv_bipush (v := 126) hx hb dX9_unit_233 (by decide) ?_
                                        refine h_gov hI (by decide) (va_runV (As := [.int (7 : Int32), .int (126 : Int32)]) (rest := []) ⟨hx, hb, hml, hown, hts⟩ (h_pushE_X9 l D g σ Z hZ0 M313 N314 R y g_y (7 : Int32) (126 : Int32) (by rw [((z_M313 y 9 39 g_y rfl).trans ((u2_st (a := y) (k := 39) e_M307 (u2_k (by decide))).trans (u2_st (a := y) (k := 39) e_M302 (u2_a (so_ne g_y g_a20 (by decide))))))]; exact iv_w (EX1_p m0_EX1 rfl) (by decide) (by decide))) (cwV 2 hts gX9_unit_X9_pushE rfl rfl rfl (by decide +kernel) ⟨Nat.le_of_ble_eq_true rfl, Nat.le_of_ble_eq_true rfl⟩) (h_preV hZ0 hK hE hI g_y (by decide) rfl) rfl rfl hl.1 rfl (lv_room (Nat.le_of_ble_eq_true rfl)) dX9_unit_235 ⟨Nat.le_of_ble_eq_true rfl, Nat.le_of_ble_eq_true rfl⟩) (fun M324 N325 R326 H locs q327 z_M324 hI => ?_)
                                        obtain ⟨rfl, rfl, z328⟩ := q327
                                        refine lv_aload_n hx hb dX9_unit_238 rfl (lv_at hl 5 rfl) ?_
                                        refine lv_dup hx hb dX9_unit_239 rfl ?_
                                        refine h_geti (lo := (-2147483648)) (hi := 2147483647) hx hb hts iX9_unit_X9 hown hK hI g_y (by decide) rfl rfl 38 (by decide) rfl rfl (hts (.fieldLink RX9 330 "CatLeasesModel" "within" "I") (List.mem_of_getElem? (i := 8) rfl)) (fun _ h9 => h9) dX9_unit_240 (fun v329 e_v329 i_v329 => ?_)
                                        have q330 : v278 = v329 := (((((e_v278).trans (u2_st (a := y) (k := 38) e_M302 (u2_a (so_ne g_y g_a20 (by decide)))).symm).trans (u2_st (a := y) (k := 38) e_M307 (u2_k (by decide))).symm).trans (z_M313 y 9 38 g_y rfl).symm).trans (z_M324 y 9 38 g_y rfl).symm).trans e_v329.symm
                                        subst q330
                                        refine lv_iconst (v := 1) hx hb dX9_unit_243 (by decide) ?_
                                        refine lv_iadd hx hb dX9_unit_244 ?_
                                        refine h_nm (lo := 1) (hi := 7) (iv_add i281 kc_1 (by decide) (by decide) (by decide) (by decide)) (fun v331 e_v331 i_v331 => ?_)
                                        refine h_puti hx hb hts iX9_unit_X9 tyX9 tyX9_ok nmX9 hown hK hI g_y (by decide) rfl rfl 38 (by decide) rfl (hts (.fieldLink RX9 330 "CatLeasesModel" "within" "I") (List.mem_of_getElem? (i := 8) rfl)) (fun _ h9 => h9) rfl .int (by decide +kernel) rfl rfl (iv_w (lo' := (-2147483648)) (hi' := 2147483647) i_v331 (by decide) (by decide)) rfl dX9_unit_245 (fun M332 H locs e_M332 hI => ?_)
                                        refine lv_iconst (v := 1) hx hb dX9_unit_248 (by decide) ?_
                                        have m333 : PI M332 y := (PI_ag hI.2.1 g_y (PI_ag hI.2.1 g_y z317 (hAd.ag z_M324 (by decide))) (hAd.put e_M332 g_y rfl))
                                        have m334 : PN M M332 y := (PN_ag hI.2.1 g_y (PN_ag hI.2.1 g_y (PN_tr m311 z318) (hAd.ag z_M324 (by decide))) (hAd.put e_M332 g_y rfl))
                                        have m335 : PC M M332 R y := (PC_ag hI.2.1 g_y (PC_ag hI.2.1 g_y (PC_ag hI.2.1 g_y (PC_ag hI.2.1 g_y (PC_ag hI.2.1 g_y PC_rf (hAd.put e_M302 g_a20 rfl)) (hAd.put e_M307 g_y rfl)) (hAd.ag z_M313 (by decide))) (hAd.ag z_M324 (by decide))) (hAd.put e_M332 g_y rfl))
                                        exact h_iret hQ hx hb hr hlocks rfl hK hI ⟨rfl, (iv_w (lo' := 0) (hi' := 1) kc_1 (by decide) (by decide)), m333, m334, m335, (fun _ => ⟨fun h9 => absurd h9 (by decide), fun _ => (EX1_push (q := (7 : Int32)) (t := 1) m0_EX1 ((u2_st (a := y) (k := 36) e_M332 (u2_k (by decide))).trans ((z_M324 y 9 36 g_y rfl).trans ((z_M313 y 9 36 g_y rfl).trans ((u2_st (a := y) (k := 36) e_M307 (u2_k (by decide))).trans (u2_st (a := y) (k := 36) e_M302 (u2_a (so_ne g_y g_a20 (by decide)))))))) ((u2_st (a := y) (k := 37) e_M332 (u2_k (by decide))).trans ((z_M324 y 9 37 g_y rfl).trans ((z_M313 y 9 37 g_y rfl).trans ((u2_st (a := y) (k := 37) e_M307 (u2_k (by decide))).trans (u2_st (a := y) (k := 37) e_M302 (u2_a (so_ne g_y g_a20 (by decide)))))))) ((u2_row e_M332 (so_ne (hI.2.1.r1 g_y 30 130 (by decide) rfl) g_y (by decide))).trans ((hAg.row z_M324 (hI.2.1.r1 g_y 30 130 (by decide) rfl) (fun _ => rfl)).trans ((hAg.row z_M313 (hI.2.1.r1 g_y 30 130 (by decide) rfl) (fun _ => rfl)).trans ((u2_row e_M307 (so_ne (hI.2.1.r1 g_y 30 130 (by decide) rfl) g_y (by decide))).trans (u2_row e_M302 (so_ne (hI.2.1.r1 g_y 30 130 (by decide) rfl) g_a20 (by decide))))))) (by rw [← ((u2_wr e_M332)), ← (e_v278)]; exact (h_inc e_v331 i281 kc_1 (by decide) (by decide))) (by rw [← (((((u2_wr e_M307)).trans (z_M313 y 9 40 g_y rfl).symm).trans (z_M324 y 9 40 g_y rfl).symm).trans (u2_st (a := y) (k := 40) e_M332 (u2_k (by decide))).symm), ← (e_v121)]; exact (h_inc e_v306 i123 kc_1 (by decide) (by decide))) (by rw [(u2_st (a := y) (k := 39) e_M332 (u2_k (by decide))), z328.1, ((z_M313 y 9 39 g_y rfl).trans ((u2_st (a := y) (k := 39) e_M307 (u2_k (by decide))).trans (u2_st (a := y) (k := 39) e_M302 (u2_a (so_ne g_y g_a20 (by decide))))))]) (fun j => by rw [(u2_row e_M332 (so_ne (hI.2.1.r1 g_y 32 132 (by decide) rfl) g_y (by decide))), z328.2.1 j, ((hAg.row z_M313 (hI.2.1.r1 g_y 32 132 (by decide) rfl) (fun _ => rfl)).trans ((u2_row e_M307 (so_ne (hI.2.1.r1 g_y 32 132 (by decide) rfl) g_y (by decide))).trans (u2_row e_M302 (so_ne (hI.2.1.r1 g_y 32 132 (by decide) rfl) g_a20 (by decide))))), ((z_M313 y 9 39 g_y rfl).trans ((u2_st (a := y) (k := 39) e_M307 (u2_k (by decide))).trans (u2_st (a := y) (k := 39) e_M302 (u2_a (so_ne g_y g_a20 (by decide))))))]) (fun j => by rw [(u2_row e_M332 (so_ne (hI.2.1.r1 g_y 33 133 (by decide) rfl) g_y (by decide))), z328.2.2 j, ((hAg.row z_M313 (hI.2.1.r1 g_y 33 133 (by decide) rfl) (fun _ => rfl)).trans ((u2_row e_M307 (so_ne (hI.2.1.r1 g_y 33 133 (by decide) rfl) g_y (by decide))).trans (u2_row e_M302 (so_ne (hI.2.1.r1 g_y 33 133 (by decide) rfl) g_a20 (by decide))))), ((z_M313 y 9 39 g_y rfl).trans ((u2_st (a := y) (k := 39) e_M307 (u2_k (by decide))).trans (u2_st (a := y) (k := 39) e_M302 (u2_a (so_ne g_y g_a20 (by decide))))))]) (Or.inr ⟨rfl, rfl⟩) (by have h9 := i281; rw [← (e_v278)]; simp only [iv] at h9; omega) (by have h9 := i123; rw [← (e_v121)]; simp only [iv] at h9; omega))⟩), (gm_lt hg9 m0_PI i39 (fun _ => by have h9 := nu_eq (M1 := M332) (M := M313) (y := y) ((u2_st (a := y) (k := 3) e_M332 (u2_k (by decide))).trans (z_M324 y 9 3 g_y rfl)) ((u2_st (a := y) (k := 7) e_M332 (u2_k (by decide))).trans (z_M324 y 9 7 g_y rfl)) ((u2_st (a := y) (k := 8) e_M332 (u2_k (by decide))).trans (z_M324 y 9 8 g_y rfl)); have h8 := ng9; have h7 := (by rw [(u2_st (a := y) (k := 39) e_M332 (u2_k (by decide))), z328.1, ((z_M313 y 9 39 g_y rfl).trans ((u2_st (a := y) (k := 39) e_M307 (u2_k (by decide))).trans (u2_st (a := y) (k := 39) e_M302 (u2_a (so_ne g_y g_a20 (by decide))))))] : (M332 y 39).toInt = (M y 39).toInt + 1); omega))⟩ dX9_unit_249
                                      · exact absurd rfl c322
                              · exact absurd rfl c305
                            · exact absurd rfl c300
                          · obtain ⟨v336, e_v336⟩ : ∃ z : Int32, z = M y 4 := ⟨_, rfl⟩
                            have i_v336 : iv v336 0 5 := by rw [e_v336]; exact hI.iv1 (n := 67) g_y rfl (by decide) rfl
                            have i337 : iv v336 1 5 := iv_neL (fun h9 => z288 c289 (e_v336.symm.trans h9)) i_v336 (by decide) (by decide)
                            have i338 : iv r282 0 0 := iv_eq1 c289 i_r282 kc_0
                            refine lv_iconst (v := 1) hx hb dX9_unit_154 (by decide) ?_
                            exact h_iret hQ hx hb hr hlocks rfl hK hI ⟨rfl, (iv_w (lo' := 0) (hi' := 1) kc_1 (by decide) (by decide)), m0_PI, PN_rf, PC_rf, (fun h9 => gd_no (e_v336) i337 h9), (gm_lt hg9 m0_PI i39 (fun h9 => gd_no (e_v336) i337 h9))⟩ dX9_unit_155
                        · have i339 : iv v278 7 7 := iv_eq1 c280 i279 kc_7
                          refine lv_aload_n hx hb dX9_unit_143 rfl (lv_at hl 4 rfl) ?_
                          refine h_gov hI (by decide) (va_runV (As := []) (rest := []) ⟨hx, hb, hml, hown, hts⟩ (h_misplaced_X9 l D g σ Z hZ0 M N R y g_y m0_PI) (cwV 0 hts gX9_unit_X9_misplaced rfl rfl rfl (by decide +kernel) ⟨Nat.le_of_ble_eq_true rfl, Nat.le_of_ble_eq_true rfl⟩) (h_preV hZ0 hK hE hI g_y (by decide) rfl) rfl rfl hl.1 rfl (lv_room (Nat.le_of_ble_eq_true rfl)) dX9_unit_144 ⟨Nat.le_of_ble_eq_true rfl, Nat.le_of_ble_eq_true rfl⟩) (fun M341 N342 R343 H locs q344 z_M341 hI => ?_)
                          obtain ⟨rfl, rfl, m345, m346, z347⟩ := q344
                          obtain ⟨v348, e_v348⟩ : ∃ z : Int32, z = M341 y 4 := ⟨_, rfl⟩
                          have i_v348 : iv v348 1 5 := by rw [e_v348]; exact z347
                          refine lv_aload_n hx hb dX9_unit_147 rfl (lv_at hl 4 rfl) ?_
                          refine h_goi hI (by decide) (va_runV (As := []) (rest := []) ⟨hx, hb, hml, hown, hts⟩ (h_isGood_X9 l D g σ Z hZ0 M341 N R y g_y) (cwV 0 hts gX9_unit_X9_isGood rfl rfl rfl (by decide +kernel) ⟨Nat.le_of_ble_eq_true rfl, Nat.le_of_ble_eq_true rfl⟩) (h_preV hZ0 hK hE hI g_y (by decide) rfl) rfl rfl hl.1 rfl (lv_room (Nat.le_of_ble_eq_true rfl)) dX9_unit_148 ⟨Nat.le_of_ble_eq_true rfl, Nat.le_of_ble_eq_true rfl⟩) (fun r349 M350 N351 R352 H locs q353 z_M350 hI => ?_)
                          obtain ⟨rfl, rfl, rfl, i_r349, z354, z355⟩ := q353
                          refine lv_if_ne (tgt := 156) hx hb dX9_unit_151 (by decide) (fun c356 => ?_) (fun c356 => ?_)
                          · exact absurd ((e_v348).trans (z354 c356)) (iv_ne i_v348 kc_0 (by decide))
                          · have i357 : iv r349 0 0 := iv_eq1 c356 i_r349 kc_0
                            refine lv_iconst (v := 1) hx hb dX9_unit_154 (by decide) ?_
                            have m358 : PN M M341 y := (PN_tr PN_rf m346)
                            have m359 : PC M M341 R y := (PC_ag hI.2.1 g_y PC_rf (hAd.ag z_M341 (by decide)))
                            exact h_iret hQ hx hb hr hlocks rfl hK hI ⟨rfl, (iv_w (lo' := 0) (hi' := 1) kc_1 (by decide) (by decide)), m345, m358, m359, (fun h9 => gd_no (e_v348) i_v348 h9), (gm_lt hg9 m0_PI i39 (fun h9 => gd_no (e_v348) i_v348 h9))⟩ dX9_unit_155
        · have i360 : iv v121 30 30 := iv_eq1 c122 i_v121 kc_30
          refine lv_iconst (v := 1) hx hb dX9_unit_93 (by decide) ?_
          refine lv_goto (tgt := 98) hx hb dX9_unit_94 (by decide) ?_
          refine lv_istore (lv' := [(5, .int (1 : Int32)), (4, .int r14), (3, .int r7), (2, .int (0 : Int32)), (0, .ref y)]) hx hb dX9_unit_98 hl (by decide) rfl (fun ls hl => ?_)
          refine lv_iload_n hx hb dX9_unit_100 rfl (lv_at hl 3 rfl) ?_
          refine lv_if_ne (tgt := 126) hx hb dX9_unit_101 (by decide) (fun c361 => ?_) (fun c361 => ?_)
          · exact absurd rfl c361
          · refine lv_iload hx hb dX9_unit_104 (lv_at hl 1 rfl) ?_
            refine lv_if_ne (tgt := 121) hx hb dX9_unit_106 (by decide) (fun c362 => ?_) (fun c362 => ?_)
            · have i363 := z19 c362
              obtain ⟨v364, e_v364⟩ : ∃ z : Int32, z = M y 8 := ⟨_, rfl⟩
              have i365 : iv v364 3 3 := by rw [e_v364, i363.2]; exact kc_3
              refine lv_iload hx hb dX9_unit_121 (lv_at hl 0 rfl) ?_
              refine lv_if_ne (tgt := 143) hx hb dX9_unit_123 (by decide) (fun c366 => ?_) (fun c366 => ?_)
              · refine lv_aload_n hx hb dX9_unit_143 rfl (lv_at hl 4 rfl) ?_
                refine h_gov hI (by decide) (va_runV (As := []) (rest := []) ⟨hx, hb, hml, hown, hts⟩ (h_misplaced_X9 l D g σ Z hZ0 M N R y g_y m0_PI) (cwV 0 hts gX9_unit_X9_misplaced rfl rfl rfl (by decide +kernel) ⟨Nat.le_of_ble_eq_true rfl, Nat.le_of_ble_eq_true rfl⟩) (h_preV hZ0 hK hE hI g_y (by decide) rfl) rfl rfl hl.1 rfl (lv_room (Nat.le_of_ble_eq_true rfl)) dX9_unit_144 ⟨Nat.le_of_ble_eq_true rfl, Nat.le_of_ble_eq_true rfl⟩) (fun M368 N369 R370 H locs q371 z_M368 hI => ?_)
                obtain ⟨rfl, rfl, m372, m373, z374⟩ := q371
                obtain ⟨v375, e_v375⟩ : ∃ z : Int32, z = M368 y 4 := ⟨_, rfl⟩
                have i_v375 : iv v375 1 5 := by rw [e_v375]; exact z374
                refine lv_aload_n hx hb dX9_unit_147 rfl (lv_at hl 4 rfl) ?_
                refine h_goi hI (by decide) (va_runV (As := []) (rest := []) ⟨hx, hb, hml, hown, hts⟩ (h_isGood_X9 l D g σ Z hZ0 M368 N R y g_y) (cwV 0 hts gX9_unit_X9_isGood rfl rfl rfl (by decide +kernel) ⟨Nat.le_of_ble_eq_true rfl, Nat.le_of_ble_eq_true rfl⟩) (h_preV hZ0 hK hE hI g_y (by decide) rfl) rfl rfl hl.1 rfl (lv_room (Nat.le_of_ble_eq_true rfl)) dX9_unit_148 ⟨Nat.le_of_ble_eq_true rfl, Nat.le_of_ble_eq_true rfl⟩) (fun r376 M377 N378 R379 H locs q380 z_M377 hI => ?_)
                obtain ⟨rfl, rfl, rfl, i_r376, z381, z382⟩ := q380
                refine lv_if_ne (tgt := 156) hx hb dX9_unit_151 (by decide) (fun c383 => ?_) (fun c383 => ?_)
                · exact absurd ((e_v375).trans (z381 c383)) (iv_ne i_v375 kc_0 (by decide))
                · have i384 : iv r376 0 0 := iv_eq1 c383 i_r376 kc_0
                  refine lv_iconst (v := 1) hx hb dX9_unit_154 (by decide) ?_
                  have m385 : PN M M368 y := (PN_tr PN_rf m373)
                  have m386 : PC M M368 R y := (PC_ag hI.2.1 g_y PC_rf (hAd.ag z_M368 (by decide)))
                  exact h_iret hQ hx hb hr hlocks rfl hK hI ⟨rfl, (iv_w (lo' := 0) (hi' := 1) kc_1 (by decide) (by decide)), m372, m385, m386, (fun h9 => gd_no (e_v375) i_v375 h9), (gm_lt hg9 m0_PI i39 (fun h9 => gd_no (e_v375) i_v375 h9))⟩ dX9_unit_155
              · exact absurd c366 (iv_ne kc_1 kc_0 (by decide))
            · have i387 : iv r14 0 0 := iv_eq1 c362 i_r14 kc_0
              refine lv_aload_n hx hb dX9_unit_109 rfl (lv_at hl 4 rfl) ?_
              refine h_geti (lo := (-2147483648)) (hi := 2147483647) hx hb hts iX9_unit_X9 hown hK hI g_y (by decide) rfl rfl 8 (by decide) rfl rfl (hts (.fieldLink RX9 206 "CatLeasesModel" "token" "I") (List.mem_of_getElem? (i := 7) rfl)) (fun _ h9 => h9) dX9_unit_110 (fun v388 e_v388 i_v388 => ?_)
              refine lv_iconst (v := 4) hx hb dX9_unit_113 (by decide) ?_
              refine lv_icmp_eq (tgt := 121) hx hb dX9_unit_114 (by decide) (fun c389 => ?_) (fun c389 => ?_)
              · have i390 : iv v388 4 4 := iv_eq1 c389 i_v388 kc_4
                refine lv_iload hx hb dX9_unit_121 (lv_at hl 0 rfl) ?_
                refine lv_if_ne (tgt := 143) hx hb dX9_unit_123 (by decide) (fun c391 => ?_) (fun c391 => ?_)
                · refine lv_aload_n hx hb dX9_unit_143 rfl (lv_at hl 4 rfl) ?_
                  refine h_gov hI (by decide) (va_runV (As := []) (rest := []) ⟨hx, hb, hml, hown, hts⟩ (h_misplaced_X9 l D g σ Z hZ0 M N R y g_y m0_PI) (cwV 0 hts gX9_unit_X9_misplaced rfl rfl rfl (by decide +kernel) ⟨Nat.le_of_ble_eq_true rfl, Nat.le_of_ble_eq_true rfl⟩) (h_preV hZ0 hK hE hI g_y (by decide) rfl) rfl rfl hl.1 rfl (lv_room (Nat.le_of_ble_eq_true rfl)) dX9_unit_144 ⟨Nat.le_of_ble_eq_true rfl, Nat.le_of_ble_eq_true rfl⟩) (fun M393 N394 R395 H locs q396 z_M393 hI => ?_)
                  obtain ⟨rfl, rfl, m397, m398, z399⟩ := q396
                  obtain ⟨v400, e_v400⟩ : ∃ z : Int32, z = M393 y 4 := ⟨_, rfl⟩
                  have i_v400 : iv v400 1 5 := by rw [e_v400]; exact z399
                  refine lv_aload_n hx hb dX9_unit_147 rfl (lv_at hl 4 rfl) ?_
                  refine h_goi hI (by decide) (va_runV (As := []) (rest := []) ⟨hx, hb, hml, hown, hts⟩ (h_isGood_X9 l D g σ Z hZ0 M393 N R y g_y) (cwV 0 hts gX9_unit_X9_isGood rfl rfl rfl (by decide +kernel) ⟨Nat.le_of_ble_eq_true rfl, Nat.le_of_ble_eq_true rfl⟩) (h_preV hZ0 hK hE hI g_y (by decide) rfl) rfl rfl hl.1 rfl (lv_room (Nat.le_of_ble_eq_true rfl)) dX9_unit_148 ⟨Nat.le_of_ble_eq_true rfl, Nat.le_of_ble_eq_true rfl⟩) (fun r401 M402 N403 R404 H locs q405 z_M402 hI => ?_)
                  obtain ⟨rfl, rfl, rfl, i_r401, z406, z407⟩ := q405
                  refine lv_if_ne (tgt := 156) hx hb dX9_unit_151 (by decide) (fun c408 => ?_) (fun c408 => ?_)
                  · exact absurd ((e_v400).trans (z406 c408)) (iv_ne i_v400 kc_0 (by decide))
                  · have i409 : iv r401 0 0 := iv_eq1 c408 i_r401 kc_0
                    refine lv_iconst (v := 1) hx hb dX9_unit_154 (by decide) ?_
                    have m410 : PN M M393 y := (PN_tr PN_rf m398)
                    have m411 : PC M M393 R y := (PC_ag hI.2.1 g_y PC_rf (hAd.ag z_M393 (by decide)))
                    exact h_iret hQ hx hb hr hlocks rfl hK hI ⟨rfl, (iv_w (lo' := 0) (hi' := 1) kc_1 (by decide) (by decide)), m397, m410, m411, (fun h9 => gd_no (e_v400) i_v400 h9), (gm_lt hg9 m0_PI i39 (fun h9 => gd_no (e_v400) i_v400 h9))⟩ dX9_unit_155
                · exact absurd c391 (iv_ne kc_1 kc_0 (by decide))
              · refine lv_iload_n hx hb dX9_unit_117 rfl (lv_at hl 2 rfl) ?_
                refine lv_if_eq (tgt := 143) hx hb dX9_unit_118 (by decide) (fun c412 => ?_) (fun c412 => ?_)
                · have i413 : iv r7 0 0 := iv_eq1 c412 i_r7 kc_0
                  refine lv_aload_n hx hb dX9_unit_143 rfl (lv_at hl 4 rfl) ?_
                  refine h_gov hI (by decide) (va_runV (As := []) (rest := []) ⟨hx, hb, hml, hown, hts⟩ (h_misplaced_X9 l D g σ Z hZ0 M N R y g_y m0_PI) (cwV 0 hts gX9_unit_X9_misplaced rfl rfl rfl (by decide +kernel) ⟨Nat.le_of_ble_eq_true rfl, Nat.le_of_ble_eq_true rfl⟩) (h_preV hZ0 hK hE hI g_y (by decide) rfl) rfl rfl hl.1 rfl (lv_room (Nat.le_of_ble_eq_true rfl)) dX9_unit_144 ⟨Nat.le_of_ble_eq_true rfl, Nat.le_of_ble_eq_true rfl⟩) (fun M415 N416 R417 H locs q418 z_M415 hI => ?_)
                  obtain ⟨rfl, rfl, m419, m420, z421⟩ := q418
                  obtain ⟨v422, e_v422⟩ : ∃ z : Int32, z = M415 y 4 := ⟨_, rfl⟩
                  have i_v422 : iv v422 1 5 := by rw [e_v422]; exact z421
                  refine lv_aload_n hx hb dX9_unit_147 rfl (lv_at hl 4 rfl) ?_
                  refine h_goi hI (by decide) (va_runV (As := []) (rest := []) ⟨hx, hb, hml, hown, hts⟩ (h_isGood_X9 l D g σ Z hZ0 M415 N R y g_y) (cwV 0 hts gX9_unit_X9_isGood rfl rfl rfl (by decide +kernel) ⟨Nat.le_of_ble_eq_true rfl, Nat.le_of_ble_eq_true rfl⟩) (h_preV hZ0 hK hE hI g_y (by decide) rfl) rfl rfl hl.1 rfl (lv_room (Nat.le_of_ble_eq_true rfl)) dX9_unit_148 ⟨Nat.le_of_ble_eq_true rfl, Nat.le_of_ble_eq_true rfl⟩) (fun r423 M424 N425 R426 H locs q427 z_M424 hI => ?_)
                  obtain ⟨rfl, rfl, rfl, i_r423, z428, z429⟩ := q427
                  refine lv_if_ne (tgt := 156) hx hb dX9_unit_151 (by decide) (fun c430 => ?_) (fun c430 => ?_)
                  · exact absurd ((e_v422).trans (z428 c430)) (iv_ne i_v422 kc_0 (by decide))
                  · have i431 : iv r423 0 0 := iv_eq1 c430 i_r423 kc_0
                    refine lv_iconst (v := 1) hx hb dX9_unit_154 (by decide) ?_
                    have m432 : PN M M415 y := (PN_tr PN_rf m420)
                    have m433 : PC M M415 R y := (PC_ag hI.2.1 g_y PC_rf (hAd.ag z_M415 (by decide)))
                    exact h_iret hQ hx hb hr hlocks rfl hK hI ⟨rfl, (iv_w (lo' := 0) (hi' := 1) kc_1 (by decide) (by decide)), m419, m432, m433, (fun h9 => gd_no (e_v422) i_v422 h9), (gm_lt hg9 m0_PI i39 (fun h9 => gd_no (e_v422) i_v422 h9))⟩ dX9_unit_155
                · have i434 : iv v388 5 5 := by rw [(e_v388), (z13 c412).1]; exact kc_5
                  have i435 : iv r7 1 1 := iv_neL c412 i_r7 (by decide) (by decide)
                  refine lv_iload hx hb dX9_unit_121 (lv_at hl 0 rfl) ?_
                  refine lv_if_ne (tgt := 143) hx hb dX9_unit_123 (by decide) (fun c436 => ?_) (fun c436 => ?_)
                  · refine lv_aload_n hx hb dX9_unit_143 rfl (lv_at hl 4 rfl) ?_
                    refine h_gov hI (by decide) (va_runV (As := []) (rest := []) ⟨hx, hb, hml, hown, hts⟩ (h_misplaced_X9 l D g σ Z hZ0 M N R y g_y m0_PI) (cwV 0 hts gX9_unit_X9_misplaced rfl rfl rfl (by decide +kernel) ⟨Nat.le_of_ble_eq_true rfl, Nat.le_of_ble_eq_true rfl⟩) (h_preV hZ0 hK hE hI g_y (by decide) rfl) rfl rfl hl.1 rfl (lv_room (Nat.le_of_ble_eq_true rfl)) dX9_unit_144 ⟨Nat.le_of_ble_eq_true rfl, Nat.le_of_ble_eq_true rfl⟩) (fun M438 N439 R440 H locs q441 z_M438 hI => ?_)
                    obtain ⟨rfl, rfl, m442, m443, z444⟩ := q441
                    obtain ⟨v445, e_v445⟩ : ∃ z : Int32, z = M438 y 4 := ⟨_, rfl⟩
                    have i_v445 : iv v445 1 5 := by rw [e_v445]; exact z444
                    refine lv_aload_n hx hb dX9_unit_147 rfl (lv_at hl 4 rfl) ?_
                    refine h_goi hI (by decide) (va_runV (As := []) (rest := []) ⟨hx, hb, hml, hown, hts⟩ (h_isGood_X9 l D g σ Z hZ0 M438 N R y g_y) (cwV 0 hts gX9_unit_X9_isGood rfl rfl rfl (by decide +kernel) ⟨Nat.le_of_ble_eq_true rfl, Nat.le_of_ble_eq_true rfl⟩) (h_preV hZ0 hK hE hI g_y (by decide) rfl) rfl rfl hl.1 rfl (lv_room (Nat.le_of_ble_eq_true rfl)) dX9_unit_148 ⟨Nat.le_of_ble_eq_true rfl, Nat.le_of_ble_eq_true rfl⟩) (fun r446 M447 N448 R449 H locs q450 z_M447 hI => ?_)
                    obtain ⟨rfl, rfl, rfl, i_r446, z451, z452⟩ := q450
                    refine lv_if_ne (tgt := 156) hx hb dX9_unit_151 (by decide) (fun c453 => ?_) (fun c453 => ?_)
                    · exact absurd ((e_v445).trans (z451 c453)) (iv_ne i_v445 kc_0 (by decide))
                    · have i454 : iv r446 0 0 := iv_eq1 c453 i_r446 kc_0
                      refine lv_iconst (v := 1) hx hb dX9_unit_154 (by decide) ?_
                      have m455 : PN M M438 y := (PN_tr PN_rf m443)
                      have m456 : PC M M438 R y := (PC_ag hI.2.1 g_y PC_rf (hAd.ag z_M438 (by decide)))
                      exact h_iret hQ hx hb hr hlocks rfl hK hI ⟨rfl, (iv_w (lo' := 0) (hi' := 1) kc_1 (by decide) (by decide)), m442, m455, m456, (fun h9 => gd_no (e_v445) i_v445 h9), (gm_lt hg9 m0_PI i39 (fun h9 => gd_no (e_v445) i_v445 h9))⟩ dX9_unit_155
                  · exact absurd c436 (iv_ne kc_1 kc_0 (by decide))
    refine lv_if_eq (tgt := 55) hx hb dX9_unit_38 (by decide) (fun c457 => ?_) (fun c457 => ?_)
    · have i458 : iv t0_36 0 0 := iv_eq1 c457 i_t0_36 kc_0
      exact J55 H locs ls hI (lv_sub hl [1] rfl)
    · have i459 : iv t0_36 1 1 := iv_neL c457 i_t0_36 (by decide) (by decide)
      refine lv_aload_n hx hb dX9_unit_41 rfl (lv_at hl 1 rfl) ?_
      refine lv_ldc2 (v := 7237492) hx hb hown (hts (.constantLong RX9 194 (7237492)) (List.mem_of_getElem? (i := 3) rfl)) dX9_unit_42 ?_
      refine h_goi hI (by decide) (va_runV (As := [.long (7237492 : Int64)]) (rest := []) ⟨hx, hb, hml, hown, hts⟩ (h_isWord_X9 l D g σ Z hZ0 M N R y g_y (7237492 : Int64)) (cwV 1 hts gX9_unit_X9_isWord rfl rfl rfl (by decide +kernel) ⟨Nat.le_of_ble_eq_true rfl, Nat.le_of_ble_eq_true rfl⟩) (h_preV hZ0 hK hE hI g_y (by decide) rfl) rfl rfl hl.1 rfl (lv_room (Nat.le_of_ble_eq_true rfl)) dX9_unit_45 ⟨Nat.le_of_ble_eq_true rfl, Nat.le_of_ble_eq_true rfl⟩) (fun r460 M461 N462 R463 H locs q464 z_M461 hI => ?_)
      obtain ⟨rfl, rfl, rfl, i_r460, z465, z466⟩ := q464
      refine lv_if_eq (tgt := 55) hx hb dX9_unit_48 (by decide) (fun c467 => ?_) (fun c467 => ?_)
      · have i468 : iv r460 0 0 := iv_eq1 c467 i_r460 kc_0
        exact J55 H locs ls hI (lv_sub hl [1] rfl)
      · obtain ⟨v469, e_v469⟩ : ∃ z : Int32, z = M y 8 := ⟨_, rfl⟩
        have i470 : iv v469 3 3 := by rw [e_v469, (z465 c467).1]; exact kc_3
        have i471 : iv r460 1 1 := iv_neL c467 i_r460 (by decide) (by decide)
        refine lv_iconst (v := 1) hx hb dX9_unit_51 (by decide) ?_
        refine lv_goto (tgt := 56) hx hb dX9_unit_52 (by decide) ?_
        refine lv_istore_n (lv' := [(2, .int (1 : Int32)), (1, .int t0_36), (0, .ref y)]) hx hb dX9_unit_56 rfl hl (by decide) rfl (fun ls hl => ?_)
        refine lv_aload_n hx hb dX9_unit_57 rfl (lv_at hl 2 rfl) ?_
        refine lv_bipush (v := 40) hx hb dX9_unit_58 (by decide) ?_
        refine h_goi hI (by decide) (va_runV (As := [.int (40 : Int32)]) (rest := []) ⟨hx, hb, hml, hown, hts⟩ (h_isSignHere_X9 l D g σ Z hZ0 M N R y g_y (40 : Int32)) (cwV 1 hts gX9_unit_X9_isSignHere rfl rfl rfl (by decide +kernel) ⟨Nat.le_of_ble_eq_true rfl, Nat.le_of_ble_eq_true rfl⟩) (h_preV hZ0 hK hE hI g_y (by decide) rfl) rfl rfl hl.1 rfl (lv_room (Nat.le_of_ble_eq_true rfl)) dX9_unit_60 ⟨Nat.le_of_ble_eq_true rfl, Nat.le_of_ble_eq_true rfl⟩) (fun r472 M473 N474 R475 H locs q476 z_M473 hI => ?_)
        obtain ⟨rfl, rfl, rfl, i_r472, z477, z478⟩ := q476
        refine lv_istore_n (lv' := [(3, .int r472), (2, .int (1 : Int32)), (1, .int t0_36), (0, .ref y)]) hx hb dX9_unit_63 rfl hl (by decide) rfl (fun ls hl => ?_)
        refine lv_aload_n hx hb dX9_unit_64 rfl (lv_at hl 3 rfl) ?_
        refine h_goi hI (by decide) (va_runV (As := []) (rest := []) ⟨hx, hb, hml, hown, hts⟩ (h_wordHere_X9 l D g σ Z hZ0 M N R y g_y) (cwV 0 hts gX9_unit_X9_wordHere rfl rfl rfl (by decide +kernel) ⟨Nat.le_of_ble_eq_true rfl, Nat.le_of_ble_eq_true rfl⟩) (h_preV hZ0 hK hE hI g_y (by decide) rfl) rfl rfl hl.1 rfl (lv_room (Nat.le_of_ble_eq_true rfl)) dX9_unit_65 ⟨Nat.le_of_ble_eq_true rfl, Nat.le_of_ble_eq_true rfl⟩) (fun r479 M480 N481 R482 H locs q483 z_M480 hI => ?_)
        obtain ⟨rfl, rfl, rfl, i_r479, z484⟩ := q483
        refine lv_istore (lv' := [(4, .int r479), (3, .int r472), (2, .int (1 : Int32)), (1, .int t0_36), (0, .ref y)]) hx hb dX9_unit_68 hl (by decide) rfl (fun ls hl => ?_)
        refine lv_aload_n hx hb dX9_unit_70 rfl (lv_at hl 4 rfl) ?_
        refine h_getr hx hb hts iX9_unit_X9 hown hK hI g_y (by decide) rfl rfl 14 (by decide) rfl 114 rfl (hts (.fieldLink RX9 30 "CatLeasesModel" "units" "[I") (List.mem_of_getElem? (i := 4) rfl)) (fun _ h9 => h9) dX9_unit_71 (fun a485 e_a485 g_a485 => ?_)
        refine lv_aload_n hx hb dX9_unit_74 rfl (lv_at hl 4 rfl) ?_
        refine h_geti (lo := 0) (hi := 1) hx hb hts iX9_unit_X9 hown hK hI g_y (by decide) rfl rfl 36 (by decide) rfl rfl (hts (.fieldLink RX9 259 "CatLeasesModel" "rb" "I") (List.mem_of_getElem? (i := 5) rfl)) (fun _ h9 => h9) dX9_unit_75 (fun v486 e_v486 i_v486 => ?_)
        refine h_iald (j := v486.toNatClampNeg) (lo := (-2147483648)) (hi := 2147483647) hx hb hK hI g_a485 (by decide) rfl (iv_in (n := 2) i_v486 (by decide) (by decide)) rfl (iv_any _) dX9_unit_78 (fun v487 e_v487 i_v487 => ?_)
        refine lv_bipush (v := 60) hx hb dX9_unit_79 (by decide) ?_
        refine lv_icmp_eq (tgt := 93) hx hb dX9_unit_81 (by decide) (fun c488 => ?_) (fun c488 => ?_)
        · have i489 : iv v487 60 60 := iv_eq1 c488 i_v487 kc_60
          refine lv_iconst (v := 1) hx hb dX9_unit_93 (by decide) ?_
          refine lv_goto (tgt := 98) hx hb dX9_unit_94 (by decide) ?_
          refine lv_istore (lv' := [(5, .int (1 : Int32)), (4, .int r479), (3, .int r472), (2, .int (1 : Int32)), (1, .int t0_36), (0, .ref y)]) hx hb dX9_unit_98 hl (by decide) rfl (fun ls hl => ?_)
          refine lv_iload_n hx hb dX9_unit_100 rfl (lv_at hl 3 rfl) ?_
          refine lv_if_ne (tgt := 126) hx hb dX9_unit_101 (by decide) (fun c490 => ?_) (fun c490 => ?_)
          · refine lv_iload_n hx hb dX9_unit_126 rfl (lv_at hl 3 rfl) ?_
            refine lv_if_ne (tgt := 134) hx hb dX9_unit_127 (by decide) (fun c491 => ?_) (fun c491 => ?_)
            · refine lv_aload_n hx hb dX9_unit_134 rfl (lv_at hl 5 rfl) ?_
              refine h_geti (lo := (-2147483648)) (hi := 2147483647) hx hb hts iX9_unit_X9 hown hK hI g_y (by decide) rfl rfl 38 (by decide) rfl rfl (hts (.fieldLink RX9 330 "CatLeasesModel" "within" "I") (List.mem_of_getElem? (i := 8) rfl)) (fun _ h9 => h9) dX9_unit_135 (fun v492 e_v492 i_v492 => ?_)
              have i493 : iv v492 0 7 := EX1_w m0_EX1 e_v492
              refine lv_bipush (v := 7) hx hb dX9_unit_138 (by decide) ?_
              refine lv_icmp_ne (tgt := 147) hx hb dX9_unit_140 (by decide) (fun c494 => ?_) (fun c494 => ?_)
              · have i495 : iv v492 0 6 := iv_neH c494 i493 (by decide) (by decide)
                refine lv_aload_n hx hb dX9_unit_147 rfl (lv_at hl 5 rfl) ?_
                refine h_goi hI (by decide) (va_runV (As := []) (rest := []) ⟨hx, hb, hml, hown, hts⟩ (h_isGood_X9 l D g σ Z hZ0 M N R y g_y) (cwV 0 hts gX9_unit_X9_isGood rfl rfl rfl (by decide +kernel) ⟨Nat.le_of_ble_eq_true rfl, Nat.le_of_ble_eq_true rfl⟩) (h_preV hZ0 hK hE hI g_y (by decide) rfl) rfl rfl hl.1 rfl (lv_room (Nat.le_of_ble_eq_true rfl)) dX9_unit_148 ⟨Nat.le_of_ble_eq_true rfl, Nat.le_of_ble_eq_true rfl⟩) (fun r496 M497 N498 R499 H locs q500 z_M497 hI => ?_)
                obtain ⟨rfl, rfl, rfl, i_r496, z501, z502⟩ := q500
                refine lv_if_ne (tgt := 156) hx hb dX9_unit_151 (by decide) (fun c503 => ?_) (fun c503 => ?_)
                · obtain ⟨v504, e_v504⟩ : ∃ z : Int32, z = M y 4 := ⟨_, rfl⟩
                  have i_v504 : iv v504 0 5 := by rw [e_v504]; exact hI.iv1 (n := 67) g_y rfl (by decide) rfl
                  have i505 : iv v504 0 0 := by rw [e_v504, z501 c503]; exact kc_0
                  have i506 : iv r496 1 1 := iv_neL c503 i_r496 (by decide) (by decide)
                  obtain ⟨v507, e_v507⟩ : ∃ z : Int32, z = M y 37 := ⟨_, rfl⟩
                  have i_v507 : iv v507 0 1120 := by rw [e_v507]; exact hI.iv1 (n := 67) g_y rfl (by decide) rfl
                  obtain ⟨v508, e_v508⟩ : ∃ z : Int32, z = M y 40 := ⟨_, rfl⟩
                  have i_v508 : iv v508 0 30 := by rw [e_v508]; exact hI.iv1 (n := 67) g_y rfl (by decide) rfl
                  refine lv_aload_n hx hb dX9_unit_156 rfl (lv_at hl 5 rfl) ?_
                  refine h_getr hx hb hts iX9_unit_X9 hown hK hI g_y (by decide) rfl rfl 14 (by decide) rfl 114 rfl (hts (.fieldLink RX9 30 "CatLeasesModel" "units" "[I") (List.mem_of_getElem? (i := 4) rfl)) (fun _ h9 => h9) dX9_unit_157 (fun a509 e_a509 g_a509 => ?_)
                  have q510 : a485 = a509 := (e_a485).trans e_a509.symm
                  subst q510
                  refine lv_aload_n hx hb dX9_unit_160 rfl (lv_at hl 5 rfl) ?_
                  refine h_geti (lo := 0) (hi := 1) hx hb hts iX9_unit_X9 hown hK hI g_y (by decide) rfl rfl 36 (by decide) rfl rfl (hts (.fieldLink RX9 259 "CatLeasesModel" "rb" "I") (List.mem_of_getElem? (i := 5) rfl)) (fun _ h9 => h9) dX9_unit_161 (fun v511 e_v511 i_v511 => ?_)
                  have q512 : v486 = v511 := (e_v486).trans e_v511.symm
                  subst q512
                  refine lv_dup2_11 hx hb dX9_unit_164 rfl rfl ?_
                  refine h_iald (j := v486.toNatClampNeg) (lo := (-2147483648)) (hi := 2147483647) hx hb hK hI g_a485 (by decide) rfl (iv_in (n := 2) i_v486 (by decide) (by decide)) rfl (iv_any _) dX9_unit_165 (fun v513 e_v513 i_v513 => ?_)
                  have q514 : v487 = v513 := (e_v487).trans e_v513.symm
                  subst q514
                  refine lv_iload_n hx hb dX9_unit_166 rfl (lv_at hl 3 rfl) ?_
                  refine lv_if_eq (tgt := 174) hx hb dX9_unit_167 (by decide) (fun c515 => ?_) (fun c515 => ?_)
                  · exact absurd c515 (iv_ne kc_1 kc_0 (by decide))
                  · refine lv_iconst (v := 0) hx hb dX9_unit_170 (by decide) ?_
                    refine lv_goto (tgt := 175) hx hb dX9_unit_171 (by decide) ?_
                    refine lv_iadd hx hb dX9_unit_175 ?_
                    refine k_top (v := v487) (Int32.add_zero _) ?_
                    refine h_iast (j := v486.toNatClampNeg) hx hb hK hI g_a485 (by decide) rfl (iv_in (n := 2) i_v486 (by decide) (by decide)) rfl (iv_any _) rfl dX9_unit_176 (fun M516 H locs e_M516 hI => ?_)
                    refine lv_aload_n hx hb dX9_unit_177 rfl (lv_at hl 5 rfl) ?_
                    refine lv_dup hx hb dX9_unit_178 rfl ?_
                    refine h_geti (lo := 0) (hi := 30) hx hb hts iX9_unit_X9 hown hK hI g_y (by decide) rfl rfl 40 (by decide) rfl rfl (hts (.fieldLink RX9 321 "CatLeasesModel" "unitsInRule" "I") (List.mem_of_getElem? (i := 6) rfl)) (fun _ h9 => h9) dX9_unit_179 (fun v517 e_v517 i_v517 => ?_)
                    have q518 : v508 = v517 := ((e_v508).trans (u2_st (a := y) (k := 40) e_M516 (u2_a (so_ne g_y g_a485 (by decide)))).symm).trans e_v517.symm
                    subst q518
                    refine lv_iload_n hx hb dX9_unit_182 rfl (lv_at hl 3 rfl) ?_
                    refine lv_if_eq (tgt := 190) hx hb dX9_unit_183 (by decide) (fun c519 => ?_) (fun c519 => ?_)
                    · exact absurd c519 (iv_ne kc_1 kc_0 (by decide))
                    · refine lv_iconst (v := 0) hx hb dX9_unit_186 (by decide) ?_
                      refine lv_goto (tgt := 191) hx hb dX9_unit_187 (by decide) ?_
                      refine lv_iadd hx hb dX9_unit_191 ?_
                      refine k_top (v := v508) (Int32.add_zero _) ?_
                      refine h_puti hx hb hts iX9_unit_X9 tyX9 tyX9_ok nmX9 hown hK hI g_y (by decide) rfl rfl 40 (by decide) rfl (hts (.fieldLink RX9 321 "CatLeasesModel" "unitsInRule" "I") (List.mem_of_getElem? (i := 6) rfl)) (fun _ h9 => h9) rfl .int (by decide +kernel) rfl rfl i_v508 rfl dX9_unit_192 (fun M520 H locs e_M520 hI => ?_)
                      refine lv_iload hx hb dX9_unit_195 (lv_at hl 1 rfl) ?_
                      refine lv_if_ne (tgt := 207) hx hb dX9_unit_197 (by decide) (fun c521 => ?_) (fun c521 => ?_)
                      · have i522 : iv r479 1 119 := iv_neL c521 i_r479 (by decide) (by decide)
                        refine lv_iconst (v := 0) hx hb dX9_unit_207 (by decide) ?_
                        refine lv_istore (lv' := [(6, .int (0 : Int32)), (5, .int (1 : Int32)), (4, .int r479), (3, .int r472), (2, .int (1 : Int32)), (1, .int t0_36), (0, .ref y)]) hx hb dX9_unit_208 hl (by decide) rfl (fun ls hl => ?_)
                        refine lv_aload_n hx hb dX9_unit_210 rfl (lv_at hl 6 rfl) ?_
                        have m523 : PI M520 y := (PI_ag hI.2.1 g_y (PI_ag hI.2.1 g_y m0_PI (hAd.put e_M516 g_a485 rfl)) (hAd.put e_M520 g_y rfl))
                        have m524 : PN M M520 y := (PN_ag hI.2.1 g_y (PN_ag hI.2.1 g_y PN_rf (hAd.put e_M516 g_a485 rfl)) (hAd.put e_M520 g_y rfl))
                        refine h_gov hI (by decide) (va_runV (As := []) (rest := []) ⟨hx, hb, hml, hown, hts⟩ (h_goOn_X9 l D g σ Z hZ0 M520 N R y g_y m523) (cwV 0 hts gX9_unit_X9_goOn rfl rfl rfl (by decide +kernel) ⟨Nat.le_of_ble_eq_true rfl, Nat.le_of_ble_eq_true rfl⟩) (h_preV hZ0 hK hE hI g_y (by decide) rfl) rfl rfl hl.1 rfl (lv_room (Nat.le_of_ble_eq_true rfl)) dX9_unit_211 ⟨Nat.le_of_ble_eq_true rfl, Nat.le_of_ble_eq_true rfl⟩) (fun M526 N527 R528 H locs q529 z_M526 hI => ?_)
                        obtain ⟨rfl, z530, z531, z532⟩ := q529
                        have ng9 : nu M526 y < nu M y := Int.lt_of_lt_of_le (GO_lt z532 (z_M526 y 9 3 g_y rfl) m523 (fun h9 => iv_ne i470 kc_0 (by decide) ((((e_v469).trans (u2_st (a := y) (k := 8) e_M516 (u2_a (so_ne g_y g_a485 (by decide)))).symm).trans (u2_st (a := y) (k := 8) e_M520 (u2_k (by decide))).symm).trans h9))) m524.2.2
                        refine lv_iload_n hx hb dX9_unit_214 rfl (lv_at hl 4 rfl) ?_
                        refine lv_if_ne (tgt := 222) hx hb dX9_unit_215 (by decide) (fun c533 => ?_) (fun c533 => ?_)
                        · refine lv_aload_n hx hb dX9_unit_222 rfl (lv_at hl 6 rfl) ?_
                          refine lv_iload_n hx hb dX9_unit_223 rfl (lv_at hl 4 rfl) ?_
                          refine lv_if_eq (tgt := 231) hx hb dX9_unit_224 (by decide) (fun c534 => ?_) (fun c534 => ?_)
                          · exact absurd c534 (iv_ne kc_1 kc_0 (by decide))
                          · refine lv_iconst (v := 3) hx hb dX9_unit_227 (by decide) ?_
                            refine lv_goto (tgt := 233) hx hb dX9_unit_228 (by decide) ?_
                            refine lv_bipush (v := 126) hx hb dX9_unit_233 (by decide) ?_
                            refine h_gov hI (by decide) (va_runV (As := [.int (3 : Int32), .int (126 : Int32)]) (rest := []) ⟨hx, hb, hml, hown, hts⟩ (h_pushE_X9 l D g σ Z hZ0 M526 N527 R y g_y (3 : Int32) (126 : Int32) (by rw [((z_M526 y 9 39 g_y rfl).trans ((u2_st (a := y) (k := 39) e_M520 (u2_k (by decide))).trans (u2_st (a := y) (k := 39) e_M516 (u2_a (so_ne g_y g_a485 (by decide))))))]; exact iv_w (EX1_p m0_EX1 rfl) (by decide) (by decide))) (cwV 2 hts gX9_unit_X9_pushE rfl rfl rfl (by decide +kernel) ⟨Nat.le_of_ble_eq_true rfl, Nat.le_of_ble_eq_true rfl⟩) (h_preV hZ0 hK hE hI g_y (by decide) rfl) rfl rfl hl.1 rfl (lv_room (Nat.le_of_ble_eq_true rfl)) dX9_unit_235 ⟨Nat.le_of_ble_eq_true rfl, Nat.le_of_ble_eq_true rfl⟩) (fun M536 N537 R538 H locs q539 z_M536 hI => ?_)
                            obtain ⟨rfl, rfl, z540⟩ := q539
                            refine lv_aload_n hx hb dX9_unit_238 rfl (lv_at hl 6 rfl) ?_
                            refine lv_dup hx hb dX9_unit_239 rfl ?_
                            refine h_geti (lo := (-2147483648)) (hi := 2147483647) hx hb hts iX9_unit_X9 hown hK hI g_y (by decide) rfl rfl 38 (by decide) rfl rfl (hts (.fieldLink RX9 330 "CatLeasesModel" "within" "I") (List.mem_of_getElem? (i := 8) rfl)) (fun _ h9 => h9) dX9_unit_240 (fun v541 e_v541 i_v541 => ?_)
                            have q542 : v492 = v541 := (((((e_v492).trans (u2_st (a := y) (k := 38) e_M516 (u2_a (so_ne g_y g_a485 (by decide)))).symm).trans (u2_st (a := y) (k := 38) e_M520 (u2_k (by decide))).symm).trans (z_M526 y 9 38 g_y rfl).symm).trans (z_M536 y 9 38 g_y rfl).symm).trans e_v541.symm
                            subst q542
                            refine lv_iconst (v := 1) hx hb dX9_unit_243 (by decide) ?_
                            refine lv_iadd hx hb dX9_unit_244 ?_
                            refine h_nm (lo := 1) (hi := 7) (iv_add i495 kc_1 (by decide) (by decide) (by decide) (by decide)) (fun v543 e_v543 i_v543 => ?_)
                            refine h_puti hx hb hts iX9_unit_X9 tyX9 tyX9_ok nmX9 hown hK hI g_y (by decide) rfl rfl 38 (by decide) rfl (hts (.fieldLink RX9 330 "CatLeasesModel" "within" "I") (List.mem_of_getElem? (i := 8) rfl)) (fun _ h9 => h9) rfl .int (by decide +kernel) rfl rfl (iv_w (lo' := (-2147483648)) (hi' := 2147483647) i_v543 (by decide) (by decide)) rfl dX9_unit_245 (fun M544 H locs e_M544 hI => ?_)
                            refine lv_iconst (v := 1) hx hb dX9_unit_248 (by decide) ?_
                            have m545 : PI M544 y := (PI_ag hI.2.1 g_y (PI_ag hI.2.1 g_y z530 (hAd.ag z_M536 (by decide))) (hAd.put e_M544 g_y rfl))
                            have m546 : PN M M544 y := (PN_ag hI.2.1 g_y (PN_ag hI.2.1 g_y (PN_tr m524 z531) (hAd.ag z_M536 (by decide))) (hAd.put e_M544 g_y rfl))
                            have m547 : PC M M544 R y := (PC_ag hI.2.1 g_y (PC_ag hI.2.1 g_y (PC_ag hI.2.1 g_y (PC_ag hI.2.1 g_y (PC_ag hI.2.1 g_y PC_rf (hAd.put e_M516 g_a485 rfl)) (hAd.put e_M520 g_y rfl)) (hAd.ag z_M526 (by decide))) (hAd.ag z_M536 (by decide))) (hAd.put e_M544 g_y rfl))
                            exact h_iret hQ hx hb hr hlocks rfl hK hI ⟨rfl, (iv_w (lo' := 0) (hi' := 1) kc_1 (by decide) (by decide)), m545, m546, m547, (fun _ => ⟨fun h9 => absurd h9 (by decide), fun _ => (EX1_push (q := (3 : Int32)) (t := 0) m0_EX1 ((u2_st (a := y) (k := 36) e_M544 (u2_k (by decide))).trans ((z_M536 y 9 36 g_y rfl).trans ((z_M526 y 9 36 g_y rfl).trans ((u2_st (a := y) (k := 36) e_M520 (u2_k (by decide))).trans (u2_st (a := y) (k := 36) e_M516 (u2_a (so_ne g_y g_a485 (by decide)))))))) ((u2_st (a := y) (k := 37) e_M544 (u2_k (by decide))).trans ((z_M536 y 9 37 g_y rfl).trans ((z_M526 y 9 37 g_y rfl).trans ((u2_st (a := y) (k := 37) e_M520 (u2_k (by decide))).trans (u2_st (a := y) (k := 37) e_M516 (u2_a (so_ne g_y g_a485 (by decide)))))))) ((u2_row e_M544 (so_ne (hI.2.1.r1 g_y 30 130 (by decide) rfl) g_y (by decide))).trans ((hAg.row z_M536 (hI.2.1.r1 g_y 30 130 (by decide) rfl) (fun _ => rfl)).trans ((hAg.row z_M526 (hI.2.1.r1 g_y 30 130 (by decide) rfl) (fun _ => rfl)).trans ((u2_row e_M520 (so_ne (hI.2.1.r1 g_y 30 130 (by decide) rfl) g_y (by decide))).trans (u2_row e_M516 (so_ne (hI.2.1.r1 g_y 30 130 (by decide) rfl) g_a485 (by decide))))))) (by rw [← ((u2_wr e_M544)), ← (e_v492)]; exact (h_inc e_v543 i495 kc_1 (by decide) (by decide))) (by rw [← (((((u2_wr e_M520)).trans (z_M526 y 9 40 g_y rfl).symm).trans (z_M536 y 9 40 g_y rfl).symm).trans (u2_st (a := y) (k := 40) e_M544 (u2_k (by decide))).symm), ← (e_v508)]; omega) (by rw [(u2_st (a := y) (k := 39) e_M544 (u2_k (by decide))), z540.1, ((z_M526 y 9 39 g_y rfl).trans ((u2_st (a := y) (k := 39) e_M520 (u2_k (by decide))).trans (u2_st (a := y) (k := 39) e_M516 (u2_a (so_ne g_y g_a485 (by decide))))))]) (fun j => by rw [(u2_row e_M544 (so_ne (hI.2.1.r1 g_y 32 132 (by decide) rfl) g_y (by decide))), z540.2.1 j, ((hAg.row z_M526 (hI.2.1.r1 g_y 32 132 (by decide) rfl) (fun _ => rfl)).trans ((u2_row e_M520 (so_ne (hI.2.1.r1 g_y 32 132 (by decide) rfl) g_y (by decide))).trans (u2_row e_M516 (so_ne (hI.2.1.r1 g_y 32 132 (by decide) rfl) g_a485 (by decide))))), ((z_M526 y 9 39 g_y rfl).trans ((u2_st (a := y) (k := 39) e_M520 (u2_k (by decide))).trans (u2_st (a := y) (k := 39) e_M516 (u2_a (so_ne g_y g_a485 (by decide))))))]) (fun j => by rw [(u2_row e_M544 (so_ne (hI.2.1.r1 g_y 33 133 (by decide) rfl) g_y (by decide))), z540.2.2 j, ((hAg.row z_M526 (hI.2.1.r1 g_y 33 133 (by decide) rfl) (fun _ => rfl)).trans ((u2_row e_M520 (so_ne (hI.2.1.r1 g_y 33 133 (by decide) rfl) g_y (by decide))).trans (u2_row e_M516 (so_ne (hI.2.1.r1 g_y 33 133 (by decide) rfl) g_a485 (by decide))))), ((z_M526 y 9 39 g_y rfl).trans ((u2_st (a := y) (k := 39) e_M520 (u2_k (by decide))).trans (u2_st (a := y) (k := 39) e_M516 (u2_a (so_ne g_y g_a485 (by decide))))))]) (Or.inl ⟨rfl, rfl⟩) (by have h9 := i495; rw [← (e_v492)]; simp only [iv] at h9; omega) (by have h9 := i_v508; rw [← (e_v508)]; simp only [iv] at h9; omega))⟩), (gm_lt hg9 m0_PI i39 (fun _ => by have h9 := nu_eq (M1 := M544) (M := M526) (y := y) ((u2_st (a := y) (k := 3) e_M544 (u2_k (by decide))).trans (z_M536 y 9 3 g_y rfl)) ((u2_st (a := y) (k := 7) e_M544 (u2_k (by decide))).trans (z_M536 y 9 7 g_y rfl)) ((u2_st (a := y) (k := 8) e_M544 (u2_k (by decide))).trans (z_M536 y 9 8 g_y rfl)); have h8 := ng9; have h7 := (by rw [(u2_st (a := y) (k := 39) e_M544 (u2_k (by decide))), z540.1, ((z_M526 y 9 39 g_y rfl).trans ((u2_st (a := y) (k := 39) e_M520 (u2_k (by decide))).trans (u2_st (a := y) (k := 39) e_M516 (u2_a (so_ne g_y g_a485 (by decide))))))] : (M544 y 39).toInt = (M y 39).toInt + 1); omega))⟩ dX9_unit_249
                        · exact absurd c533 (iv_ne kc_1 kc_0 (by decide))
                      · have i548 : iv r479 0 0 := iv_eq1 c521 i_r479 kc_0
                        refine lv_aload_n hx hb dX9_unit_200 rfl (lv_at hl 5 rfl) ?_
                        refine h_geti (lo := (-2147483648)) (hi := 2147483647) hx hb hts iX9_unit_X9 hown hK hI g_y (by decide) rfl rfl 9 (by decide) rfl rfl (hts (.fieldLink RX9 224 "CatLeasesModel" "number" "I") (List.mem_of_getElem? (i := 9) rfl)) (fun _ h9 => h9) dX9_unit_201 (fun v549 e_v549 i_v549 => ?_)
                        refine lv_goto (tgt := 208) hx hb dX9_unit_204 (by decide) ?_
                        refine lv_istore (lv' := [(6, .int v549), (5, .int (1 : Int32)), (4, .int r479), (3, .int r472), (2, .int (1 : Int32)), (1, .int t0_36), (0, .ref y)]) hx hb dX9_unit_208 hl (by decide) rfl (fun ls hl => ?_)
                        refine lv_aload_n hx hb dX9_unit_210 rfl (lv_at hl 6 rfl) ?_
                        have m550 : PI M520 y := (PI_ag hI.2.1 g_y (PI_ag hI.2.1 g_y m0_PI (hAd.put e_M516 g_a485 rfl)) (hAd.put e_M520 g_y rfl))
                        have m551 : PN M M520 y := (PN_ag hI.2.1 g_y (PN_ag hI.2.1 g_y PN_rf (hAd.put e_M516 g_a485 rfl)) (hAd.put e_M520 g_y rfl))
                        refine h_gov hI (by decide) (va_runV (As := []) (rest := []) ⟨hx, hb, hml, hown, hts⟩ (h_goOn_X9 l D g σ Z hZ0 M520 N R y g_y m550) (cwV 0 hts gX9_unit_X9_goOn rfl rfl rfl (by decide +kernel) ⟨Nat.le_of_ble_eq_true rfl, Nat.le_of_ble_eq_true rfl⟩) (h_preV hZ0 hK hE hI g_y (by decide) rfl) rfl rfl hl.1 rfl (lv_room (Nat.le_of_ble_eq_true rfl)) dX9_unit_211 ⟨Nat.le_of_ble_eq_true rfl, Nat.le_of_ble_eq_true rfl⟩) (fun M553 N554 R555 H locs q556 z_M553 hI => ?_)
                        obtain ⟨rfl, z557, z558, z559⟩ := q556
                        have ng9 : nu M553 y < nu M y := Int.lt_of_lt_of_le (GO_lt z559 (z_M553 y 9 3 g_y rfl) m550 (fun h9 => iv_ne i470 kc_0 (by decide) ((((e_v469).trans (u2_st (a := y) (k := 8) e_M516 (u2_a (so_ne g_y g_a485 (by decide)))).symm).trans (u2_st (a := y) (k := 8) e_M520 (u2_k (by decide))).symm).trans h9))) m551.2.2
                        refine lv_iload_n hx hb dX9_unit_214 rfl (lv_at hl 4 rfl) ?_
                        refine lv_if_ne (tgt := 222) hx hb dX9_unit_215 (by decide) (fun c560 => ?_) (fun c560 => ?_)
                        · refine lv_aload_n hx hb dX9_unit_222 rfl (lv_at hl 6 rfl) ?_
                          refine lv_iload_n hx hb dX9_unit_223 rfl (lv_at hl 4 rfl) ?_
                          refine lv_if_eq (tgt := 231) hx hb dX9_unit_224 (by decide) (fun c561 => ?_) (fun c561 => ?_)
                          · exact absurd c561 (iv_ne kc_1 kc_0 (by decide))
                          · refine lv_iconst (v := 3) hx hb dX9_unit_227 (by decide) ?_
                            refine lv_goto (tgt := 233) hx hb dX9_unit_228 (by decide) ?_
                            refine lv_bipush (v := 126) hx hb dX9_unit_233 (by decide) ?_
                            refine h_gov hI (by decide) (va_runV (As := [.int (3 : Int32), .int (126 : Int32)]) (rest := []) ⟨hx, hb, hml, hown, hts⟩ (h_pushE_X9 l D g σ Z hZ0 M553 N554 R y g_y (3 : Int32) (126 : Int32) (by rw [((z_M553 y 9 39 g_y rfl).trans ((u2_st (a := y) (k := 39) e_M520 (u2_k (by decide))).trans (u2_st (a := y) (k := 39) e_M516 (u2_a (so_ne g_y g_a485 (by decide))))))]; exact iv_w (EX1_p m0_EX1 rfl) (by decide) (by decide))) (cwV 2 hts gX9_unit_X9_pushE rfl rfl rfl (by decide +kernel) ⟨Nat.le_of_ble_eq_true rfl, Nat.le_of_ble_eq_true rfl⟩) (h_preV hZ0 hK hE hI g_y (by decide) rfl) rfl rfl hl.1 rfl (lv_room (Nat.le_of_ble_eq_true rfl)) dX9_unit_235 ⟨Nat.le_of_ble_eq_true rfl, Nat.le_of_ble_eq_true rfl⟩) (fun M563 N564 R565 H locs q566 z_M563 hI => ?_)
                            obtain ⟨rfl, rfl, z567⟩ := q566
                            refine lv_aload_n hx hb dX9_unit_238 rfl (lv_at hl 6 rfl) ?_
                            refine lv_dup hx hb dX9_unit_239 rfl ?_
                            refine h_geti (lo := (-2147483648)) (hi := 2147483647) hx hb hts iX9_unit_X9 hown hK hI g_y (by decide) rfl rfl 38 (by decide) rfl rfl (hts (.fieldLink RX9 330 "CatLeasesModel" "within" "I") (List.mem_of_getElem? (i := 8) rfl)) (fun _ h9 => h9) dX9_unit_240 (fun v568 e_v568 i_v568 => ?_)
                            have q569 : v492 = v568 := (((((e_v492).trans (u2_st (a := y) (k := 38) e_M516 (u2_a (so_ne g_y g_a485 (by decide)))).symm).trans (u2_st (a := y) (k := 38) e_M520 (u2_k (by decide))).symm).trans (z_M553 y 9 38 g_y rfl).symm).trans (z_M563 y 9 38 g_y rfl).symm).trans e_v568.symm
                            subst q569
                            refine lv_iconst (v := 1) hx hb dX9_unit_243 (by decide) ?_
                            refine lv_iadd hx hb dX9_unit_244 ?_
                            refine h_nm (lo := 1) (hi := 7) (iv_add i495 kc_1 (by decide) (by decide) (by decide) (by decide)) (fun v570 e_v570 i_v570 => ?_)
                            refine h_puti hx hb hts iX9_unit_X9 tyX9 tyX9_ok nmX9 hown hK hI g_y (by decide) rfl rfl 38 (by decide) rfl (hts (.fieldLink RX9 330 "CatLeasesModel" "within" "I") (List.mem_of_getElem? (i := 8) rfl)) (fun _ h9 => h9) rfl .int (by decide +kernel) rfl rfl (iv_w (lo' := (-2147483648)) (hi' := 2147483647) i_v570 (by decide) (by decide)) rfl dX9_unit_245 (fun M571 H locs e_M571 hI => ?_)
                            refine lv_iconst (v := 1) hx hb dX9_unit_248 (by decide) ?_
                            have m572 : PI M571 y := (PI_ag hI.2.1 g_y (PI_ag hI.2.1 g_y z557 (hAd.ag z_M563 (by decide))) (hAd.put e_M571 g_y rfl))
                            have m573 : PN M M571 y := (PN_ag hI.2.1 g_y (PN_ag hI.2.1 g_y (PN_tr m551 z558) (hAd.ag z_M563 (by decide))) (hAd.put e_M571 g_y rfl))
                            have m574 : PC M M571 R y := (PC_ag hI.2.1 g_y (PC_ag hI.2.1 g_y (PC_ag hI.2.1 g_y (PC_ag hI.2.1 g_y (PC_ag hI.2.1 g_y PC_rf (hAd.put e_M516 g_a485 rfl)) (hAd.put e_M520 g_y rfl)) (hAd.ag z_M553 (by decide))) (hAd.ag z_M563 (by decide))) (hAd.put e_M571 g_y rfl))
                            exact h_iret hQ hx hb hr hlocks rfl hK hI ⟨rfl, (iv_w (lo' := 0) (hi' := 1) kc_1 (by decide) (by decide)), m572, m573, m574, (fun _ => ⟨fun h9 => absurd h9 (by decide), fun _ => (EX1_push (q := (3 : Int32)) (t := 0) m0_EX1 ((u2_st (a := y) (k := 36) e_M571 (u2_k (by decide))).trans ((z_M563 y 9 36 g_y rfl).trans ((z_M553 y 9 36 g_y rfl).trans ((u2_st (a := y) (k := 36) e_M520 (u2_k (by decide))).trans (u2_st (a := y) (k := 36) e_M516 (u2_a (so_ne g_y g_a485 (by decide)))))))) ((u2_st (a := y) (k := 37) e_M571 (u2_k (by decide))).trans ((z_M563 y 9 37 g_y rfl).trans ((z_M553 y 9 37 g_y rfl).trans ((u2_st (a := y) (k := 37) e_M520 (u2_k (by decide))).trans (u2_st (a := y) (k := 37) e_M516 (u2_a (so_ne g_y g_a485 (by decide)))))))) ((u2_row e_M571 (so_ne (hI.2.1.r1 g_y 30 130 (by decide) rfl) g_y (by decide))).trans ((hAg.row z_M563 (hI.2.1.r1 g_y 30 130 (by decide) rfl) (fun _ => rfl)).trans ((hAg.row z_M553 (hI.2.1.r1 g_y 30 130 (by decide) rfl) (fun _ => rfl)).trans ((u2_row e_M520 (so_ne (hI.2.1.r1 g_y 30 130 (by decide) rfl) g_y (by decide))).trans (u2_row e_M516 (so_ne (hI.2.1.r1 g_y 30 130 (by decide) rfl) g_a485 (by decide))))))) (by rw [← ((u2_wr e_M571)), ← (e_v492)]; exact (h_inc e_v570 i495 kc_1 (by decide) (by decide))) (by rw [← (((((u2_wr e_M520)).trans (z_M553 y 9 40 g_y rfl).symm).trans (z_M563 y 9 40 g_y rfl).symm).trans (u2_st (a := y) (k := 40) e_M571 (u2_k (by decide))).symm), ← (e_v508)]; omega) (by rw [(u2_st (a := y) (k := 39) e_M571 (u2_k (by decide))), z567.1, ((z_M553 y 9 39 g_y rfl).trans ((u2_st (a := y) (k := 39) e_M520 (u2_k (by decide))).trans (u2_st (a := y) (k := 39) e_M516 (u2_a (so_ne g_y g_a485 (by decide))))))]) (fun j => by rw [(u2_row e_M571 (so_ne (hI.2.1.r1 g_y 32 132 (by decide) rfl) g_y (by decide))), z567.2.1 j, ((hAg.row z_M553 (hI.2.1.r1 g_y 32 132 (by decide) rfl) (fun _ => rfl)).trans ((u2_row e_M520 (so_ne (hI.2.1.r1 g_y 32 132 (by decide) rfl) g_y (by decide))).trans (u2_row e_M516 (so_ne (hI.2.1.r1 g_y 32 132 (by decide) rfl) g_a485 (by decide))))), ((z_M553 y 9 39 g_y rfl).trans ((u2_st (a := y) (k := 39) e_M520 (u2_k (by decide))).trans (u2_st (a := y) (k := 39) e_M516 (u2_a (so_ne g_y g_a485 (by decide))))))]) (fun j => by rw [(u2_row e_M571 (so_ne (hI.2.1.r1 g_y 33 133 (by decide) rfl) g_y (by decide))), z567.2.2 j, ((hAg.row z_M553 (hI.2.1.r1 g_y 33 133 (by decide) rfl) (fun _ => rfl)).trans ((u2_row e_M520 (so_ne (hI.2.1.r1 g_y 33 133 (by decide) rfl) g_y (by decide))).trans (u2_row e_M516 (so_ne (hI.2.1.r1 g_y 33 133 (by decide) rfl) g_a485 (by decide))))), ((z_M553 y 9 39 g_y rfl).trans ((u2_st (a := y) (k := 39) e_M520 (u2_k (by decide))).trans (u2_st (a := y) (k := 39) e_M516 (u2_a (so_ne g_y g_a485 (by decide))))))]) (Or.inl ⟨rfl, rfl⟩) (by have h9 := i495; rw [← (e_v492)]; simp only [iv] at h9; omega) (by have h9 := i_v508; rw [← (e_v508)]; simp only [iv] at h9; omega))⟩), (gm_lt hg9 m0_PI i39 (fun _ => by have h9 := nu_eq (M1 := M571) (M := M553) (y := y) ((u2_st (a := y) (k := 3) e_M571 (u2_k (by decide))).trans (z_M563 y 9 3 g_y rfl)) ((u2_st (a := y) (k := 7) e_M571 (u2_k (by decide))).trans (z_M563 y 9 7 g_y rfl)) ((u2_st (a := y) (k := 8) e_M571 (u2_k (by decide))).trans (z_M563 y 9 8 g_y rfl)); have h8 := ng9; have h7 := (by rw [(u2_st (a := y) (k := 39) e_M571 (u2_k (by decide))), z567.1, ((z_M553 y 9 39 g_y rfl).trans ((u2_st (a := y) (k := 39) e_M520 (u2_k (by decide))).trans (u2_st (a := y) (k := 39) e_M516 (u2_a (so_ne g_y g_a485 (by decide))))))] : (M571 y 39).toInt = (M y 39).toInt + 1); omega))⟩ dX9_unit_249
                        · exact absurd c560 (iv_ne kc_1 kc_0 (by decide))
                · obtain ⟨v575, e_v575⟩ : ∃ z : Int32, z = M y 4 := ⟨_, rfl⟩
                  have i_v575 : iv v575 0 5 := by rw [e_v575]; exact hI.iv1 (n := 67) g_y rfl (by decide) rfl
                  have i576 : iv v575 1 5 := iv_neL (fun h9 => z502 c503 (e_v575.symm.trans h9)) i_v575 (by decide) (by decide)
                  have i577 : iv r496 0 0 := iv_eq1 c503 i_r496 kc_0
                  refine lv_iconst (v := 1) hx hb dX9_unit_154 (by decide) ?_
                  exact h_iret hQ hx hb hr hlocks rfl hK hI ⟨rfl, (iv_w (lo' := 0) (hi' := 1) kc_1 (by decide) (by decide)), m0_PI, PN_rf, PC_rf, (fun h9 => gd_no (e_v575) i576 h9), (gm_lt hg9 m0_PI i39 (fun h9 => gd_no (e_v575) i576 h9))⟩ dX9_unit_155
              · have i578 : iv v492 7 7 := iv_eq1 c494 i493 kc_7
                refine lv_aload_n hx hb dX9_unit_143 rfl (lv_at hl 5 rfl) ?_
                refine h_gov hI (by decide) (va_runV (As := []) (rest := []) ⟨hx, hb, hml, hown, hts⟩ (h_misplaced_X9 l D g σ Z hZ0 M N R y g_y m0_PI) (cwV 0 hts gX9_unit_X9_misplaced rfl rfl rfl (by decide +kernel) ⟨Nat.le_of_ble_eq_true rfl, Nat.le_of_ble_eq_true rfl⟩) (h_preV hZ0 hK hE hI g_y (by decide) rfl) rfl rfl hl.1 rfl (lv_room (Nat.le_of_ble_eq_true rfl)) dX9_unit_144 ⟨Nat.le_of_ble_eq_true rfl, Nat.le_of_ble_eq_true rfl⟩) (fun M580 N581 R582 H locs q583 z_M580 hI => ?_)
                obtain ⟨rfl, rfl, m584, m585, z586⟩ := q583
                obtain ⟨v587, e_v587⟩ : ∃ z : Int32, z = M580 y 4 := ⟨_, rfl⟩
                have i_v587 : iv v587 1 5 := by rw [e_v587]; exact z586
                refine lv_aload_n hx hb dX9_unit_147 rfl (lv_at hl 5 rfl) ?_
                refine h_goi hI (by decide) (va_runV (As := []) (rest := []) ⟨hx, hb, hml, hown, hts⟩ (h_isGood_X9 l D g σ Z hZ0 M580 N R y g_y) (cwV 0 hts gX9_unit_X9_isGood rfl rfl rfl (by decide +kernel) ⟨Nat.le_of_ble_eq_true rfl, Nat.le_of_ble_eq_true rfl⟩) (h_preV hZ0 hK hE hI g_y (by decide) rfl) rfl rfl hl.1 rfl (lv_room (Nat.le_of_ble_eq_true rfl)) dX9_unit_148 ⟨Nat.le_of_ble_eq_true rfl, Nat.le_of_ble_eq_true rfl⟩) (fun r588 M589 N590 R591 H locs q592 z_M589 hI => ?_)
                obtain ⟨rfl, rfl, rfl, i_r588, z593, z594⟩ := q592
                refine lv_if_ne (tgt := 156) hx hb dX9_unit_151 (by decide) (fun c595 => ?_) (fun c595 => ?_)
                · exact absurd ((e_v587).trans (z593 c595)) (iv_ne i_v587 kc_0 (by decide))
                · have i596 : iv r588 0 0 := iv_eq1 c595 i_r588 kc_0
                  refine lv_iconst (v := 1) hx hb dX9_unit_154 (by decide) ?_
                  have m597 : PN M M580 y := (PN_tr PN_rf m585)
                  have m598 : PC M M580 R y := (PC_ag hI.2.1 g_y PC_rf (hAd.ag z_M580 (by decide)))
                  exact h_iret hQ hx hb hr hlocks rfl hK hI ⟨rfl, (iv_w (lo' := 0) (hi' := 1) kc_1 (by decide) (by decide)), m584, m597, m598, (fun h9 => gd_no (e_v587) i_v587 h9), (gm_lt hg9 m0_PI i39 (fun h9 => gd_no (e_v587) i_v587 h9))⟩ dX9_unit_155
            · exact absurd c491 (iv_ne kc_1 kc_0 (by decide))
          · exact absurd c490 (iv_ne kc_1 kc_0 (by decide))
        · refine lv_aload_n hx hb dX9_unit_84 rfl (lv_at hl 4 rfl) ?_
          refine h_geti (lo := 0) (hi := 30) hx hb hts iX9_unit_X9 hown hK hI g_y (by decide) rfl rfl 40 (by decide) rfl rfl (hts (.fieldLink RX9 321 "CatLeasesModel" "unitsInRule" "I") (List.mem_of_getElem? (i := 6) rfl)) (fun _ h9 => h9) dX9_unit_85 (fun v599 e_v599 i_v599 => ?_)
          refine lv_bipush (v := 30) hx hb dX9_unit_88 (by decide) ?_
          refine lv_icmp_ne (tgt := 97) hx hb dX9_unit_90 (by decide) (fun c600 => ?_) (fun c600 => ?_)
          · have i601 : iv v599 0 29 := iv_neH c600 i_v599 (by decide) (by decide)
            refine lv_iconst (v := 0) hx hb dX9_unit_97 (by decide) ?_
            refine lv_istore (lv' := [(5, .int (0 : Int32)), (4, .int r479), (3, .int r472), (2, .int (1 : Int32)), (1, .int t0_36), (0, .ref y)]) hx hb dX9_unit_98 hl (by decide) rfl (fun ls hl => ?_)
            refine lv_iload_n hx hb dX9_unit_100 rfl (lv_at hl 3 rfl) ?_
            refine lv_if_ne (tgt := 126) hx hb dX9_unit_101 (by decide) (fun c602 => ?_) (fun c602 => ?_)
            · refine lv_iload_n hx hb dX9_unit_126 rfl (lv_at hl 3 rfl) ?_
              refine lv_if_ne (tgt := 134) hx hb dX9_unit_127 (by decide) (fun c603 => ?_) (fun c603 => ?_)
              · refine lv_aload_n hx hb dX9_unit_134 rfl (lv_at hl 5 rfl) ?_
                refine h_geti (lo := (-2147483648)) (hi := 2147483647) hx hb hts iX9_unit_X9 hown hK hI g_y (by decide) rfl rfl 38 (by decide) rfl rfl (hts (.fieldLink RX9 330 "CatLeasesModel" "within" "I") (List.mem_of_getElem? (i := 8) rfl)) (fun _ h9 => h9) dX9_unit_135 (fun v604 e_v604 i_v604 => ?_)
                have i605 : iv v604 0 7 := EX1_w m0_EX1 e_v604
                refine lv_bipush (v := 7) hx hb dX9_unit_138 (by decide) ?_
                refine lv_icmp_ne (tgt := 147) hx hb dX9_unit_140 (by decide) (fun c606 => ?_) (fun c606 => ?_)
                · have i607 : iv v604 0 6 := iv_neH c606 i605 (by decide) (by decide)
                  refine lv_aload_n hx hb dX9_unit_147 rfl (lv_at hl 5 rfl) ?_
                  refine h_goi hI (by decide) (va_runV (As := []) (rest := []) ⟨hx, hb, hml, hown, hts⟩ (h_isGood_X9 l D g σ Z hZ0 M N R y g_y) (cwV 0 hts gX9_unit_X9_isGood rfl rfl rfl (by decide +kernel) ⟨Nat.le_of_ble_eq_true rfl, Nat.le_of_ble_eq_true rfl⟩) (h_preV hZ0 hK hE hI g_y (by decide) rfl) rfl rfl hl.1 rfl (lv_room (Nat.le_of_ble_eq_true rfl)) dX9_unit_148 ⟨Nat.le_of_ble_eq_true rfl, Nat.le_of_ble_eq_true rfl⟩) (fun r608 M609 N610 R611 H locs q612 z_M609 hI => ?_)
                  obtain ⟨rfl, rfl, rfl, i_r608, z613, z614⟩ := q612
                  refine lv_if_ne (tgt := 156) hx hb dX9_unit_151 (by decide) (fun c615 => ?_) (fun c615 => ?_)
                  · obtain ⟨v616, e_v616⟩ : ∃ z : Int32, z = M y 4 := ⟨_, rfl⟩
                    have i_v616 : iv v616 0 5 := by rw [e_v616]; exact hI.iv1 (n := 67) g_y rfl (by decide) rfl
                    have i617 : iv v616 0 0 := by rw [e_v616, z613 c615]; exact kc_0
                    have i618 : iv r608 1 1 := iv_neL c615 i_r608 (by decide) (by decide)
                    obtain ⟨v619, e_v619⟩ : ∃ z : Int32, z = M y 37 := ⟨_, rfl⟩
                    have i_v619 : iv v619 0 1120 := by rw [e_v619]; exact hI.iv1 (n := 67) g_y rfl (by decide) rfl
                    refine lv_aload_n hx hb dX9_unit_156 rfl (lv_at hl 5 rfl) ?_
                    refine h_getr hx hb hts iX9_unit_X9 hown hK hI g_y (by decide) rfl rfl 14 (by decide) rfl 114 rfl (hts (.fieldLink RX9 30 "CatLeasesModel" "units" "[I") (List.mem_of_getElem? (i := 4) rfl)) (fun _ h9 => h9) dX9_unit_157 (fun a620 e_a620 g_a620 => ?_)
                    have q621 : a485 = a620 := (e_a485).trans e_a620.symm
                    subst q621
                    refine lv_aload_n hx hb dX9_unit_160 rfl (lv_at hl 5 rfl) ?_
                    refine h_geti (lo := 0) (hi := 1) hx hb hts iX9_unit_X9 hown hK hI g_y (by decide) rfl rfl 36 (by decide) rfl rfl (hts (.fieldLink RX9 259 "CatLeasesModel" "rb" "I") (List.mem_of_getElem? (i := 5) rfl)) (fun _ h9 => h9) dX9_unit_161 (fun v622 e_v622 i_v622 => ?_)
                    have q623 : v486 = v622 := (e_v486).trans e_v622.symm
                    subst q623
                    refine lv_dup2_11 hx hb dX9_unit_164 rfl rfl ?_
                    refine h_iald (j := v486.toNatClampNeg) (lo := (-2147483648)) (hi := 2147483647) hx hb hK hI g_a485 (by decide) rfl (iv_in (n := 2) i_v486 (by decide) (by decide)) rfl (iv_any _) dX9_unit_165 (fun v624 e_v624 i_v624 => ?_)
                    have q625 : v487 = v624 := (e_v487).trans e_v624.symm
                    subst q625
                    refine lv_iload_n hx hb dX9_unit_166 rfl (lv_at hl 3 rfl) ?_
                    refine lv_if_eq (tgt := 174) hx hb dX9_unit_167 (by decide) (fun c626 => ?_) (fun c626 => ?_)
                    · exact absurd c626 (iv_ne kc_1 kc_0 (by decide))
                    · refine lv_iconst (v := 0) hx hb dX9_unit_170 (by decide) ?_
                      refine lv_goto (tgt := 175) hx hb dX9_unit_171 (by decide) ?_
                      refine lv_iadd hx hb dX9_unit_175 ?_
                      refine k_top (v := v487) (Int32.add_zero _) ?_
                      refine h_iast (j := v486.toNatClampNeg) hx hb hK hI g_a485 (by decide) rfl (iv_in (n := 2) i_v486 (by decide) (by decide)) rfl (iv_any _) rfl dX9_unit_176 (fun M627 H locs e_M627 hI => ?_)
                      refine lv_aload_n hx hb dX9_unit_177 rfl (lv_at hl 5 rfl) ?_
                      refine lv_dup hx hb dX9_unit_178 rfl ?_
                      refine h_geti (lo := 0) (hi := 30) hx hb hts iX9_unit_X9 hown hK hI g_y (by decide) rfl rfl 40 (by decide) rfl rfl (hts (.fieldLink RX9 321 "CatLeasesModel" "unitsInRule" "I") (List.mem_of_getElem? (i := 6) rfl)) (fun _ h9 => h9) dX9_unit_179 (fun v628 e_v628 i_v628 => ?_)
                      have q629 : v599 = v628 := ((e_v599).trans (u2_st (a := y) (k := 40) e_M627 (u2_a (so_ne g_y g_a485 (by decide)))).symm).trans e_v628.symm
                      subst q629
                      refine lv_iload_n hx hb dX9_unit_182 rfl (lv_at hl 3 rfl) ?_
                      refine lv_if_eq (tgt := 190) hx hb dX9_unit_183 (by decide) (fun c630 => ?_) (fun c630 => ?_)
                      · exact absurd c630 (iv_ne kc_1 kc_0 (by decide))
                      · refine lv_iconst (v := 0) hx hb dX9_unit_186 (by decide) ?_
                        refine lv_goto (tgt := 191) hx hb dX9_unit_187 (by decide) ?_
                        refine lv_iadd hx hb dX9_unit_191 ?_
                        refine k_top (v := v599) (Int32.add_zero _) ?_
                        refine h_puti hx hb hts iX9_unit_X9 tyX9 tyX9_ok nmX9 hown hK hI g_y (by decide) rfl rfl 40 (by decide) rfl (hts (.fieldLink RX9 321 "CatLeasesModel" "unitsInRule" "I") (List.mem_of_getElem? (i := 6) rfl)) (fun _ h9 => h9) rfl .int (by decide +kernel) rfl rfl (iv_w (lo' := 0) (hi' := 30) i601 (by decide) (by decide)) rfl dX9_unit_192 (fun M631 H locs e_M631 hI => ?_)
                        refine lv_iload hx hb dX9_unit_195 (lv_at hl 1 rfl) ?_
                        refine lv_if_ne (tgt := 207) hx hb dX9_unit_197 (by decide) (fun c632 => ?_) (fun c632 => ?_)
                        · have i633 : iv r479 1 119 := iv_neL c632 i_r479 (by decide) (by decide)
                          refine lv_iconst (v := 0) hx hb dX9_unit_207 (by decide) ?_
                          refine lv_istore (lv' := [(6, .int (0 : Int32)), (5, .int (0 : Int32)), (4, .int r479), (3, .int r472), (2, .int (1 : Int32)), (1, .int t0_36), (0, .ref y)]) hx hb dX9_unit_208 hl (by decide) rfl (fun ls hl => ?_)
                          refine lv_aload_n hx hb dX9_unit_210 rfl (lv_at hl 6 rfl) ?_
                          have m634 : PI M631 y := (PI_ag hI.2.1 g_y (PI_ag hI.2.1 g_y m0_PI (hAd.put e_M627 g_a485 rfl)) (hAd.put e_M631 g_y rfl))
                          have m635 : PN M M631 y := (PN_ag hI.2.1 g_y (PN_ag hI.2.1 g_y PN_rf (hAd.put e_M627 g_a485 rfl)) (hAd.put e_M631 g_y rfl))
                          refine h_gov hI (by decide) (va_runV (As := []) (rest := []) ⟨hx, hb, hml, hown, hts⟩ (h_goOn_X9 l D g σ Z hZ0 M631 N R y g_y m634) (cwV 0 hts gX9_unit_X9_goOn rfl rfl rfl (by decide +kernel) ⟨Nat.le_of_ble_eq_true rfl, Nat.le_of_ble_eq_true rfl⟩) (h_preV hZ0 hK hE hI g_y (by decide) rfl) rfl rfl hl.1 rfl (lv_room (Nat.le_of_ble_eq_true rfl)) dX9_unit_211 ⟨Nat.le_of_ble_eq_true rfl, Nat.le_of_ble_eq_true rfl⟩) (fun M637 N638 R639 H locs q640 z_M637 hI => ?_)
                          obtain ⟨rfl, z641, z642, z643⟩ := q640
                          have ng9 : nu M637 y < nu M y := Int.lt_of_lt_of_le (GO_lt z643 (z_M637 y 9 3 g_y rfl) m634 (fun h9 => iv_ne i470 kc_0 (by decide) ((((e_v469).trans (u2_st (a := y) (k := 8) e_M627 (u2_a (so_ne g_y g_a485 (by decide)))).symm).trans (u2_st (a := y) (k := 8) e_M631 (u2_k (by decide))).symm).trans h9))) m635.2.2
                          refine lv_iload_n hx hb dX9_unit_214 rfl (lv_at hl 4 rfl) ?_
                          refine lv_if_ne (tgt := 222) hx hb dX9_unit_215 (by decide) (fun c644 => ?_) (fun c644 => ?_)
                          · refine lv_aload_n hx hb dX9_unit_222 rfl (lv_at hl 6 rfl) ?_
                            refine lv_iload_n hx hb dX9_unit_223 rfl (lv_at hl 4 rfl) ?_
                            refine lv_if_eq (tgt := 231) hx hb dX9_unit_224 (by decide) (fun c645 => ?_) (fun c645 => ?_)
                            · exact absurd c645 (iv_ne kc_1 kc_0 (by decide))
                            · refine lv_iconst (v := 3) hx hb dX9_unit_227 (by decide) ?_
                              refine lv_goto (tgt := 233) hx hb dX9_unit_228 (by decide) ?_
                              refine lv_bipush (v := 126) hx hb dX9_unit_233 (by decide) ?_
                              refine h_gov hI (by decide) (va_runV (As := [.int (3 : Int32), .int (126 : Int32)]) (rest := []) ⟨hx, hb, hml, hown, hts⟩ (h_pushE_X9 l D g σ Z hZ0 M637 N638 R y g_y (3 : Int32) (126 : Int32) (by rw [((z_M637 y 9 39 g_y rfl).trans ((u2_st (a := y) (k := 39) e_M631 (u2_k (by decide))).trans (u2_st (a := y) (k := 39) e_M627 (u2_a (so_ne g_y g_a485 (by decide))))))]; exact iv_w (EX1_p m0_EX1 rfl) (by decide) (by decide))) (cwV 2 hts gX9_unit_X9_pushE rfl rfl rfl (by decide +kernel) ⟨Nat.le_of_ble_eq_true rfl, Nat.le_of_ble_eq_true rfl⟩) (h_preV hZ0 hK hE hI g_y (by decide) rfl) rfl rfl hl.1 rfl (lv_room (Nat.le_of_ble_eq_true rfl)) dX9_unit_235 ⟨Nat.le_of_ble_eq_true rfl, Nat.le_of_ble_eq_true rfl⟩) (fun M647 N648 R649 H locs q650 z_M647 hI => ?_)
                              obtain ⟨rfl, rfl, z651⟩ := q650
                              refine lv_aload_n hx hb dX9_unit_238 rfl (lv_at hl 6 rfl) ?_
                              refine lv_dup hx hb dX9_unit_239 rfl ?_
                              refine h_geti (lo := (-2147483648)) (hi := 2147483647) hx hb hts iX9_unit_X9 hown hK hI g_y (by decide) rfl rfl 38 (by decide) rfl rfl (hts (.fieldLink RX9 330 "CatLeasesModel" "within" "I") (List.mem_of_getElem? (i := 8) rfl)) (fun _ h9 => h9) dX9_unit_240 (fun v652 e_v652 i_v652 => ?_)
                              have q653 : v604 = v652 := (((((e_v604).trans (u2_st (a := y) (k := 38) e_M627 (u2_a (so_ne g_y g_a485 (by decide)))).symm).trans (u2_st (a := y) (k := 38) e_M631 (u2_k (by decide))).symm).trans (z_M637 y 9 38 g_y rfl).symm).trans (z_M647 y 9 38 g_y rfl).symm).trans e_v652.symm
                              subst q653
                              refine lv_iconst (v := 1) hx hb dX9_unit_243 (by decide) ?_
                              refine lv_iadd hx hb dX9_unit_244 ?_
                              refine h_nm (lo := 1) (hi := 7) (iv_add i607 kc_1 (by decide) (by decide) (by decide) (by decide)) (fun v654 e_v654 i_v654 => ?_)
                              refine h_puti hx hb hts iX9_unit_X9 tyX9 tyX9_ok nmX9 hown hK hI g_y (by decide) rfl rfl 38 (by decide) rfl (hts (.fieldLink RX9 330 "CatLeasesModel" "within" "I") (List.mem_of_getElem? (i := 8) rfl)) (fun _ h9 => h9) rfl .int (by decide +kernel) rfl rfl (iv_w (lo' := (-2147483648)) (hi' := 2147483647) i_v654 (by decide) (by decide)) rfl dX9_unit_245 (fun M655 H locs e_M655 hI => ?_)
                              refine lv_iconst (v := 1) hx hb dX9_unit_248 (by decide) ?_
                              have m656 : PI M655 y := (PI_ag hI.2.1 g_y (PI_ag hI.2.1 g_y z641 (hAd.ag z_M647 (by decide))) (hAd.put e_M655 g_y rfl))
                              have m657 : PN M M655 y := (PN_ag hI.2.1 g_y (PN_ag hI.2.1 g_y (PN_tr m635 z642) (hAd.ag z_M647 (by decide))) (hAd.put e_M655 g_y rfl))
                              have m658 : PC M M655 R y := (PC_ag hI.2.1 g_y (PC_ag hI.2.1 g_y (PC_ag hI.2.1 g_y (PC_ag hI.2.1 g_y (PC_ag hI.2.1 g_y PC_rf (hAd.put e_M627 g_a485 rfl)) (hAd.put e_M631 g_y rfl)) (hAd.ag z_M637 (by decide))) (hAd.ag z_M647 (by decide))) (hAd.put e_M655 g_y rfl))
                              exact h_iret hQ hx hb hr hlocks rfl hK hI ⟨rfl, (iv_w (lo' := 0) (hi' := 1) kc_1 (by decide) (by decide)), m656, m657, m658, (fun _ => ⟨fun h9 => absurd h9 (by decide), fun _ => (EX1_push (q := (3 : Int32)) (t := 0) m0_EX1 ((u2_st (a := y) (k := 36) e_M655 (u2_k (by decide))).trans ((z_M647 y 9 36 g_y rfl).trans ((z_M637 y 9 36 g_y rfl).trans ((u2_st (a := y) (k := 36) e_M631 (u2_k (by decide))).trans (u2_st (a := y) (k := 36) e_M627 (u2_a (so_ne g_y g_a485 (by decide)))))))) ((u2_st (a := y) (k := 37) e_M655 (u2_k (by decide))).trans ((z_M647 y 9 37 g_y rfl).trans ((z_M637 y 9 37 g_y rfl).trans ((u2_st (a := y) (k := 37) e_M631 (u2_k (by decide))).trans (u2_st (a := y) (k := 37) e_M627 (u2_a (so_ne g_y g_a485 (by decide)))))))) ((u2_row e_M655 (so_ne (hI.2.1.r1 g_y 30 130 (by decide) rfl) g_y (by decide))).trans ((hAg.row z_M647 (hI.2.1.r1 g_y 30 130 (by decide) rfl) (fun _ => rfl)).trans ((hAg.row z_M637 (hI.2.1.r1 g_y 30 130 (by decide) rfl) (fun _ => rfl)).trans ((u2_row e_M631 (so_ne (hI.2.1.r1 g_y 30 130 (by decide) rfl) g_y (by decide))).trans (u2_row e_M627 (so_ne (hI.2.1.r1 g_y 30 130 (by decide) rfl) g_a485 (by decide))))))) (by rw [← ((u2_wr e_M655)), ← (e_v604)]; exact (h_inc e_v654 i607 kc_1 (by decide) (by decide))) (by rw [← (((((u2_wr e_M631)).trans (z_M637 y 9 40 g_y rfl).symm).trans (z_M647 y 9 40 g_y rfl).symm).trans (u2_st (a := y) (k := 40) e_M655 (u2_k (by decide))).symm), ← (e_v599)]; omega) (by rw [(u2_st (a := y) (k := 39) e_M655 (u2_k (by decide))), z651.1, ((z_M637 y 9 39 g_y rfl).trans ((u2_st (a := y) (k := 39) e_M631 (u2_k (by decide))).trans (u2_st (a := y) (k := 39) e_M627 (u2_a (so_ne g_y g_a485 (by decide))))))]) (fun j => by rw [(u2_row e_M655 (so_ne (hI.2.1.r1 g_y 32 132 (by decide) rfl) g_y (by decide))), z651.2.1 j, ((hAg.row z_M637 (hI.2.1.r1 g_y 32 132 (by decide) rfl) (fun _ => rfl)).trans ((u2_row e_M631 (so_ne (hI.2.1.r1 g_y 32 132 (by decide) rfl) g_y (by decide))).trans (u2_row e_M627 (so_ne (hI.2.1.r1 g_y 32 132 (by decide) rfl) g_a485 (by decide))))), ((z_M637 y 9 39 g_y rfl).trans ((u2_st (a := y) (k := 39) e_M631 (u2_k (by decide))).trans (u2_st (a := y) (k := 39) e_M627 (u2_a (so_ne g_y g_a485 (by decide))))))]) (fun j => by rw [(u2_row e_M655 (so_ne (hI.2.1.r1 g_y 33 133 (by decide) rfl) g_y (by decide))), z651.2.2 j, ((hAg.row z_M637 (hI.2.1.r1 g_y 33 133 (by decide) rfl) (fun _ => rfl)).trans ((u2_row e_M631 (so_ne (hI.2.1.r1 g_y 33 133 (by decide) rfl) g_y (by decide))).trans (u2_row e_M627 (so_ne (hI.2.1.r1 g_y 33 133 (by decide) rfl) g_a485 (by decide))))), ((z_M637 y 9 39 g_y rfl).trans ((u2_st (a := y) (k := 39) e_M631 (u2_k (by decide))).trans (u2_st (a := y) (k := 39) e_M627 (u2_a (so_ne g_y g_a485 (by decide))))))]) (Or.inl ⟨rfl, rfl⟩) (by have h9 := i607; rw [← (e_v604)]; simp only [iv] at h9; omega) (by have h9 := i601; rw [← (e_v599)]; simp only [iv] at h9; omega))⟩), (gm_lt hg9 m0_PI i39 (fun _ => by have h9 := nu_eq (M1 := M655) (M := M637) (y := y) ((u2_st (a := y) (k := 3) e_M655 (u2_k (by decide))).trans (z_M647 y 9 3 g_y rfl)) ((u2_st (a := y) (k := 7) e_M655 (u2_k (by decide))).trans (z_M647 y 9 7 g_y rfl)) ((u2_st (a := y) (k := 8) e_M655 (u2_k (by decide))).trans (z_M647 y 9 8 g_y rfl)); have h8 := ng9; have h7 := (by rw [(u2_st (a := y) (k := 39) e_M655 (u2_k (by decide))), z651.1, ((z_M637 y 9 39 g_y rfl).trans ((u2_st (a := y) (k := 39) e_M631 (u2_k (by decide))).trans (u2_st (a := y) (k := 39) e_M627 (u2_a (so_ne g_y g_a485 (by decide))))))] : (M655 y 39).toInt = (M y 39).toInt + 1); omega))⟩ dX9_unit_249
                          · exact absurd c644 (iv_ne kc_1 kc_0 (by decide))
                        · have i659 : iv r479 0 0 := iv_eq1 c632 i_r479 kc_0
                          refine lv_aload_n hx hb dX9_unit_200 rfl (lv_at hl 5 rfl) ?_
                          refine h_geti (lo := (-2147483648)) (hi := 2147483647) hx hb hts iX9_unit_X9 hown hK hI g_y (by decide) rfl rfl 9 (by decide) rfl rfl (hts (.fieldLink RX9 224 "CatLeasesModel" "number" "I") (List.mem_of_getElem? (i := 9) rfl)) (fun _ h9 => h9) dX9_unit_201 (fun v660 e_v660 i_v660 => ?_)
                          refine lv_goto (tgt := 208) hx hb dX9_unit_204 (by decide) ?_
                          refine lv_istore (lv' := [(6, .int v660), (5, .int (0 : Int32)), (4, .int r479), (3, .int r472), (2, .int (1 : Int32)), (1, .int t0_36), (0, .ref y)]) hx hb dX9_unit_208 hl (by decide) rfl (fun ls hl => ?_)
                          refine lv_aload_n hx hb dX9_unit_210 rfl (lv_at hl 6 rfl) ?_
                          have m661 : PI M631 y := (PI_ag hI.2.1 g_y (PI_ag hI.2.1 g_y m0_PI (hAd.put e_M627 g_a485 rfl)) (hAd.put e_M631 g_y rfl))
                          have m662 : PN M M631 y := (PN_ag hI.2.1 g_y (PN_ag hI.2.1 g_y PN_rf (hAd.put e_M627 g_a485 rfl)) (hAd.put e_M631 g_y rfl))
                          refine h_gov hI (by decide) (va_runV (As := []) (rest := []) ⟨hx, hb, hml, hown, hts⟩ (h_goOn_X9 l D g σ Z hZ0 M631 N R y g_y m661) (cwV 0 hts gX9_unit_X9_goOn rfl rfl rfl (by decide +kernel) ⟨Nat.le_of_ble_eq_true rfl, Nat.le_of_ble_eq_true rfl⟩) (h_preV hZ0 hK hE hI g_y (by decide) rfl) rfl rfl hl.1 rfl (lv_room (Nat.le_of_ble_eq_true rfl)) dX9_unit_211 ⟨Nat.le_of_ble_eq_true rfl, Nat.le_of_ble_eq_true rfl⟩) (fun M664 N665 R666 H locs q667 z_M664 hI => ?_)
                          obtain ⟨rfl, z668, z669, z670⟩ := q667
                          have ng9 : nu M664 y < nu M y := Int.lt_of_lt_of_le (GO_lt z670 (z_M664 y 9 3 g_y rfl) m661 (fun h9 => iv_ne i470 kc_0 (by decide) ((((e_v469).trans (u2_st (a := y) (k := 8) e_M627 (u2_a (so_ne g_y g_a485 (by decide)))).symm).trans (u2_st (a := y) (k := 8) e_M631 (u2_k (by decide))).symm).trans h9))) m662.2.2
                          refine lv_iload_n hx hb dX9_unit_214 rfl (lv_at hl 4 rfl) ?_
                          refine lv_if_ne (tgt := 222) hx hb dX9_unit_215 (by decide) (fun c671 => ?_) (fun c671 => ?_)
                          · refine lv_aload_n hx hb dX9_unit_222 rfl (lv_at hl 6 rfl) ?_
                            refine lv_iload_n hx hb dX9_unit_223 rfl (lv_at hl 4 rfl) ?_
                            refine lv_if_eq (tgt := 231) hx hb dX9_unit_224 (by decide) (fun c672 => ?_) (fun c672 => ?_)
                            · exact absurd c672 (iv_ne kc_1 kc_0 (by decide))
                            · refine lv_iconst (v := 3) hx hb dX9_unit_227 (by decide) ?_
                              refine lv_goto (tgt := 233) hx hb dX9_unit_228 (by decide) ?_
                              refine lv_bipush (v := 126) hx hb dX9_unit_233 (by decide) ?_
                              refine h_gov hI (by decide) (va_runV (As := [.int (3 : Int32), .int (126 : Int32)]) (rest := []) ⟨hx, hb, hml, hown, hts⟩ (h_pushE_X9 l D g σ Z hZ0 M664 N665 R y g_y (3 : Int32) (126 : Int32) (by rw [((z_M664 y 9 39 g_y rfl).trans ((u2_st (a := y) (k := 39) e_M631 (u2_k (by decide))).trans (u2_st (a := y) (k := 39) e_M627 (u2_a (so_ne g_y g_a485 (by decide))))))]; exact iv_w (EX1_p m0_EX1 rfl) (by decide) (by decide))) (cwV 2 hts gX9_unit_X9_pushE rfl rfl rfl (by decide +kernel) ⟨Nat.le_of_ble_eq_true rfl, Nat.le_of_ble_eq_true rfl⟩) (h_preV hZ0 hK hE hI g_y (by decide) rfl) rfl rfl hl.1 rfl (lv_room (Nat.le_of_ble_eq_true rfl)) dX9_unit_235 ⟨Nat.le_of_ble_eq_true rfl, Nat.le_of_ble_eq_true rfl⟩) (fun M674 N675 R676 H locs q677 z_M674 hI => ?_)
                              obtain ⟨rfl, rfl, z678⟩ := q677
                              refine lv_aload_n hx hb dX9_unit_238 rfl (lv_at hl 6 rfl) ?_
                              refine lv_dup hx hb dX9_unit_239 rfl ?_
                              refine h_geti (lo := (-2147483648)) (hi := 2147483647) hx hb hts iX9_unit_X9 hown hK hI g_y (by decide) rfl rfl 38 (by decide) rfl rfl (hts (.fieldLink RX9 330 "CatLeasesModel" "within" "I") (List.mem_of_getElem? (i := 8) rfl)) (fun _ h9 => h9) dX9_unit_240 (fun v679 e_v679 i_v679 => ?_)
                              have q680 : v604 = v679 := (((((e_v604).trans (u2_st (a := y) (k := 38) e_M627 (u2_a (so_ne g_y g_a485 (by decide)))).symm).trans (u2_st (a := y) (k := 38) e_M631 (u2_k (by decide))).symm).trans (z_M664 y 9 38 g_y rfl).symm).trans (z_M674 y 9 38 g_y rfl).symm).trans e_v679.symm
                              subst q680
                              refine lv_iconst (v := 1) hx hb dX9_unit_243 (by decide) ?_
                              refine lv_iadd hx hb dX9_unit_244 ?_
                              refine h_nm (lo := 1) (hi := 7) (iv_add i607 kc_1 (by decide) (by decide) (by decide) (by decide)) (fun v681 e_v681 i_v681 => ?_)
                              refine h_puti hx hb hts iX9_unit_X9 tyX9 tyX9_ok nmX9 hown hK hI g_y (by decide) rfl rfl 38 (by decide) rfl (hts (.fieldLink RX9 330 "CatLeasesModel" "within" "I") (List.mem_of_getElem? (i := 8) rfl)) (fun _ h9 => h9) rfl .int (by decide +kernel) rfl rfl (iv_w (lo' := (-2147483648)) (hi' := 2147483647) i_v681 (by decide) (by decide)) rfl dX9_unit_245 (fun M682 H locs e_M682 hI => ?_)
                              refine lv_iconst (v := 1) hx hb dX9_unit_248 (by decide) ?_
                              have m683 : PI M682 y := (PI_ag hI.2.1 g_y (PI_ag hI.2.1 g_y z668 (hAd.ag z_M674 (by decide))) (hAd.put e_M682 g_y rfl))
                              have m684 : PN M M682 y := (PN_ag hI.2.1 g_y (PN_ag hI.2.1 g_y (PN_tr m662 z669) (hAd.ag z_M674 (by decide))) (hAd.put e_M682 g_y rfl))
                              have m685 : PC M M682 R y := (PC_ag hI.2.1 g_y (PC_ag hI.2.1 g_y (PC_ag hI.2.1 g_y (PC_ag hI.2.1 g_y (PC_ag hI.2.1 g_y PC_rf (hAd.put e_M627 g_a485 rfl)) (hAd.put e_M631 g_y rfl)) (hAd.ag z_M664 (by decide))) (hAd.ag z_M674 (by decide))) (hAd.put e_M682 g_y rfl))
                              exact h_iret hQ hx hb hr hlocks rfl hK hI ⟨rfl, (iv_w (lo' := 0) (hi' := 1) kc_1 (by decide) (by decide)), m683, m684, m685, (fun _ => ⟨fun h9 => absurd h9 (by decide), fun _ => (EX1_push (q := (3 : Int32)) (t := 0) m0_EX1 ((u2_st (a := y) (k := 36) e_M682 (u2_k (by decide))).trans ((z_M674 y 9 36 g_y rfl).trans ((z_M664 y 9 36 g_y rfl).trans ((u2_st (a := y) (k := 36) e_M631 (u2_k (by decide))).trans (u2_st (a := y) (k := 36) e_M627 (u2_a (so_ne g_y g_a485 (by decide)))))))) ((u2_st (a := y) (k := 37) e_M682 (u2_k (by decide))).trans ((z_M674 y 9 37 g_y rfl).trans ((z_M664 y 9 37 g_y rfl).trans ((u2_st (a := y) (k := 37) e_M631 (u2_k (by decide))).trans (u2_st (a := y) (k := 37) e_M627 (u2_a (so_ne g_y g_a485 (by decide)))))))) ((u2_row e_M682 (so_ne (hI.2.1.r1 g_y 30 130 (by decide) rfl) g_y (by decide))).trans ((hAg.row z_M674 (hI.2.1.r1 g_y 30 130 (by decide) rfl) (fun _ => rfl)).trans ((hAg.row z_M664 (hI.2.1.r1 g_y 30 130 (by decide) rfl) (fun _ => rfl)).trans ((u2_row e_M631 (so_ne (hI.2.1.r1 g_y 30 130 (by decide) rfl) g_y (by decide))).trans (u2_row e_M627 (so_ne (hI.2.1.r1 g_y 30 130 (by decide) rfl) g_a485 (by decide))))))) (by rw [← ((u2_wr e_M682)), ← (e_v604)]; exact (h_inc e_v681 i607 kc_1 (by decide) (by decide))) (by rw [← (((((u2_wr e_M631)).trans (z_M664 y 9 40 g_y rfl).symm).trans (z_M674 y 9 40 g_y rfl).symm).trans (u2_st (a := y) (k := 40) e_M682 (u2_k (by decide))).symm), ← (e_v599)]; omega) (by rw [(u2_st (a := y) (k := 39) e_M682 (u2_k (by decide))), z678.1, ((z_M664 y 9 39 g_y rfl).trans ((u2_st (a := y) (k := 39) e_M631 (u2_k (by decide))).trans (u2_st (a := y) (k := 39) e_M627 (u2_a (so_ne g_y g_a485 (by decide))))))]) (fun j => by rw [(u2_row e_M682 (so_ne (hI.2.1.r1 g_y 32 132 (by decide) rfl) g_y (by decide))), z678.2.1 j, ((hAg.row z_M664 (hI.2.1.r1 g_y 32 132 (by decide) rfl) (fun _ => rfl)).trans ((u2_row e_M631 (so_ne (hI.2.1.r1 g_y 32 132 (by decide) rfl) g_y (by decide))).trans (u2_row e_M627 (so_ne (hI.2.1.r1 g_y 32 132 (by decide) rfl) g_a485 (by decide))))), ((z_M664 y 9 39 g_y rfl).trans ((u2_st (a := y) (k := 39) e_M631 (u2_k (by decide))).trans (u2_st (a := y) (k := 39) e_M627 (u2_a (so_ne g_y g_a485 (by decide))))))]) (fun j => by rw [(u2_row e_M682 (so_ne (hI.2.1.r1 g_y 33 133 (by decide) rfl) g_y (by decide))), z678.2.2 j, ((hAg.row z_M664 (hI.2.1.r1 g_y 33 133 (by decide) rfl) (fun _ => rfl)).trans ((u2_row e_M631 (so_ne (hI.2.1.r1 g_y 33 133 (by decide) rfl) g_y (by decide))).trans (u2_row e_M627 (so_ne (hI.2.1.r1 g_y 33 133 (by decide) rfl) g_a485 (by decide))))), ((z_M664 y 9 39 g_y rfl).trans ((u2_st (a := y) (k := 39) e_M631 (u2_k (by decide))).trans (u2_st (a := y) (k := 39) e_M627 (u2_a (so_ne g_y g_a485 (by decide))))))]) (Or.inl ⟨rfl, rfl⟩) (by have h9 := i607; rw [← (e_v604)]; simp only [iv] at h9; omega) (by have h9 := i601; rw [← (e_v599)]; simp only [iv] at h9; omega))⟩), (gm_lt hg9 m0_PI i39 (fun _ => by have h9 := nu_eq (M1 := M682) (M := M664) (y := y) ((u2_st (a := y) (k := 3) e_M682 (u2_k (by decide))).trans (z_M674 y 9 3 g_y rfl)) ((u2_st (a := y) (k := 7) e_M682 (u2_k (by decide))).trans (z_M674 y 9 7 g_y rfl)) ((u2_st (a := y) (k := 8) e_M682 (u2_k (by decide))).trans (z_M674 y 9 8 g_y rfl)); have h8 := ng9; have h7 := (by rw [(u2_st (a := y) (k := 39) e_M682 (u2_k (by decide))), z678.1, ((z_M664 y 9 39 g_y rfl).trans ((u2_st (a := y) (k := 39) e_M631 (u2_k (by decide))).trans (u2_st (a := y) (k := 39) e_M627 (u2_a (so_ne g_y g_a485 (by decide))))))] : (M682 y 39).toInt = (M y 39).toInt + 1); omega))⟩ dX9_unit_249
                          · exact absurd c671 (iv_ne kc_1 kc_0 (by decide))
                  · obtain ⟨v686, e_v686⟩ : ∃ z : Int32, z = M y 4 := ⟨_, rfl⟩
                    have i_v686 : iv v686 0 5 := by rw [e_v686]; exact hI.iv1 (n := 67) g_y rfl (by decide) rfl
                    have i687 : iv v686 1 5 := iv_neL (fun h9 => z614 c615 (e_v686.symm.trans h9)) i_v686 (by decide) (by decide)
                    have i688 : iv r608 0 0 := iv_eq1 c615 i_r608 kc_0
                    refine lv_iconst (v := 1) hx hb dX9_unit_154 (by decide) ?_
                    exact h_iret hQ hx hb hr hlocks rfl hK hI ⟨rfl, (iv_w (lo' := 0) (hi' := 1) kc_1 (by decide) (by decide)), m0_PI, PN_rf, PC_rf, (fun h9 => gd_no (e_v686) i687 h9), (gm_lt hg9 m0_PI i39 (fun h9 => gd_no (e_v686) i687 h9))⟩ dX9_unit_155
                · have i689 : iv v604 7 7 := iv_eq1 c606 i605 kc_7
                  refine lv_aload_n hx hb dX9_unit_143 rfl (lv_at hl 5 rfl) ?_
                  refine h_gov hI (by decide) (va_runV (As := []) (rest := []) ⟨hx, hb, hml, hown, hts⟩ (h_misplaced_X9 l D g σ Z hZ0 M N R y g_y m0_PI) (cwV 0 hts gX9_unit_X9_misplaced rfl rfl rfl (by decide +kernel) ⟨Nat.le_of_ble_eq_true rfl, Nat.le_of_ble_eq_true rfl⟩) (h_preV hZ0 hK hE hI g_y (by decide) rfl) rfl rfl hl.1 rfl (lv_room (Nat.le_of_ble_eq_true rfl)) dX9_unit_144 ⟨Nat.le_of_ble_eq_true rfl, Nat.le_of_ble_eq_true rfl⟩) (fun M691 N692 R693 H locs q694 z_M691 hI => ?_)
                  obtain ⟨rfl, rfl, m695, m696, z697⟩ := q694
                  obtain ⟨v698, e_v698⟩ : ∃ z : Int32, z = M691 y 4 := ⟨_, rfl⟩
                  have i_v698 : iv v698 1 5 := by rw [e_v698]; exact z697
                  refine lv_aload_n hx hb dX9_unit_147 rfl (lv_at hl 5 rfl) ?_
                  refine h_goi hI (by decide) (va_runV (As := []) (rest := []) ⟨hx, hb, hml, hown, hts⟩ (h_isGood_X9 l D g σ Z hZ0 M691 N R y g_y) (cwV 0 hts gX9_unit_X9_isGood rfl rfl rfl (by decide +kernel) ⟨Nat.le_of_ble_eq_true rfl, Nat.le_of_ble_eq_true rfl⟩) (h_preV hZ0 hK hE hI g_y (by decide) rfl) rfl rfl hl.1 rfl (lv_room (Nat.le_of_ble_eq_true rfl)) dX9_unit_148 ⟨Nat.le_of_ble_eq_true rfl, Nat.le_of_ble_eq_true rfl⟩) (fun r699 M700 N701 R702 H locs q703 z_M700 hI => ?_)
                  obtain ⟨rfl, rfl, rfl, i_r699, z704, z705⟩ := q703
                  refine lv_if_ne (tgt := 156) hx hb dX9_unit_151 (by decide) (fun c706 => ?_) (fun c706 => ?_)
                  · exact absurd ((e_v698).trans (z704 c706)) (iv_ne i_v698 kc_0 (by decide))
                  · have i707 : iv r699 0 0 := iv_eq1 c706 i_r699 kc_0
                    refine lv_iconst (v := 1) hx hb dX9_unit_154 (by decide) ?_
                    have m708 : PN M M691 y := (PN_tr PN_rf m696)
                    have m709 : PC M M691 R y := (PC_ag hI.2.1 g_y PC_rf (hAd.ag z_M691 (by decide)))
                    exact h_iret hQ hx hb hr hlocks rfl hK hI ⟨rfl, (iv_w (lo' := 0) (hi' := 1) kc_1 (by decide) (by decide)), m695, m708, m709, (fun h9 => gd_no (e_v698) i_v698 h9), (gm_lt hg9 m0_PI i39 (fun h9 => gd_no (e_v698) i_v698 h9))⟩ dX9_unit_155
              · exact absurd c603 (iv_ne kc_1 kc_0 (by decide))
            · exact absurd c602 (iv_ne kc_1 kc_0 (by decide))
          · have i710 : iv v599 30 30 := iv_eq1 c600 i_v599 kc_30
            refine lv_iconst (v := 1) hx hb dX9_unit_93 (by decide) ?_
            refine lv_goto (tgt := 98) hx hb dX9_unit_94 (by decide) ?_
            refine lv_istore (lv' := [(5, .int (1 : Int32)), (4, .int r479), (3, .int r472), (2, .int (1 : Int32)), (1, .int t0_36), (0, .ref y)]) hx hb dX9_unit_98 hl (by decide) rfl (fun ls hl => ?_)
            refine lv_iload_n hx hb dX9_unit_100 rfl (lv_at hl 3 rfl) ?_
            refine lv_if_ne (tgt := 126) hx hb dX9_unit_101 (by decide) (fun c711 => ?_) (fun c711 => ?_)
            · refine lv_iload_n hx hb dX9_unit_126 rfl (lv_at hl 3 rfl) ?_
              refine lv_if_ne (tgt := 134) hx hb dX9_unit_127 (by decide) (fun c712 => ?_) (fun c712 => ?_)
              · refine lv_aload_n hx hb dX9_unit_134 rfl (lv_at hl 5 rfl) ?_
                refine h_geti (lo := (-2147483648)) (hi := 2147483647) hx hb hts iX9_unit_X9 hown hK hI g_y (by decide) rfl rfl 38 (by decide) rfl rfl (hts (.fieldLink RX9 330 "CatLeasesModel" "within" "I") (List.mem_of_getElem? (i := 8) rfl)) (fun _ h9 => h9) dX9_unit_135 (fun v713 e_v713 i_v713 => ?_)
                have i714 : iv v713 0 7 := EX1_w m0_EX1 e_v713
                refine lv_bipush (v := 7) hx hb dX9_unit_138 (by decide) ?_
                refine lv_icmp_ne (tgt := 147) hx hb dX9_unit_140 (by decide) (fun c715 => ?_) (fun c715 => ?_)
                · have i716 : iv v713 0 6 := iv_neH c715 i714 (by decide) (by decide)
                  refine lv_aload_n hx hb dX9_unit_147 rfl (lv_at hl 5 rfl) ?_
                  refine h_goi hI (by decide) (va_runV (As := []) (rest := []) ⟨hx, hb, hml, hown, hts⟩ (h_isGood_X9 l D g σ Z hZ0 M N R y g_y) (cwV 0 hts gX9_unit_X9_isGood rfl rfl rfl (by decide +kernel) ⟨Nat.le_of_ble_eq_true rfl, Nat.le_of_ble_eq_true rfl⟩) (h_preV hZ0 hK hE hI g_y (by decide) rfl) rfl rfl hl.1 rfl (lv_room (Nat.le_of_ble_eq_true rfl)) dX9_unit_148 ⟨Nat.le_of_ble_eq_true rfl, Nat.le_of_ble_eq_true rfl⟩) (fun r717 M718 N719 R720 H locs q721 z_M718 hI => ?_)
                  obtain ⟨rfl, rfl, rfl, i_r717, z722, z723⟩ := q721
                  refine lv_if_ne (tgt := 156) hx hb dX9_unit_151 (by decide) (fun c724 => ?_) (fun c724 => ?_)
                  · obtain ⟨v725, e_v725⟩ : ∃ z : Int32, z = M y 4 := ⟨_, rfl⟩
                    have i_v725 : iv v725 0 5 := by rw [e_v725]; exact hI.iv1 (n := 67) g_y rfl (by decide) rfl
                    have i726 : iv v725 0 0 := by rw [e_v725, z722 c724]; exact kc_0
                    have i727 : iv r717 1 1 := iv_neL c724 i_r717 (by decide) (by decide)
                    obtain ⟨v728, e_v728⟩ : ∃ z : Int32, z = M y 37 := ⟨_, rfl⟩
                    have i_v728 : iv v728 0 1120 := by rw [e_v728]; exact hI.iv1 (n := 67) g_y rfl (by decide) rfl
                    refine lv_aload_n hx hb dX9_unit_156 rfl (lv_at hl 5 rfl) ?_
                    refine h_getr hx hb hts iX9_unit_X9 hown hK hI g_y (by decide) rfl rfl 14 (by decide) rfl 114 rfl (hts (.fieldLink RX9 30 "CatLeasesModel" "units" "[I") (List.mem_of_getElem? (i := 4) rfl)) (fun _ h9 => h9) dX9_unit_157 (fun a729 e_a729 g_a729 => ?_)
                    have q730 : a485 = a729 := (e_a485).trans e_a729.symm
                    subst q730
                    refine lv_aload_n hx hb dX9_unit_160 rfl (lv_at hl 5 rfl) ?_
                    refine h_geti (lo := 0) (hi := 1) hx hb hts iX9_unit_X9 hown hK hI g_y (by decide) rfl rfl 36 (by decide) rfl rfl (hts (.fieldLink RX9 259 "CatLeasesModel" "rb" "I") (List.mem_of_getElem? (i := 5) rfl)) (fun _ h9 => h9) dX9_unit_161 (fun v731 e_v731 i_v731 => ?_)
                    have q732 : v486 = v731 := (e_v486).trans e_v731.symm
                    subst q732
                    refine lv_dup2_11 hx hb dX9_unit_164 rfl rfl ?_
                    refine h_iald (j := v486.toNatClampNeg) (lo := (-2147483648)) (hi := 2147483647) hx hb hK hI g_a485 (by decide) rfl (iv_in (n := 2) i_v486 (by decide) (by decide)) rfl (iv_any _) dX9_unit_165 (fun v733 e_v733 i_v733 => ?_)
                    have q734 : v487 = v733 := (e_v487).trans e_v733.symm
                    subst q734
                    refine lv_iload_n hx hb dX9_unit_166 rfl (lv_at hl 3 rfl) ?_
                    refine lv_if_eq (tgt := 174) hx hb dX9_unit_167 (by decide) (fun c735 => ?_) (fun c735 => ?_)
                    · exact absurd c735 (iv_ne kc_1 kc_0 (by decide))
                    · refine lv_iconst (v := 0) hx hb dX9_unit_170 (by decide) ?_
                      refine lv_goto (tgt := 175) hx hb dX9_unit_171 (by decide) ?_
                      refine lv_iadd hx hb dX9_unit_175 ?_
                      refine k_top (v := v487) (Int32.add_zero _) ?_
                      refine h_iast (j := v486.toNatClampNeg) hx hb hK hI g_a485 (by decide) rfl (iv_in (n := 2) i_v486 (by decide) (by decide)) rfl (iv_any _) rfl dX9_unit_176 (fun M736 H locs e_M736 hI => ?_)
                      refine lv_aload_n hx hb dX9_unit_177 rfl (lv_at hl 5 rfl) ?_
                      refine lv_dup hx hb dX9_unit_178 rfl ?_
                      refine h_geti (lo := 0) (hi := 30) hx hb hts iX9_unit_X9 hown hK hI g_y (by decide) rfl rfl 40 (by decide) rfl rfl (hts (.fieldLink RX9 321 "CatLeasesModel" "unitsInRule" "I") (List.mem_of_getElem? (i := 6) rfl)) (fun _ h9 => h9) dX9_unit_179 (fun v737 e_v737 i_v737 => ?_)
                      have q738 : v599 = v737 := ((e_v599).trans (u2_st (a := y) (k := 40) e_M736 (u2_a (so_ne g_y g_a485 (by decide)))).symm).trans e_v737.symm
                      subst q738
                      refine lv_iload_n hx hb dX9_unit_182 rfl (lv_at hl 3 rfl) ?_
                      refine lv_if_eq (tgt := 190) hx hb dX9_unit_183 (by decide) (fun c739 => ?_) (fun c739 => ?_)
                      · exact absurd c739 (iv_ne kc_1 kc_0 (by decide))
                      · refine lv_iconst (v := 0) hx hb dX9_unit_186 (by decide) ?_
                        refine lv_goto (tgt := 191) hx hb dX9_unit_187 (by decide) ?_
                        refine lv_iadd hx hb dX9_unit_191 ?_
                        refine k_top (v := v599) (Int32.add_zero _) ?_
                        refine h_puti hx hb hts iX9_unit_X9 tyX9 tyX9_ok nmX9 hown hK hI g_y (by decide) rfl rfl 40 (by decide) rfl (hts (.fieldLink RX9 321 "CatLeasesModel" "unitsInRule" "I") (List.mem_of_getElem? (i := 6) rfl)) (fun _ h9 => h9) rfl .int (by decide +kernel) rfl rfl (iv_w (lo' := 0) (hi' := 30) i710 (by decide) (by decide)) rfl dX9_unit_192 (fun M740 H locs e_M740 hI => ?_)
                        refine lv_iload hx hb dX9_unit_195 (lv_at hl 1 rfl) ?_
                        refine lv_if_ne (tgt := 207) hx hb dX9_unit_197 (by decide) (fun c741 => ?_) (fun c741 => ?_)
                        · have i742 : iv r479 1 119 := iv_neL c741 i_r479 (by decide) (by decide)
                          refine lv_iconst (v := 0) hx hb dX9_unit_207 (by decide) ?_
                          refine lv_istore (lv' := [(6, .int (0 : Int32)), (5, .int (1 : Int32)), (4, .int r479), (3, .int r472), (2, .int (1 : Int32)), (1, .int t0_36), (0, .ref y)]) hx hb dX9_unit_208 hl (by decide) rfl (fun ls hl => ?_)
                          refine lv_aload_n hx hb dX9_unit_210 rfl (lv_at hl 6 rfl) ?_
                          have m743 : PI M740 y := (PI_ag hI.2.1 g_y (PI_ag hI.2.1 g_y m0_PI (hAd.put e_M736 g_a485 rfl)) (hAd.put e_M740 g_y rfl))
                          have m744 : PN M M740 y := (PN_ag hI.2.1 g_y (PN_ag hI.2.1 g_y PN_rf (hAd.put e_M736 g_a485 rfl)) (hAd.put e_M740 g_y rfl))
                          refine h_gov hI (by decide) (va_runV (As := []) (rest := []) ⟨hx, hb, hml, hown, hts⟩ (h_goOn_X9 l D g σ Z hZ0 M740 N R y g_y m743) (cwV 0 hts gX9_unit_X9_goOn rfl rfl rfl (by decide +kernel) ⟨Nat.le_of_ble_eq_true rfl, Nat.le_of_ble_eq_true rfl⟩) (h_preV hZ0 hK hE hI g_y (by decide) rfl) rfl rfl hl.1 rfl (lv_room (Nat.le_of_ble_eq_true rfl)) dX9_unit_211 ⟨Nat.le_of_ble_eq_true rfl, Nat.le_of_ble_eq_true rfl⟩) (fun M746 N747 R748 H locs q749 z_M746 hI => ?_)
                          obtain ⟨rfl, z750, z751, z752⟩ := q749
                          have ng9 : nu M746 y < nu M y := Int.lt_of_lt_of_le (GO_lt z752 (z_M746 y 9 3 g_y rfl) m743 (fun h9 => iv_ne i470 kc_0 (by decide) ((((e_v469).trans (u2_st (a := y) (k := 8) e_M736 (u2_a (so_ne g_y g_a485 (by decide)))).symm).trans (u2_st (a := y) (k := 8) e_M740 (u2_k (by decide))).symm).trans h9))) m744.2.2
                          refine lv_iload_n hx hb dX9_unit_214 rfl (lv_at hl 4 rfl) ?_
                          refine lv_if_ne (tgt := 222) hx hb dX9_unit_215 (by decide) (fun c753 => ?_) (fun c753 => ?_)
                          · refine lv_aload_n hx hb dX9_unit_222 rfl (lv_at hl 6 rfl) ?_
                            refine lv_iload_n hx hb dX9_unit_223 rfl (lv_at hl 4 rfl) ?_
                            refine lv_if_eq (tgt := 231) hx hb dX9_unit_224 (by decide) (fun c754 => ?_) (fun c754 => ?_)
                            · exact absurd c754 (iv_ne kc_1 kc_0 (by decide))
                            · refine lv_iconst (v := 3) hx hb dX9_unit_227 (by decide) ?_
                              refine lv_goto (tgt := 233) hx hb dX9_unit_228 (by decide) ?_
                              refine lv_bipush (v := 126) hx hb dX9_unit_233 (by decide) ?_
                              refine h_gov hI (by decide) (va_runV (As := [.int (3 : Int32), .int (126 : Int32)]) (rest := []) ⟨hx, hb, hml, hown, hts⟩ (h_pushE_X9 l D g σ Z hZ0 M746 N747 R y g_y (3 : Int32) (126 : Int32) (by rw [((z_M746 y 9 39 g_y rfl).trans ((u2_st (a := y) (k := 39) e_M740 (u2_k (by decide))).trans (u2_st (a := y) (k := 39) e_M736 (u2_a (so_ne g_y g_a485 (by decide))))))]; exact iv_w (EX1_p m0_EX1 rfl) (by decide) (by decide))) (cwV 2 hts gX9_unit_X9_pushE rfl rfl rfl (by decide +kernel) ⟨Nat.le_of_ble_eq_true rfl, Nat.le_of_ble_eq_true rfl⟩) (h_preV hZ0 hK hE hI g_y (by decide) rfl) rfl rfl hl.1 rfl (lv_room (Nat.le_of_ble_eq_true rfl)) dX9_unit_235 ⟨Nat.le_of_ble_eq_true rfl, Nat.le_of_ble_eq_true rfl⟩) (fun M756 N757 R758 H locs q759 z_M756 hI => ?_)
                              obtain ⟨rfl, rfl, z760⟩ := q759
                              refine lv_aload_n hx hb dX9_unit_238 rfl (lv_at hl 6 rfl) ?_
                              refine lv_dup hx hb dX9_unit_239 rfl ?_
                              refine h_geti (lo := (-2147483648)) (hi := 2147483647) hx hb hts iX9_unit_X9 hown hK hI g_y (by decide) rfl rfl 38 (by decide) rfl rfl (hts (.fieldLink RX9 330 "CatLeasesModel" "within" "I") (List.mem_of_getElem? (i := 8) rfl)) (fun _ h9 => h9) dX9_unit_240 (fun v761 e_v761 i_v761 => ?_)
                              have q762 : v713 = v761 := (((((e_v713).trans (u2_st (a := y) (k := 38) e_M736 (u2_a (so_ne g_y g_a485 (by decide)))).symm).trans (u2_st (a := y) (k := 38) e_M740 (u2_k (by decide))).symm).trans (z_M746 y 9 38 g_y rfl).symm).trans (z_M756 y 9 38 g_y rfl).symm).trans e_v761.symm
                              subst q762
                              refine lv_iconst (v := 1) hx hb dX9_unit_243 (by decide) ?_
                              refine lv_iadd hx hb dX9_unit_244 ?_
                              refine h_nm (lo := 1) (hi := 7) (iv_add i716 kc_1 (by decide) (by decide) (by decide) (by decide)) (fun v763 e_v763 i_v763 => ?_)
                              refine h_puti hx hb hts iX9_unit_X9 tyX9 tyX9_ok nmX9 hown hK hI g_y (by decide) rfl rfl 38 (by decide) rfl (hts (.fieldLink RX9 330 "CatLeasesModel" "within" "I") (List.mem_of_getElem? (i := 8) rfl)) (fun _ h9 => h9) rfl .int (by decide +kernel) rfl rfl (iv_w (lo' := (-2147483648)) (hi' := 2147483647) i_v763 (by decide) (by decide)) rfl dX9_unit_245 (fun M764 H locs e_M764 hI => ?_)
                              refine lv_iconst (v := 1) hx hb dX9_unit_248 (by decide) ?_
                              have m765 : PI M764 y := (PI_ag hI.2.1 g_y (PI_ag hI.2.1 g_y z750 (hAd.ag z_M756 (by decide))) (hAd.put e_M764 g_y rfl))
                              have m766 : PN M M764 y := (PN_ag hI.2.1 g_y (PN_ag hI.2.1 g_y (PN_tr m744 z751) (hAd.ag z_M756 (by decide))) (hAd.put e_M764 g_y rfl))
                              have m767 : PC M M764 R y := (PC_ag hI.2.1 g_y (PC_ag hI.2.1 g_y (PC_ag hI.2.1 g_y (PC_ag hI.2.1 g_y (PC_ag hI.2.1 g_y PC_rf (hAd.put e_M736 g_a485 rfl)) (hAd.put e_M740 g_y rfl)) (hAd.ag z_M746 (by decide))) (hAd.ag z_M756 (by decide))) (hAd.put e_M764 g_y rfl))
                              exact h_iret hQ hx hb hr hlocks rfl hK hI ⟨rfl, (iv_w (lo' := 0) (hi' := 1) kc_1 (by decide) (by decide)), m765, m766, m767, (fun _ => ⟨fun h9 => absurd h9 (by decide), fun _ => (EX1_push (q := (3 : Int32)) (t := 0) m0_EX1 ((u2_st (a := y) (k := 36) e_M764 (u2_k (by decide))).trans ((z_M756 y 9 36 g_y rfl).trans ((z_M746 y 9 36 g_y rfl).trans ((u2_st (a := y) (k := 36) e_M740 (u2_k (by decide))).trans (u2_st (a := y) (k := 36) e_M736 (u2_a (so_ne g_y g_a485 (by decide)))))))) ((u2_st (a := y) (k := 37) e_M764 (u2_k (by decide))).trans ((z_M756 y 9 37 g_y rfl).trans ((z_M746 y 9 37 g_y rfl).trans ((u2_st (a := y) (k := 37) e_M740 (u2_k (by decide))).trans (u2_st (a := y) (k := 37) e_M736 (u2_a (so_ne g_y g_a485 (by decide)))))))) ((u2_row e_M764 (so_ne (hI.2.1.r1 g_y 30 130 (by decide) rfl) g_y (by decide))).trans ((hAg.row z_M756 (hI.2.1.r1 g_y 30 130 (by decide) rfl) (fun _ => rfl)).trans ((hAg.row z_M746 (hI.2.1.r1 g_y 30 130 (by decide) rfl) (fun _ => rfl)).trans ((u2_row e_M740 (so_ne (hI.2.1.r1 g_y 30 130 (by decide) rfl) g_y (by decide))).trans (u2_row e_M736 (so_ne (hI.2.1.r1 g_y 30 130 (by decide) rfl) g_a485 (by decide))))))) (by rw [← ((u2_wr e_M764)), ← (e_v713)]; exact (h_inc e_v763 i716 kc_1 (by decide) (by decide))) (by rw [← (((((u2_wr e_M740)).trans (z_M746 y 9 40 g_y rfl).symm).trans (z_M756 y 9 40 g_y rfl).symm).trans (u2_st (a := y) (k := 40) e_M764 (u2_k (by decide))).symm), ← (e_v599)]; omega) (by rw [(u2_st (a := y) (k := 39) e_M764 (u2_k (by decide))), z760.1, ((z_M746 y 9 39 g_y rfl).trans ((u2_st (a := y) (k := 39) e_M740 (u2_k (by decide))).trans (u2_st (a := y) (k := 39) e_M736 (u2_a (so_ne g_y g_a485 (by decide))))))]) (fun j => by rw [(u2_row e_M764 (so_ne (hI.2.1.r1 g_y 32 132 (by decide) rfl) g_y (by decide))), z760.2.1 j, ((hAg.row z_M746 (hI.2.1.r1 g_y 32 132 (by decide) rfl) (fun _ => rfl)).trans ((u2_row e_M740 (so_ne (hI.2.1.r1 g_y 32 132 (by decide) rfl) g_y (by decide))).trans (u2_row e_M736 (so_ne (hI.2.1.r1 g_y 32 132 (by decide) rfl) g_a485 (by decide))))), ((z_M746 y 9 39 g_y rfl).trans ((u2_st (a := y) (k := 39) e_M740 (u2_k (by decide))).trans (u2_st (a := y) (k := 39) e_M736 (u2_a (so_ne g_y g_a485 (by decide))))))]) (fun j => by rw [(u2_row e_M764 (so_ne (hI.2.1.r1 g_y 33 133 (by decide) rfl) g_y (by decide))), z760.2.2 j, ((hAg.row z_M746 (hI.2.1.r1 g_y 33 133 (by decide) rfl) (fun _ => rfl)).trans ((u2_row e_M740 (so_ne (hI.2.1.r1 g_y 33 133 (by decide) rfl) g_y (by decide))).trans (u2_row e_M736 (so_ne (hI.2.1.r1 g_y 33 133 (by decide) rfl) g_a485 (by decide))))), ((z_M746 y 9 39 g_y rfl).trans ((u2_st (a := y) (k := 39) e_M740 (u2_k (by decide))).trans (u2_st (a := y) (k := 39) e_M736 (u2_a (so_ne g_y g_a485 (by decide))))))]) (Or.inl ⟨rfl, rfl⟩) (by have h9 := i716; rw [← (e_v713)]; simp only [iv] at h9; omega) (by have h9 := i710; rw [← (e_v599)]; simp only [iv] at h9; omega))⟩), (gm_lt hg9 m0_PI i39 (fun _ => by have h9 := nu_eq (M1 := M764) (M := M746) (y := y) ((u2_st (a := y) (k := 3) e_M764 (u2_k (by decide))).trans (z_M756 y 9 3 g_y rfl)) ((u2_st (a := y) (k := 7) e_M764 (u2_k (by decide))).trans (z_M756 y 9 7 g_y rfl)) ((u2_st (a := y) (k := 8) e_M764 (u2_k (by decide))).trans (z_M756 y 9 8 g_y rfl)); have h8 := ng9; have h7 := (by rw [(u2_st (a := y) (k := 39) e_M764 (u2_k (by decide))), z760.1, ((z_M746 y 9 39 g_y rfl).trans ((u2_st (a := y) (k := 39) e_M740 (u2_k (by decide))).trans (u2_st (a := y) (k := 39) e_M736 (u2_a (so_ne g_y g_a485 (by decide))))))] : (M764 y 39).toInt = (M y 39).toInt + 1); omega))⟩ dX9_unit_249
                          · exact absurd c753 (iv_ne kc_1 kc_0 (by decide))
                        · have i768 : iv r479 0 0 := iv_eq1 c741 i_r479 kc_0
                          refine lv_aload_n hx hb dX9_unit_200 rfl (lv_at hl 5 rfl) ?_
                          refine h_geti (lo := (-2147483648)) (hi := 2147483647) hx hb hts iX9_unit_X9 hown hK hI g_y (by decide) rfl rfl 9 (by decide) rfl rfl (hts (.fieldLink RX9 224 "CatLeasesModel" "number" "I") (List.mem_of_getElem? (i := 9) rfl)) (fun _ h9 => h9) dX9_unit_201 (fun v769 e_v769 i_v769 => ?_)
                          refine lv_goto (tgt := 208) hx hb dX9_unit_204 (by decide) ?_
                          refine lv_istore (lv' := [(6, .int v769), (5, .int (1 : Int32)), (4, .int r479), (3, .int r472), (2, .int (1 : Int32)), (1, .int t0_36), (0, .ref y)]) hx hb dX9_unit_208 hl (by decide) rfl (fun ls hl => ?_)
                          refine lv_aload_n hx hb dX9_unit_210 rfl (lv_at hl 6 rfl) ?_
                          have m770 : PI M740 y := (PI_ag hI.2.1 g_y (PI_ag hI.2.1 g_y m0_PI (hAd.put e_M736 g_a485 rfl)) (hAd.put e_M740 g_y rfl))
                          have m771 : PN M M740 y := (PN_ag hI.2.1 g_y (PN_ag hI.2.1 g_y PN_rf (hAd.put e_M736 g_a485 rfl)) (hAd.put e_M740 g_y rfl))
                          refine h_gov hI (by decide) (va_runV (As := []) (rest := []) ⟨hx, hb, hml, hown, hts⟩ (h_goOn_X9 l D g σ Z hZ0 M740 N R y g_y m770) (cwV 0 hts gX9_unit_X9_goOn rfl rfl rfl (by decide +kernel) ⟨Nat.le_of_ble_eq_true rfl, Nat.le_of_ble_eq_true rfl⟩) (h_preV hZ0 hK hE hI g_y (by decide) rfl) rfl rfl hl.1 rfl (lv_room (Nat.le_of_ble_eq_true rfl)) dX9_unit_211 ⟨Nat.le_of_ble_eq_true rfl, Nat.le_of_ble_eq_true rfl⟩) (fun M773 N774 R775 H locs q776 z_M773 hI => ?_)
                          obtain ⟨rfl, z777, z778, z779⟩ := q776
                          have ng9 : nu M773 y < nu M y := Int.lt_of_lt_of_le (GO_lt z779 (z_M773 y 9 3 g_y rfl) m770 (fun h9 => iv_ne i470 kc_0 (by decide) ((((e_v469).trans (u2_st (a := y) (k := 8) e_M736 (u2_a (so_ne g_y g_a485 (by decide)))).symm).trans (u2_st (a := y) (k := 8) e_M740 (u2_k (by decide))).symm).trans h9))) m771.2.2
                          refine lv_iload_n hx hb dX9_unit_214 rfl (lv_at hl 4 rfl) ?_
                          refine lv_if_ne (tgt := 222) hx hb dX9_unit_215 (by decide) (fun c780 => ?_) (fun c780 => ?_)
                          · refine lv_aload_n hx hb dX9_unit_222 rfl (lv_at hl 6 rfl) ?_
                            refine lv_iload_n hx hb dX9_unit_223 rfl (lv_at hl 4 rfl) ?_
                            refine lv_if_eq (tgt := 231) hx hb dX9_unit_224 (by decide) (fun c781 => ?_) (fun c781 => ?_)
                            · exact absurd c781 (iv_ne kc_1 kc_0 (by decide))
                            · refine lv_iconst (v := 3) hx hb dX9_unit_227 (by decide) ?_
                              refine lv_goto (tgt := 233) hx hb dX9_unit_228 (by decide) ?_
                              refine lv_bipush (v := 126) hx hb dX9_unit_233 (by decide) ?_
                              refine h_gov hI (by decide) (va_runV (As := [.int (3 : Int32), .int (126 : Int32)]) (rest := []) ⟨hx, hb, hml, hown, hts⟩ (h_pushE_X9 l D g σ Z hZ0 M773 N774 R y g_y (3 : Int32) (126 : Int32) (by rw [((z_M773 y 9 39 g_y rfl).trans ((u2_st (a := y) (k := 39) e_M740 (u2_k (by decide))).trans (u2_st (a := y) (k := 39) e_M736 (u2_a (so_ne g_y g_a485 (by decide))))))]; exact iv_w (EX1_p m0_EX1 rfl) (by decide) (by decide))) (cwV 2 hts gX9_unit_X9_pushE rfl rfl rfl (by decide +kernel) ⟨Nat.le_of_ble_eq_true rfl, Nat.le_of_ble_eq_true rfl⟩) (h_preV hZ0 hK hE hI g_y (by decide) rfl) rfl rfl hl.1 rfl (lv_room (Nat.le_of_ble_eq_true rfl)) dX9_unit_235 ⟨Nat.le_of_ble_eq_true rfl, Nat.le_of_ble_eq_true rfl⟩) (fun M783 N784 R785 H locs q786 z_M783 hI => ?_)
                              obtain ⟨rfl, rfl, z787⟩ := q786
                              refine lv_aload_n hx hb dX9_unit_238 rfl (lv_at hl 6 rfl) ?_
                              refine lv_dup hx hb dX9_unit_239 rfl ?_
                              refine h_geti (lo := (-2147483648)) (hi := 2147483647) hx hb hts iX9_unit_X9 hown hK hI g_y (by decide) rfl rfl 38 (by decide) rfl rfl (hts (.fieldLink RX9 330 "CatLeasesModel" "within" "I") (List.mem_of_getElem? (i := 8) rfl)) (fun _ h9 => h9) dX9_unit_240 (fun v788 e_v788 i_v788 => ?_)
                              have q789 : v713 = v788 := (((((e_v713).trans (u2_st (a := y) (k := 38) e_M736 (u2_a (so_ne g_y g_a485 (by decide)))).symm).trans (u2_st (a := y) (k := 38) e_M740 (u2_k (by decide))).symm).trans (z_M773 y 9 38 g_y rfl).symm).trans (z_M783 y 9 38 g_y rfl).symm).trans e_v788.symm
                              subst q789
                              refine lv_iconst (v := 1) hx hb dX9_unit_243 (by decide) ?_
                              refine lv_iadd hx hb dX9_unit_244 ?_
                              refine h_nm (lo := 1) (hi := 7) (iv_add i716 kc_1 (by decide) (by decide) (by decide) (by decide)) (fun v790 e_v790 i_v790 => ?_)
                              refine h_puti hx hb hts iX9_unit_X9 tyX9 tyX9_ok nmX9 hown hK hI g_y (by decide) rfl rfl 38 (by decide) rfl (hts (.fieldLink RX9 330 "CatLeasesModel" "within" "I") (List.mem_of_getElem? (i := 8) rfl)) (fun _ h9 => h9) rfl .int (by decide +kernel) rfl rfl (iv_w (lo' := (-2147483648)) (hi' := 2147483647) i_v790 (by decide) (by decide)) rfl dX9_unit_245 (fun M791 H locs e_M791 hI => ?_)
                              refine lv_iconst (v := 1) hx hb dX9_unit_248 (by decide) ?_
                              have m792 : PI M791 y := (PI_ag hI.2.1 g_y (PI_ag hI.2.1 g_y z777 (hAd.ag z_M783 (by decide))) (hAd.put e_M791 g_y rfl))
                              have m793 : PN M M791 y := (PN_ag hI.2.1 g_y (PN_ag hI.2.1 g_y (PN_tr m771 z778) (hAd.ag z_M783 (by decide))) (hAd.put e_M791 g_y rfl))
                              have m794 : PC M M791 R y := (PC_ag hI.2.1 g_y (PC_ag hI.2.1 g_y (PC_ag hI.2.1 g_y (PC_ag hI.2.1 g_y (PC_ag hI.2.1 g_y PC_rf (hAd.put e_M736 g_a485 rfl)) (hAd.put e_M740 g_y rfl)) (hAd.ag z_M773 (by decide))) (hAd.ag z_M783 (by decide))) (hAd.put e_M791 g_y rfl))
                              exact h_iret hQ hx hb hr hlocks rfl hK hI ⟨rfl, (iv_w (lo' := 0) (hi' := 1) kc_1 (by decide) (by decide)), m792, m793, m794, (fun _ => ⟨fun h9 => absurd h9 (by decide), fun _ => (EX1_push (q := (3 : Int32)) (t := 0) m0_EX1 ((u2_st (a := y) (k := 36) e_M791 (u2_k (by decide))).trans ((z_M783 y 9 36 g_y rfl).trans ((z_M773 y 9 36 g_y rfl).trans ((u2_st (a := y) (k := 36) e_M740 (u2_k (by decide))).trans (u2_st (a := y) (k := 36) e_M736 (u2_a (so_ne g_y g_a485 (by decide)))))))) ((u2_st (a := y) (k := 37) e_M791 (u2_k (by decide))).trans ((z_M783 y 9 37 g_y rfl).trans ((z_M773 y 9 37 g_y rfl).trans ((u2_st (a := y) (k := 37) e_M740 (u2_k (by decide))).trans (u2_st (a := y) (k := 37) e_M736 (u2_a (so_ne g_y g_a485 (by decide)))))))) ((u2_row e_M791 (so_ne (hI.2.1.r1 g_y 30 130 (by decide) rfl) g_y (by decide))).trans ((hAg.row z_M783 (hI.2.1.r1 g_y 30 130 (by decide) rfl) (fun _ => rfl)).trans ((hAg.row z_M773 (hI.2.1.r1 g_y 30 130 (by decide) rfl) (fun _ => rfl)).trans ((u2_row e_M740 (so_ne (hI.2.1.r1 g_y 30 130 (by decide) rfl) g_y (by decide))).trans (u2_row e_M736 (so_ne (hI.2.1.r1 g_y 30 130 (by decide) rfl) g_a485 (by decide))))))) (by rw [← ((u2_wr e_M791)), ← (e_v713)]; exact (h_inc e_v790 i716 kc_1 (by decide) (by decide))) (by rw [← (((((u2_wr e_M740)).trans (z_M773 y 9 40 g_y rfl).symm).trans (z_M783 y 9 40 g_y rfl).symm).trans (u2_st (a := y) (k := 40) e_M791 (u2_k (by decide))).symm), ← (e_v599)]; omega) (by rw [(u2_st (a := y) (k := 39) e_M791 (u2_k (by decide))), z787.1, ((z_M773 y 9 39 g_y rfl).trans ((u2_st (a := y) (k := 39) e_M740 (u2_k (by decide))).trans (u2_st (a := y) (k := 39) e_M736 (u2_a (so_ne g_y g_a485 (by decide))))))]) (fun j => by rw [(u2_row e_M791 (so_ne (hI.2.1.r1 g_y 32 132 (by decide) rfl) g_y (by decide))), z787.2.1 j, ((hAg.row z_M773 (hI.2.1.r1 g_y 32 132 (by decide) rfl) (fun _ => rfl)).trans ((u2_row e_M740 (so_ne (hI.2.1.r1 g_y 32 132 (by decide) rfl) g_y (by decide))).trans (u2_row e_M736 (so_ne (hI.2.1.r1 g_y 32 132 (by decide) rfl) g_a485 (by decide))))), ((z_M773 y 9 39 g_y rfl).trans ((u2_st (a := y) (k := 39) e_M740 (u2_k (by decide))).trans (u2_st (a := y) (k := 39) e_M736 (u2_a (so_ne g_y g_a485 (by decide))))))]) (fun j => by rw [(u2_row e_M791 (so_ne (hI.2.1.r1 g_y 33 133 (by decide) rfl) g_y (by decide))), z787.2.2 j, ((hAg.row z_M773 (hI.2.1.r1 g_y 33 133 (by decide) rfl) (fun _ => rfl)).trans ((u2_row e_M740 (so_ne (hI.2.1.r1 g_y 33 133 (by decide) rfl) g_y (by decide))).trans (u2_row e_M736 (so_ne (hI.2.1.r1 g_y 33 133 (by decide) rfl) g_a485 (by decide))))), ((z_M773 y 9 39 g_y rfl).trans ((u2_st (a := y) (k := 39) e_M740 (u2_k (by decide))).trans (u2_st (a := y) (k := 39) e_M736 (u2_a (so_ne g_y g_a485 (by decide))))))]) (Or.inl ⟨rfl, rfl⟩) (by have h9 := i716; rw [← (e_v713)]; simp only [iv] at h9; omega) (by have h9 := i710; rw [← (e_v599)]; simp only [iv] at h9; omega))⟩), (gm_lt hg9 m0_PI i39 (fun _ => by have h9 := nu_eq (M1 := M791) (M := M773) (y := y) ((u2_st (a := y) (k := 3) e_M791 (u2_k (by decide))).trans (z_M783 y 9 3 g_y rfl)) ((u2_st (a := y) (k := 7) e_M791 (u2_k (by decide))).trans (z_M783 y 9 7 g_y rfl)) ((u2_st (a := y) (k := 8) e_M791 (u2_k (by decide))).trans (z_M783 y 9 8 g_y rfl)); have h8 := ng9; have h7 := (by rw [(u2_st (a := y) (k := 39) e_M791 (u2_k (by decide))), z787.1, ((z_M773 y 9 39 g_y rfl).trans ((u2_st (a := y) (k := 39) e_M740 (u2_k (by decide))).trans (u2_st (a := y) (k := 39) e_M736 (u2_a (so_ne g_y g_a485 (by decide))))))] : (M791 y 39).toInt = (M y 39).toInt + 1); omega))⟩ dX9_unit_249
                          · exact absurd c780 (iv_ne kc_1 kc_0 (by decide))
                  · obtain ⟨v795, e_v795⟩ : ∃ z : Int32, z = M y 4 := ⟨_, rfl⟩
                    have i_v795 : iv v795 0 5 := by rw [e_v795]; exact hI.iv1 (n := 67) g_y rfl (by decide) rfl
                    have i796 : iv v795 1 5 := iv_neL (fun h9 => z723 c724 (e_v795.symm.trans h9)) i_v795 (by decide) (by decide)
                    have i797 : iv r717 0 0 := iv_eq1 c724 i_r717 kc_0
                    refine lv_iconst (v := 1) hx hb dX9_unit_154 (by decide) ?_
                    exact h_iret hQ hx hb hr hlocks rfl hK hI ⟨rfl, (iv_w (lo' := 0) (hi' := 1) kc_1 (by decide) (by decide)), m0_PI, PN_rf, PC_rf, (fun h9 => gd_no (e_v795) i796 h9), (gm_lt hg9 m0_PI i39 (fun h9 => gd_no (e_v795) i796 h9))⟩ dX9_unit_155
                · have i798 : iv v713 7 7 := iv_eq1 c715 i714 kc_7
                  refine lv_aload_n hx hb dX9_unit_143 rfl (lv_at hl 5 rfl) ?_
                  refine h_gov hI (by decide) (va_runV (As := []) (rest := []) ⟨hx, hb, hml, hown, hts⟩ (h_misplaced_X9 l D g σ Z hZ0 M N R y g_y m0_PI) (cwV 0 hts gX9_unit_X9_misplaced rfl rfl rfl (by decide +kernel) ⟨Nat.le_of_ble_eq_true rfl, Nat.le_of_ble_eq_true rfl⟩) (h_preV hZ0 hK hE hI g_y (by decide) rfl) rfl rfl hl.1 rfl (lv_room (Nat.le_of_ble_eq_true rfl)) dX9_unit_144 ⟨Nat.le_of_ble_eq_true rfl, Nat.le_of_ble_eq_true rfl⟩) (fun M800 N801 R802 H locs q803 z_M800 hI => ?_)
                  obtain ⟨rfl, rfl, m804, m805, z806⟩ := q803
                  obtain ⟨v807, e_v807⟩ : ∃ z : Int32, z = M800 y 4 := ⟨_, rfl⟩
                  have i_v807 : iv v807 1 5 := by rw [e_v807]; exact z806
                  refine lv_aload_n hx hb dX9_unit_147 rfl (lv_at hl 5 rfl) ?_
                  refine h_goi hI (by decide) (va_runV (As := []) (rest := []) ⟨hx, hb, hml, hown, hts⟩ (h_isGood_X9 l D g σ Z hZ0 M800 N R y g_y) (cwV 0 hts gX9_unit_X9_isGood rfl rfl rfl (by decide +kernel) ⟨Nat.le_of_ble_eq_true rfl, Nat.le_of_ble_eq_true rfl⟩) (h_preV hZ0 hK hE hI g_y (by decide) rfl) rfl rfl hl.1 rfl (lv_room (Nat.le_of_ble_eq_true rfl)) dX9_unit_148 ⟨Nat.le_of_ble_eq_true rfl, Nat.le_of_ble_eq_true rfl⟩) (fun r808 M809 N810 R811 H locs q812 z_M809 hI => ?_)
                  obtain ⟨rfl, rfl, rfl, i_r808, z813, z814⟩ := q812
                  refine lv_if_ne (tgt := 156) hx hb dX9_unit_151 (by decide) (fun c815 => ?_) (fun c815 => ?_)
                  · exact absurd ((e_v807).trans (z813 c815)) (iv_ne i_v807 kc_0 (by decide))
                  · have i816 : iv r808 0 0 := iv_eq1 c815 i_r808 kc_0
                    refine lv_iconst (v := 1) hx hb dX9_unit_154 (by decide) ?_
                    have m817 : PN M M800 y := (PN_tr PN_rf m805)
                    have m818 : PC M M800 R y := (PC_ag hI.2.1 g_y PC_rf (hAd.ag z_M800 (by decide)))
                    exact h_iret hQ hx hb hr hlocks rfl hK hI ⟨rfl, (iv_w (lo' := 0) (hi' := 1) kc_1 (by decide) (by decide)), m804, m817, m818, (fun h9 => gd_no (e_v807) i_v807 h9), (gm_lt hg9 m0_PI i39 (fun h9 => gd_no (e_v807) i_v807 h9))⟩ dX9_unit_155
              · exact absurd c712 (iv_ne kc_1 kc_0 (by decide))
            · exact absurd c711 (iv_ne kc_1 kc_0 (by decide))
  have J31 : ∀ (H : Heap) (locs : List Loc) (ls : Array Slot), kI D g σ e_h_unit_X9 M s.heap M N R H locs → lv_has ls 7 [(0, .ref y)] → W p l e (headSpec wsX9_unit ({ frames := 2, cells := 0, slots := 0, locals := 44 })).room s m ar below meth c H locs 0 0 Q (F0 m 31 ls []) := by
    intro H locs ls hI hl
    refine lv_iconst (v := 1) hx hb dX9_unit_31 (by decide) ?_
    refine lv_goto (tgt := 36) hx hb dX9_unit_32 (by decide) ?_
    exact J36 (1 : Int32) H locs ls hI hl (iv_w (lo' := 0) (hi' := 1) kc_1 (by decide) (by decide))
  refine lv_icmp_le (tgt := 31) hx hb dX9_unit_12 (by decide) (fun c819 => ?_) (fun c819 => ?_)
  · have i820 : iv v6 (-2147483648) 3 := iv_le1 c819 i_v6 kc_3 (by decide)
    exact J31 H locs ls hI hl
  · have i821 : iv v6 4 2147483647 := iv_nle1 c819 i_v6 kc_3 (by decide)
    refine lv_aload_n hx hb dX9_unit_15 rfl (lv_at hl 0 rfl) ?_
    refine h_getr hx hb hts iX9_unit_X9 hown hK hI g_y (by decide) rfl rfl 32 (by decide) rfl 132 rfl (hts (.fieldLink RX9 85 "CatLeasesModel" "eWhat" "[I") (List.mem_of_getElem? (i := 1) rfl)) (fun _ h9 => h9) dX9_unit_16 (fun a822 e_a822 g_a822 => ?_)
    have q823 : a2 = a822 := (e_a2).trans e_a822.symm
    subst q823
    refine lv_aload_n hx hb dX9_unit_19 rfl (lv_at hl 0 rfl) ?_
    refine h_geti (lo := 0) (hi := 90) hx hb hts iX9_unit_X9 hown hK hI g_y (by decide) rfl rfl 39 (by decide) rfl rfl (hts (.fieldLink RX9 327 "CatLeasesModel" "piled" "I") (List.mem_of_getElem? (i := 2) rfl)) (fun _ h9 => h9) dX9_unit_20 (fun v824 e_v824 i_v824 => ?_)
    have q825 : v1 = v824 := (e_v1).trans e_v824.symm
    subst q825
    have ip9 : iv v1 1 38 := EX1_p m0_EX1 e_v1
    refine lv_iconst (v := 1) hx hb dX9_unit_23 (by decide) ?_
    refine lv_isub hx hb dX9_unit_24 ?_
    refine h_nm (lo := 0) (hi := 37) (iv_sub ip9 kc_1 (by decide) (by decide) (by decide) (by decide)) (fun v826 e_v826 i_v826 => ?_)
    have q827 : v5 = v826 := e_v5.trans e_v826.symm
    subst q827
    refine h_iald (j := v5.toNatClampNeg) (lo := (-2147483648)) (hi := 2147483647) hx hb hK hI g_a2 (by decide) rfl (iv_in (n := 90) i_v5 (by decide) (by decide)) rfl (iv_any _) dX9_unit_25 (fun v828 e_v828 i_v828 => ?_)
    have q829 : v6 = v828 := (e_v6).trans e_v828.symm
    subst q829
    refine lv_bipush (v := 7) hx hb dX9_unit_26 (by decide) ?_
    refine lv_icmp_lt (tgt := 35) hx hb dX9_unit_28 (by decide) (fun c830 => ?_) (fun c830 => ?_)
    · have i831 : iv v6 4 6 := iv_lt1 c830 i821 kc_7 (by decide)
      refine lv_iconst (v := 0) hx hb dX9_unit_35 (by decide) ?_
      exact J36 (0 : Int32) H locs ls hI hl (iv_w (lo' := 0) (hi' := 1) kc_0 (by decide) (by decide))
    · have i832 : iv v6 7 2147483647 := iv_nlt1 c830 i821 kc_7 (by decide)
      exact J31 H locs ls hI hl
