theorem k_arr {args : Array Value} {s : State} {ty : FieldType} (h : (Cond.arrayClass ty).before args s = true) : ∃ cA : ClassId, ArrOfT s cA ty ∧ s.vm.findClass ("[" ++ ty.toString) = some cA := by
  obtain ⟨cA, kA, comp, h1, h2, h3⟩ := Cond.arrayClass_spec h
  exact ⟨cA, fun n z => ⟨fun k h => (by cases h), kA, h2, comp, h3⟩, h1⟩
theorem k_arrO {s : State} (h : va_AO "CatLeases$State" s) : ∃ cA : ClassId, ArrOfT s cA (.object "CatLeases$State") ∧ va_RA s cA (.object "CatLeases$State") := by
  obtain ⟨comp, cA, kA, h1, h2, h3, h4, h5⟩ := Cond.arrayOver_spec h
  exact ⟨cA, fun n z => ⟨fun k h => (by cases h), kA, h3, comp, h4⟩, kA, comp, h3, h4, h1, h5⟩
set_option maxHeartbeats 4000000 in
set_option maxRecDepth 100000 in
theorem law_known {b : Nat} {s : State} (hts0 : ∀ w ∈ lw_tbl, w.before #[Value.ref b] s = true) (hts : ∀ w ∈ wsL_law, w.before #[Value.ref b] s = true) : ∃ (D : va_G) (g : Nat → ClassId), va_K D vwCl (kY g) s := by
  obtain ⟨c0, i0, k0⟩ := u_known (C := RX0) (T := TX0) (N := 4) (n := 4) hts0 inX0 (hts0 (.instantiable RX0 4) (List.mem_of_getElem? (i := 411) (by decide +kernel)))
  obtain ⟨c1, i1, k1⟩ := u_known (C := RX1) (T := TX1) (N := 6) (n := 6) hts0 inX1 (hts0 (.instantiable RX1 6) (List.mem_of_getElem? (i := 456) (by decide +kernel)))
  obtain ⟨c2, i2, k2⟩ := u_known (C := RX2) (T := TX2) (N := 3) (n := 3) hts0 inX2 (hts0 (.instantiable RX2 3) (List.mem_of_getElem? (i := 232) (by decide +kernel)))
  obtain ⟨c3, i3, k3⟩ := u_known (C := RX3) (T := TX3) (N := 4) (n := 4) hts0 inX3 (hts0 (.instantiable RX3 4) (List.mem_of_getElem? (i := 437) (by decide +kernel)))
  obtain ⟨c4, i4, k4⟩ := u_known (C := RX4) (T := TX4) (N := 11) (n := 11) hts0 inX4 (hts0 (.instantiable RX4 11) (List.mem_of_getElem? (i := 165) (by decide +kernel)))
  obtain ⟨c5, i5, k5⟩ := u_known (C := RX5) (T := TX5) (N := 15) (n := 15) hts0 inX5 (hts0 (.instantiable RX5 15) (List.mem_of_getElem? (i := 159) (by decide +kernel)))
  obtain ⟨c6, i6, k6⟩ := u_known (C := RX6) (T := TX6) (N := 9) (n := 9) hts0 inX6 (hts0 (.instantiable RX6 9) (List.mem_of_getElem? (i := 483) (by decide +kernel)))
  obtain ⟨c7, i7, k7⟩ := u_known (C := RX7) (T := TX7) (N := 8) (n := 8) hts0 inX7 (hts0 (.instantiable RX7 8) (List.mem_of_getElem? (i := 171) (by decide +kernel)))
  obtain ⟨c8, i8, k8⟩ := u_known (C := RX8) (T := TX8) (N := 14) (n := 14) hts0 inX8 (hts0 (.instantiable RX8 14) (List.mem_of_getElem? (i := 151) (by decide +kernel)))
  obtain ⟨c9, i9, k9⟩ := u_known (C := RX9) (T := TX9) (N := 67) (n := 67) hts0 inX9 (hts0 (.instantiable RX9 67) (List.mem_of_getElem? (i := 1282) (by decide +kernel)))
  obtain ⟨a0, b0, d0⟩ := k_arr (hts0 (.arrayClass .byte) (List.mem_of_getElem? (i := 229) (by decide +kernel)))
  obtain ⟨a1, b1, d1⟩ := k_arr (hts0 (.arrayClass .int) (List.mem_of_getElem? (i := 230) (by decide +kernel)))
  obtain ⟨a2, b2, d2⟩ := k_arr (hts0 (.arrayClass .long) (List.mem_of_getElem? (i := 407) (by decide +kernel)))
  obtain ⟨a3, b3, d3⟩ := k_arr (hts0 (.arrayClass .boolean) (List.mem_of_getElem? (i := 517) (by decide +kernel)))
  obtain ⟨a4, b4, d4⟩ := k_arrO (va_AO.of (hts0 (.arrayOver (.object RX7)) (List.mem_of_getElem? (i := 417) (by decide +kernel))))
  refine ⟨(fun k => if k = 0 then c0 else if k = 1 then c1 else if k = 2 then c2 else if k = 3 then c3 else if k = 4 then c4 else if k = 5 then c5 else if k = 6 then c6 else if k = 7 then c7 else if k = 8 then c8 else c9, fun k => if k = 0 then i0 else if k = 1 then i1 else if k = 2 then i2 else if k = 3 then i3 else if k = 4 then i4 else if k = 5 then i5 else if k = 6 then i6 else if k = 7 then i7 else if k = 8 then i8 else i9), fun k => if k = 0 then a0 else if k = 1 then a1 else if k = 2 then a2 else if k = 3 then a3 else a4, ?_, ?_⟩
  · intro k q hq
    match k, hq with
    | 0, hq => cases hq; exact k0
    | 1, hq => cases hq; exact k1
    | 2, hq => cases hq; exact k2
    | 3, hq => cases hq; exact k3
    | 4, hq => cases hq; exact k4
    | 5, hq => cases hq; exact k5
    | 6, hq => cases hq; exact k6
    | 7, hq => cases hq; exact k7
    | 8, hq => cases hq; exact k8
    | 9, hq => cases hq; exact k9
    | k + 10, hq => simp [vwCl] at hq
  · intro k q hq
    match k, hq with
    | 0, hq => cases hq; exact ⟨b0, d0⟩
    | 1, hq => cases hq; exact ⟨b1, d1⟩
    | 2, hq => cases hq; exact ⟨b2, d2⟩
    | 3, hq => cases hq; exact ⟨b3, d3⟩
    | 4, hq => cases hq; exact ⟨b4, d4⟩
    | k + 5, hq => simp [kY] at hq
set_option maxRecDepth 100000 in
theorem law_bytes : ∀ j : Nat, j < 100 → Cond.eq (.elem (Term.field (Term.string "CatLeases$Reader" 64) "java/lang/String" "value" "[B") (.int (Int32.ofNat j))) (.int (kWB.getD j 0)) ∈ flatC (Jvm.Cond.and given_1 narrow_1) := by decide +kernel
set_option maxHeartbeats 4000000 in
set_option maxRecDepth 100000 in
theorem law_env {b : Nat} {s : State} {A : Nat → Prop} (hts0 : ∀ w ∈ lw_tbl, w.before #[Value.ref b] s = true) (hgv : (Jvm.Cond.and given_1 narrow_1).before #[Value.ref b] s = true) (hAn : ∀ a : Nat, a < s.heap.size → ¬ A a) : ∃ (aw vw : Nat), kEnv aw vw A s s.heap := by
  have hs := flat_of_before _ hgv
  have hel : ∀ j : Nat, j < 100 → (Cond.eq (.elem (Term.field (Term.string "CatLeases$Reader" 64) "java/lang/String" "value" "[B") (.int (Int32.ofNat j))) (.int (kWB.getD j 0))).before #[Value.ref b] s = true := fun j hj => hs _ (law_bytes j hj)
  obtain ⟨adK, adV, hSS, hev⟩ := vk_Sof (args := #[Value.ref b]) (s := s) (N := 1) (tm := fun _ => Term.string "CatLeases$Reader" 64) (len := [100]) (byt := [kWB]) (A := A)
    (fun i hi => by rw [show i = 0 by omega]; decide) (fun i hi => hs (Cond.exactly (Term.string "CatLeases$Reader" 64) "java/lang/String") (by decide +kernel))
    (fun i hi => hs (Cond.eq (Term.field (Term.string "CatLeases$Reader" 64) "java/lang/String" "coder" "B") (.int 0)) (by decide +kernel)) (fun i hi => hs (Cond.arrayOf (Term.field (Term.string "CatLeases$Reader" 64) "java/lang/String" "value" "[B") .byte) (by decide +kernel))
    (fun i hi => by rw [show i = 0 by omega]; exact hs (Cond.eq (.length (Term.field (Term.string "CatLeases$Reader" 64) "java/lang/String" "value" "[B")) (.int 100)) (by decide +kernel))
    (fun i hi j hj => by rw [show i = 0 by omega] at hj ⊢; exact hel j hj) (fun i j hi hj hne => absurd (by omega) hne) hAn
  obtain ⟨h1, h2, h3, h4⟩ := hSS.1 0 (by decide)
  refine ⟨adK 0, adV 0, ?_, vk_R.of (hts0 (.stringRef RX5 64 kWT) (List.mem_of_getElem? (i := 305) (by decide +kernel))) (hev 0 (by decide)), h1, h2, h3, h4, ?_, ?_, va_AO.of (hts0 (.arrayOver (.object RX7)) (List.mem_of_getElem? (i := 417) (by decide +kernel)))⟩
  · intro w hw
    simp only [kNest, List.mem_cons, List.not_mem_nil, or_false] at hw
    rcases hw with rfl | rfl | rfl | rfl | rfl | rfl
    · exact va_Nw.of rfl (hts0 (.methodLinkNest RX8 26 yX4_init "CatLeases") (List.mem_of_getElem? (i := 409) (by decide +kernel)))
    · exact va_Nw.of rfl (hts0 (.methodLinkNest RX8 54 yX3_init "CatLeases") (List.mem_of_getElem? (i := 438) (by decide +kernel)))
    · exact va_Nw.of rfl (hts0 (.methodLinkNest RX8 61 yX1_init "CatLeases") (List.mem_of_getElem? (i := 457) (by decide +kernel)))
    · exact va_Nw.of rfl (hts0 (.methodLinkNest RX8 75 yX6_init "CatLeases") (List.mem_of_getElem? (i := 484) (by decide +kernel)))
    · exact va_Nw.of rfl (hts0 (.methodLinkNest RX4 46 yX2_init "CatLeases") (List.mem_of_getElem? (i := 233) (by decide +kernel)))
    · exact va_Nw.of rfl (hts0 (.methodLinkNest RX5 11 yX4_init "CatLeases") (List.mem_of_getElem? (i := 166) (by decide +kernel)))
  · exact va_Zof (hts0 (.laysStatic "java/lang/String" "COMPACT_STRINGS" "Z") (List.mem_of_getElem? (i := 315) (by decide +kernel))) (hts0 (.initialized "java/lang/String") (List.mem_of_getElem? (i := 137) (by decide +kernel))) (va_eqi (hs (Cond.eq (.static "java/lang/String" "COMPACT_STRINGS" "Z") (.int 1)) (by decide +kernel))) hAn
  · exact va_Zqof (hts0 (.laysStatic "jdk/internal/util/Preconditions" "SIOOBE_FORMATTER" "Ljava/util/function/BiFunction;") (List.mem_of_getElem? (i := 331) (by decide +kernel))) (hts0 (.initialized "jdk/internal/util/Preconditions") (List.mem_of_getElem? (i := 139) (by decide +kernel))) (hs (Cond.isRef (.static "jdk/internal/util/Preconditions" "SIOOBE_FORMATTER" "Ljava/util/function/BiFunction;")) (by decide +kernel)) hAn
set_option maxHeartbeats 4000000 in
set_option maxRecDepth 100000 in
theorem law_switch {p : Program} {l : Launch} {e : Env} {s : State} {m : MethodId} {below : List Frame} {meth : Method} {c : Code} {D : va_G} {g : Nat → ClassId} {b : Nat} {xs : Nat → Int32} {A : Nat → Prop} {x y : Nat} {H : Heap} {locs : List Loc} {ls : Array Slot} (C0 : lwC p s m meth c b 6 xs A D g) (hR : kReady D g A s H locs x y) (hl : lv_has ls 4 [(3, .int 0), (2, .ref y), (1, .ref x), (0, .ref b)]) (j : Nat) (hj : j < 64) : W p l e room_1 s m #[Value.ref b] below meth c H locs 364 18454 (lw_Z below #[Value.ref b] s) (F0 m 33 ls [.int (nI j)]) := by
  have hx := C0.1
  have hb := C0.2.1
  match j, hj with
  | 0, _ => exact lv_tableIn (tgt := 236) hx hb dL_law_33 (by decide) (by decide) rfl (by decide) (law_case_0 C0 hR hl)
  | 1, _ => exact lv_tableIn (tgt := 299) hx hb dL_law_33 (by decide) (by decide) rfl (by decide) (law_case_1 C0 hR hl)
  | 2, _ => exact lv_tableIn (tgt := 322) hx hb dL_law_33 (by decide) (by decide) rfl (by decide) (law_case_2 C0 hR hl)
  | 3, _ => exact lv_tableIn (tgt := 335) hx hb dL_law_33 (by decide) (by decide) rfl (by decide) (law_case_3 C0 hR hl)
  | 4, _ => exact lv_tableIn (tgt := 358) hx hb dL_law_33 (by decide) (by decide) rfl (by decide) (law_case_4 C0 hR hl)
  | 5, _ => exact lv_tableIn (tgt := 391) hx hb dL_law_33 (by decide) (by decide) rfl (by decide) (law_case_5 C0 hR hl)
  | 6, _ => exact lv_tableIn (tgt := 424) hx hb dL_law_33 (by decide) (by decide) rfl (by decide) (law_case_6 C0 hR hl)
  | 7, _ => exact lv_tableIn (tgt := 457) hx hb dL_law_33 (by decide) (by decide) rfl (by decide) (law_case_7 C0 hR hl)
  | 8, _ => exact lv_tableIn (tgt := 490) hx hb dL_law_33 (by decide) (by decide) rfl (by decide) (law_case_8 C0 hR hl)
  | 9, _ => exact lv_tableIn (tgt := 503) hx hb dL_law_33 (by decide) (by decide) rfl (by decide) (law_case_9 C0 hR hl)
  | 10, _ => exact lv_tableIn (tgt := 536) hx hb dL_law_33 (by decide) (by decide) rfl (by decide) (law_case_10 C0 hR hl)
  | 11, _ => exact lv_tableIn (tgt := 559) hx hb dL_law_33 (by decide) (by decide) rfl (by decide) (law_case_11 C0 hR hl)
  | 12, _ => exact lv_tableIn (tgt := 592) hx hb dL_law_33 (by decide) (by decide) rfl (by decide) (law_case_12 C0 hR hl)
  | 13, _ => exact lv_tableIn (tgt := 625) hx hb dL_law_33 (by decide) (by decide) rfl (by decide) (law_case_13 C0 hR hl)
  | 14, _ => exact lv_tableIn (tgt := 658) hx hb dL_law_33 (by decide) (by decide) rfl (by decide) (law_case_14 C0 hR hl)
  | 15, _ => exact lv_tableIn (tgt := 691) hx hb dL_law_33 (by decide) (by decide) rfl (by decide) (law_case_15 C0 hR hl)
  | 16, _ => exact lv_tableIn (tgt := 704) hx hb dL_law_33 (by decide) (by decide) rfl (by decide) (law_case_16 C0 hR hl)
  | 17, _ => exact lv_tableIn (tgt := 717) hx hb dL_law_33 (by decide) (by decide) rfl (by decide) (law_case_17 C0 hR hl)
  | 18, _ => exact lv_tableIn (tgt := 760) hx hb dL_law_33 (by decide) (by decide) rfl (by decide) (law_case_18 C0 hR hl)
  | 19, _ => exact lv_tableIn (tgt := 783) hx hb dL_law_33 (by decide) (by decide) rfl (by decide) (law_case_19 C0 hR hl)
  | 20, _ => exact lv_tableIn (tgt := 796) hx hb dL_law_33 (by decide) (by decide) rfl (by decide) (law_case_20 C0 hR hl)
  | 21, _ => exact lv_tableIn (tgt := 809) hx hb dL_law_33 (by decide) (by decide) rfl (by decide) (law_case_21 C0 hR hl)
  | 22, _ => exact lv_tableIn (tgt := 822) hx hb dL_law_33 (by decide) (by decide) rfl (by decide) (law_case_22 C0 hR hl)
  | 23, _ => exact lv_tableIn (tgt := 845) hx hb dL_law_33 (by decide) (by decide) rfl (by decide) (law_case_23 C0 hR hl)
  | 24, _ => exact lv_tableIn (tgt := 868) hx hb dL_law_33 (by decide) (by decide) rfl (by decide) (law_case_24 C0 hR hl)
  | 25, _ => exact lv_tableIn (tgt := 891) hx hb dL_law_33 (by decide) (by decide) rfl (by decide) (law_case_25 C0 hR hl)
  | 26, _ => exact lv_tableIn (tgt := 924) hx hb dL_law_33 (by decide) (by decide) rfl (by decide) (law_case_26 C0 hR hl)
  | 27, _ => exact lv_tableIn (tgt := 947) hx hb dL_law_33 (by decide) (by decide) rfl (by decide) (law_case_27 C0 hR hl)
  | 28, _ => exact lv_tableIn (tgt := 980) hx hb dL_law_33 (by decide) (by decide) rfl (by decide) (law_case_28 C0 hR hl)
  | 29, _ => exact lv_tableIn (tgt := 1023) hx hb dL_law_33 (by decide) (by decide) rfl (by decide) (law_case_29 C0 hR hl)
  | 30, _ => exact lv_tableIn (tgt := 1056) hx hb dL_law_33 (by decide) (by decide) rfl (by decide) (law_case_30 C0 hR hl)
  | 31, _ => exact lv_tableIn (tgt := 1079) hx hb dL_law_33 (by decide) (by decide) rfl (by decide) (law_case_31 C0 hR hl)
  | 32, _ => exact lv_tableIn (tgt := 1092) hx hb dL_law_33 (by decide) (by decide) rfl (by decide) (law_case_32 C0 hR hl)
  | 33, _ => exact lv_tableIn (tgt := 1105) hx hb dL_law_33 (by decide) (by decide) rfl (by decide) (law_case_33 C0 hR hl)
  | 34, _ => exact lv_tableIn (tgt := 1128) hx hb dL_law_33 (by decide) (by decide) rfl (by decide) (law_case_34 C0 hR hl)
  | 35, _ => exact lv_tableIn (tgt := 1151) hx hb dL_law_33 (by decide) (by decide) rfl (by decide) (law_case_35 C0 hR hl)
  | 36, _ => exact lv_tableIn (tgt := 1174) hx hb dL_law_33 (by decide) (by decide) rfl (by decide) (law_case_36 C0 hR hl)
  | 37, _ => exact lv_tableIn (tgt := 1217) hx hb dL_law_33 (by decide) (by decide) rfl (by decide) (law_case_37 C0 hR hl)
  | 38, _ => exact lv_tableIn (tgt := 1240) hx hb dL_law_33 (by decide) (by decide) rfl (by decide) (law_case_38 C0 hR hl)
  | 39, _ => exact lv_tableIn (tgt := 1299) hx hb dL_law_33 (by decide) (by decide) rfl (by decide) (law_case_39 C0 hR hl)
  | 40, _ => exact lv_tableIn (tgt := 1322) hx hb dL_law_33 (by decide) (by decide) rfl (by decide) (law_case_40 C0 hR hl)
  | 41, _ => exact lv_tableIn (tgt := 1345) hx hb dL_law_33 (by decide) (by decide) rfl (by decide) (law_case_41 C0 hR hl)
  | 42, _ => exact lv_tableIn (tgt := 1368) hx hb dL_law_33 (by decide) (by decide) rfl (by decide) (law_case_42 C0 hR hl)
  | 43, _ => exact lv_tableIn (tgt := 1401) hx hb dL_law_33 (by decide) (by decide) rfl (by decide) (law_case_43 C0 hR hl)
  | 44, _ => exact lv_tableIn (tgt := 1444) hx hb dL_law_33 (by decide) (by decide) rfl (by decide) (law_case_44 C0 hR hl)
  | 45, _ => exact lv_tableIn (tgt := 1467) hx hb dL_law_33 (by decide) (by decide) rfl (by decide) (law_case_45 C0 hR hl)
  | 46, _ => exact lv_tableIn (tgt := 1490) hx hb dL_law_33 (by decide) (by decide) rfl (by decide) (law_case_46 C0 hR hl)
  | 47, _ => exact lv_tableOut (tgt := 1513) hx hb dL_law_33 (by decide) (by decide) (law_default C0 hR hl)
  | 48, _ => exact lv_tableOut (tgt := 1513) hx hb dL_law_33 (by decide) (by decide) (law_default C0 hR hl)
  | 49, _ => exact lv_tableOut (tgt := 1513) hx hb dL_law_33 (by decide) (by decide) (law_default C0 hR hl)
  | 50, _ => exact lv_tableOut (tgt := 1513) hx hb dL_law_33 (by decide) (by decide) (law_default C0 hR hl)
  | 51, _ => exact lv_tableOut (tgt := 1513) hx hb dL_law_33 (by decide) (by decide) (law_default C0 hR hl)
  | 52, _ => exact lv_tableOut (tgt := 1513) hx hb dL_law_33 (by decide) (by decide) (law_default C0 hR hl)
  | 53, _ => exact lv_tableOut (tgt := 1513) hx hb dL_law_33 (by decide) (by decide) (law_default C0 hR hl)
  | 54, _ => exact lv_tableOut (tgt := 1513) hx hb dL_law_33 (by decide) (by decide) (law_default C0 hR hl)
  | 55, _ => exact lv_tableOut (tgt := 1513) hx hb dL_law_33 (by decide) (by decide) (law_default C0 hR hl)
  | 56, _ => exact lv_tableOut (tgt := 1513) hx hb dL_law_33 (by decide) (by decide) (law_default C0 hR hl)
  | 57, _ => exact lv_tableOut (tgt := 1513) hx hb dL_law_33 (by decide) (by decide) (law_default C0 hR hl)
  | 58, _ => exact lv_tableOut (tgt := 1513) hx hb dL_law_33 (by decide) (by decide) (law_default C0 hR hl)
  | 59, _ => exact lv_tableOut (tgt := 1513) hx hb dL_law_33 (by decide) (by decide) (law_default C0 hR hl)
  | 60, _ => exact lv_tableOut (tgt := 1513) hx hb dL_law_33 (by decide) (by decide) (law_default C0 hR hl)
  | 61, _ => exact lv_tableOut (tgt := 1513) hx hb dL_law_33 (by decide) (by decide) (law_default C0 hR hl)
  | 62, _ => exact lv_tableOut (tgt := 1513) hx hb dL_law_33 (by decide) (by decide) (law_default C0 hR hl)
  | 63, _ => exact lv_tableOut (tgt := 1513) hx hb dL_law_33 (by decide) (by decide) (law_default C0 hR hl)
  | (k + 64), h => exact absurd h (by omega)
set_option maxHeartbeats 4000000 in
set_option maxRecDepth 100000 in
theorem law_head {L : Nat} {p : Program} {l : Launch} {e : Env} {s : State} {m : MethodId} {below : List Frame} {meth : Method} {c : Code} {D : va_G} {g : Nat → ClassId} {b : Nat} {xs : Nat → Int32} {A : Nat → Prop} {x y : Nat} {H : Heap} {locs : List Loc} {ls : Array Slot} (hL : L ≤ 6) (C0 : lwC p s m meth c b L xs A D g) (hR : kReady D g A s H locs x y) (hl : lv_has ls 4 [(3, .int 0), (2, .ref y), (1, .ref x), (0, .ref b)]) : W p l e room_1 s m #[Value.ref b] below meth c H locs 364 18454 (lw_Z below #[Value.ref b] s) (F0 m 18 ls []) := by
  rcases (show L = 0 ∨ L = 1 ∨ L = 2 ∨ L = 3 ∨ L = 4 ∨ L = 5 ∨ L = 6 by omega) with rfl | rfl | rfl | rfl | rfl | rfl | rfl
  · obtain ⟨hx, hb, hr, hml, hown, hts, hX, hbl, hlocks, hA, hAe, hbA, hK⟩ := id C0
    obtain ⟨ux, um, hkx, hkm, hP, hD, hS⟩ := hR
    refine lv_iload_n hx hb dL_law_18 rfl (lv_at hl 0 rfl) ?_
    refine lv_aload_n hx hb dL_law_19 rfl (lv_at hl 3 rfl) ?_
    refine va_slen hx hb hX hbl hbA hS dL_law_20 ?_
    refine k_top (v := 0) rfl ?_
    refine lv_bipush (v := 6) hx hb dL_law_21 (by decide) ?_
    refine lv_isub hx hb dL_law_23 ?_
    refine k_top (v := (-6)) (by decide) ?_
    refine lv_icmp_gt (tgt := 1519) hx hb dL_law_24 (by decide) (fun _ => ?_) (fun c9 => absurd (by first | decide | rfl) c9)
    refine lv_iconst (v := 1) hx hb dL_law_1519 (by decide) ?_
    refine va_forget (fun q hq => hAe _ (hS.2.2 q hq)) ?_
    refine W.widen (k := 600000) (n := 7302249) (Nat.le_of_ble_eq_true rfl) (Nat.le_of_ble_eq_true rfl) ?_
    exact lw_ret hx hb hr hlocks dL_law_1520
  · obtain ⟨hx, hb, hr, hml, hown, hts, hX, hbl, hlocks, hA, hAe, hbA, hK⟩ := id C0
    obtain ⟨ux, um, hkx, hkm, hP, hD, hS⟩ := hR
    refine lv_iload_n hx hb dL_law_18 rfl (lv_at hl 0 rfl) ?_
    refine lv_aload_n hx hb dL_law_19 rfl (lv_at hl 3 rfl) ?_
    refine va_slen hx hb hX hbl hbA hS dL_law_20 ?_
    refine k_top (v := 1) rfl ?_
    refine lv_bipush (v := 6) hx hb dL_law_21 (by decide) ?_
    refine lv_isub hx hb dL_law_23 ?_
    refine k_top (v := (-5)) (by decide) ?_
    refine lv_icmp_gt (tgt := 1519) hx hb dL_law_24 (by decide) (fun _ => ?_) (fun c9 => absurd (by first | decide | rfl) c9)
    refine lv_iconst (v := 1) hx hb dL_law_1519 (by decide) ?_
    refine va_forget (fun q hq => hAe _ (hS.2.2 q hq)) ?_
    refine W.widen (k := 600000) (n := 7302249) (Nat.le_of_ble_eq_true rfl) (Nat.le_of_ble_eq_true rfl) ?_
    exact lw_ret hx hb hr hlocks dL_law_1520
  · obtain ⟨hx, hb, hr, hml, hown, hts, hX, hbl, hlocks, hA, hAe, hbA, hK⟩ := id C0
    obtain ⟨ux, um, hkx, hkm, hP, hD, hS⟩ := hR
    refine lv_iload_n hx hb dL_law_18 rfl (lv_at hl 0 rfl) ?_
    refine lv_aload_n hx hb dL_law_19 rfl (lv_at hl 3 rfl) ?_
    refine va_slen hx hb hX hbl hbA hS dL_law_20 ?_
    refine k_top (v := 2) rfl ?_
    refine lv_bipush (v := 6) hx hb dL_law_21 (by decide) ?_
    refine lv_isub hx hb dL_law_23 ?_
    refine k_top (v := (-4)) (by decide) ?_
    refine lv_icmp_gt (tgt := 1519) hx hb dL_law_24 (by decide) (fun _ => ?_) (fun c9 => absurd (by first | decide | rfl) c9)
    refine lv_iconst (v := 1) hx hb dL_law_1519 (by decide) ?_
    refine va_forget (fun q hq => hAe _ (hS.2.2 q hq)) ?_
    refine W.widen (k := 600000) (n := 7302249) (Nat.le_of_ble_eq_true rfl) (Nat.le_of_ble_eq_true rfl) ?_
    exact lw_ret hx hb hr hlocks dL_law_1520
  · obtain ⟨hx, hb, hr, hml, hown, hts, hX, hbl, hlocks, hA, hAe, hbA, hK⟩ := id C0
    obtain ⟨ux, um, hkx, hkm, hP, hD, hS⟩ := hR
    refine lv_iload_n hx hb dL_law_18 rfl (lv_at hl 0 rfl) ?_
    refine lv_aload_n hx hb dL_law_19 rfl (lv_at hl 3 rfl) ?_
    refine va_slen hx hb hX hbl hbA hS dL_law_20 ?_
    refine k_top (v := 3) rfl ?_
    refine lv_bipush (v := 6) hx hb dL_law_21 (by decide) ?_
    refine lv_isub hx hb dL_law_23 ?_
    refine k_top (v := (-3)) (by decide) ?_
    refine lv_icmp_gt (tgt := 1519) hx hb dL_law_24 (by decide) (fun _ => ?_) (fun c9 => absurd (by first | decide | rfl) c9)
    refine lv_iconst (v := 1) hx hb dL_law_1519 (by decide) ?_
    refine va_forget (fun q hq => hAe _ (hS.2.2 q hq)) ?_
    refine W.widen (k := 600000) (n := 7302249) (Nat.le_of_ble_eq_true rfl) (Nat.le_of_ble_eq_true rfl) ?_
    exact lw_ret hx hb hr hlocks dL_law_1520
  · obtain ⟨hx, hb, hr, hml, hown, hts, hX, hbl, hlocks, hA, hAe, hbA, hK⟩ := id C0
    obtain ⟨ux, um, hkx, hkm, hP, hD, hS⟩ := hR
    refine lv_iload_n hx hb dL_law_18 rfl (lv_at hl 0 rfl) ?_
    refine lv_aload_n hx hb dL_law_19 rfl (lv_at hl 3 rfl) ?_
    refine va_slen hx hb hX hbl hbA hS dL_law_20 ?_
    refine k_top (v := 4) rfl ?_
    refine lv_bipush (v := 6) hx hb dL_law_21 (by decide) ?_
    refine lv_isub hx hb dL_law_23 ?_
    refine k_top (v := (-2)) (by decide) ?_
    refine lv_icmp_gt (tgt := 1519) hx hb dL_law_24 (by decide) (fun _ => ?_) (fun c9 => absurd (by first | decide | rfl) c9)
    refine lv_iconst (v := 1) hx hb dL_law_1519 (by decide) ?_
    refine va_forget (fun q hq => hAe _ (hS.2.2 q hq)) ?_
    refine W.widen (k := 600000) (n := 7302249) (Nat.le_of_ble_eq_true rfl) (Nat.le_of_ble_eq_true rfl) ?_
    exact lw_ret hx hb hr hlocks dL_law_1520
  · obtain ⟨hx, hb, hr, hml, hown, hts, hX, hbl, hlocks, hA, hAe, hbA, hK⟩ := id C0
    obtain ⟨ux, um, hkx, hkm, hP, hD, hS⟩ := hR
    refine lv_iload_n hx hb dL_law_18 rfl (lv_at hl 0 rfl) ?_
    refine lv_aload_n hx hb dL_law_19 rfl (lv_at hl 3 rfl) ?_
    refine va_slen hx hb hX hbl hbA hS dL_law_20 ?_
    refine k_top (v := 5) rfl ?_
    refine lv_bipush (v := 6) hx hb dL_law_21 (by decide) ?_
    refine lv_isub hx hb dL_law_23 ?_
    refine k_top (v := (-1)) (by decide) ?_
    refine lv_icmp_gt (tgt := 1519) hx hb dL_law_24 (by decide) (fun _ => ?_) (fun c9 => absurd (by first | decide | rfl) c9)
    refine lv_iconst (v := 1) hx hb dL_law_1519 (by decide) ?_
    refine va_forget (fun q hq => hAe _ (hS.2.2 q hq)) ?_
    refine W.widen (k := 600000) (n := 7302249) (Nat.le_of_ble_eq_true rfl) (Nat.le_of_ble_eq_true rfl) ?_
    exact lw_ret hx hb hr hlocks dL_law_1520
  · obtain ⟨hx, hb, hr, hml, hown, hts, hX, hbl, hlocks, hA, hAe, hbA, hK⟩ := id C0
    obtain ⟨ux, um, hkx, hkm, hP, hD, hS⟩ := hR
    refine lv_iload_n hx hb dL_law_18 rfl (lv_at hl 0 rfl) ?_
    refine lv_aload_n hx hb dL_law_19 rfl (lv_at hl 3 rfl) ?_
    refine va_slen hx hb hX hbl hbA hS dL_law_20 ?_
    refine k_top (v := 6) rfl ?_
    refine lv_bipush (v := 6) hx hb dL_law_21 (by decide) ?_
    refine lv_isub hx hb dL_law_23 ?_
    refine k_top (v := 0) (by decide) ?_
    refine lv_icmp_gt (tgt := 1519) hx hb dL_law_24 (by decide) (fun c9 => absurd c9 (by first | decide | simp)) (fun _ => ?_)
    refine lv_aload_n hx hb dL_law_27 rfl (lv_at hl 3 rfl) ?_
    refine lv_iload_n hx hb dL_law_28 rfl (lv_at hl 0 rfl) ?_
    refine va_sld hx hb hX hbl hbA hS (k_in (i := 0) (n := 6) (by decide)) dL_law_29 ?_
    refine k_top (v := xs 0) rfl ?_
    refine lv_bipush (v := 63) hx hb dL_law_30 (by decide) ?_
    refine lv_iand hx hb dL_law_32 ?_
    obtain ⟨j, hj, ej⟩ := pk_andE (xs 0) (m := 63) 6 (by decide)
    refine k_top (v := nI j) ej ?_
    exact law_switch C0 ⟨ux, um, hkx, hkm, hP, hD, hS⟩ hl j hj
set_option maxHeartbeats 4000000 in
set_option maxRecDepth 100000 in
theorem whole_start {p : Program} {e : Env} {s : State} {m : MethodId} {below : List Frame} {meth : Method} {c : Code} (l : Launch) (hflags : l.flags = flags0) {b L : Nat} {xs : Nat → Int32} (hL : L ≤ 6) (C0 : lw_At p s m meth c b L xs) : W p l e room_1 s m #[Value.ref b] below meth c s.heap [] 0 0 (lw_Z below #[Value.ref b] s) (entryFrame m ([Value.ref b] : List Value).toArray 4) := by
  obtain ⟨hx, hb, hr, hml, hown, hts0, hX, hbl, hlocks, hgv⟩ := id C0
  have hown : s.vm.findClass RL = some m.cls := hown
  have hts : ∀ w ∈ wsL_law, w.before #[Value.ref b] s = true := fun w h => hts0 w (wsL_law_in w h)
  obtain ⟨A, hAq⟩ : ∃ A : Nat → Prop, A = (fun q : Nat => s.heap.size ≤ q) := ⟨_, rfl⟩
  have hA : ∀ q : Nat, s.heap.size ≤ q → A q := fun q h => by rw [hAq]; exact h
  have hAe : ∀ q : Nat, A q → s.heap.size ≤ q := fun q h => by rw [hAq] at h; exact h
  have hAn : ∀ a : Nat, a < s.heap.size → ¬ A a := fun a h q => absurd (hAe a q) (Nat.not_le.mpr h)
  have hbA : ¬ A b := hAn b hbl
  obtain ⟨D, g, hK⟩ := law_known hts0 hts
  obtain ⟨aw, vw, hE⟩ := law_env hts0 hgv hAn
  have hS : va_S A s.heap s.heap [] := va_S.rf
  have hP : va_P D vwCl [] s.heap := fun k q h => by simp at h
  have hD : va_D A [] := ⟨fun i j p q h => by simp at h, fun k q h => by simp at h⟩
  have hl := lv_entry ([.ref b]) (n := 4) (Nat.le_of_ble_eq_true rfl)
  rw [lg_entry_eq]
  generalize (lg_sl ([.ref b]) ++ List.replicate (4 - (lg_sl ([.ref b])).length) Slot.unset).toArray = ls at hl ⊢
  have hl : lv_has ls 4 [(0, .ref b)] := hl
  refine va_new (ci := 8) (fs := dfX8) (C := RX8) (T := TX8) (N := 14) hx hb hts iL_law_X8 tyX8 tyX8_ok hown (hts (.classLink RL 7 RX8) (List.mem_of_getElem? (i := 0) rfl)) (hts (.instantiable RX8 14) (List.mem_of_getElem? (i := 1) rfl)) (hts (.initialized RX8) (List.mem_of_getElem? (i := 2) rfl)) hK hP hD hS hA rfl fsX8 (Nat.le_of_ble_eq_true rfl) (Nat.le_of_ble_eq_true rfl) dL_law_0 (fun q_1 H hP hD hS => ?_)
  have hP : va_P D vwCl [(q_1, .inr (8, [.null, .int 0, .null, .null, .null, .null, .null, .int 0, .null, .null, .null, .int 0, .null, .int 0]))] H := hP
  have hD : va_D A [(q_1, .inr (8, [.null, .int 0, .null, .null, .null, .null, .null, .int 0, .null, .null, .null, .int 0, .null, .int 0]))] := hD
  refine W.cs (cells' := 1) (slots' := 14) rfl rfl ?_
  refine lv_dup hx hb dL_law_3 rfl ?_
  refine k_gov (wr := []) hP hD hS hA [0] [] rfl rfl (by decide) (by decide) (va_runI (As := []) (rest := [.ref q_1]) ⟨hx, hb, hml, hown, hts⟩ (c_xinit l D g aw vw _ q_1) (cwI 0 hts gL_law_X8_init rfl rfl rfl (hts (.initialized RX8) (List.mem_of_getElem? (i := 2) rfl)) (hts (.methodLink RL 9 yX8_init) (List.mem_of_getElem? (i := 6) rfl)) (hts (.instanceMethod yX8_init) (List.mem_of_getElem? (i := 7) rfl)) rfl (by decide +kernel) ⟨Nat.le_of_ble_eq_true rfl, Nat.le_of_ble_eq_true rfl⟩) (k_preSE hK hE hD hS hA [0] rfl (hP.sub [0] rfl) (hD.sub [0] (by decide) rfl)) rfl rfl hl.1 rfl (lv_room (Nat.le_of_ble_eq_true rfl)) dL_law_4 ⟨(Nat.le_of_ble_eq_true rfl), (Nat.le_of_ble_eq_true rfl)⟩) (fun u_3 H locs hw hP hD hS => ?_)
  rcases hw with ⟨y_4, y_5, y_6, c_7, c_8, rfl⟩
  have hP := hP.sub (ws' := [(q_1, .inr (8, [.ref (y_4 0), .int 0, .ref (y_4 1), .ref (y_4 21), .ref (y_4 35), .ref (y_4 49), .ref (y_4 50), .int 0, .ref (y_4 51), .ref (y_4 54), .ref (y_4 55), .int 0, .ref (y_4 56), .int 0])), ((y_4 0), .inl (g 0, 1600, .inl (fun _ => 0))), ((y_4 1), .inr (5, [.ref (y_4 2), .int 0, .int (-1), .ref (y_4 16), .ref (y_4 17), .ref (y_4 18), .ref (y_4 19), .ref (y_4 20), .int 0, .int 0, .int 0, .int 0, .int 258, .int 0, .long 0])), ((y_4 2), .inr (4, [.int 0, .int 0, .int 0, .int 0, .int 0, .ref (y_4 3), .ref (y_4 4), .ref (y_4 5), .ref (y_4 6), .ref (y_4 12), .ref (y_4 15)])), ((y_4 6), .inr (7, [.ref (y_4 7), .ref (y_4 8), .ref (y_4 9), .ref (y_4 10), .ref (y_4 11), .int 0, .int 0, .int 0])), ((y_4 7), .inl (g 1, 8, .inl (y_5 0))), ((y_4 8), .inl (g 1, 7, .inl (y_5 1))), ((y_4 9), .inl (g 1, 7, .inl (fun _ => 0))), ((y_4 10), .inl (g 1, 7, .inl (fun _ => 0))), ((y_4 11), .inl (g 1, 7, .inl (fun _ => 0))), ((y_4 12), .inr (2, [.ref (y_4 13), .ref (y_4 14), .int 0])), ((y_4 13), .inl (g 1, 270, .inl (fun _ => 0))), ((y_4 21), .inr (4, [.int 0, .int 0, .int 0, .int 0, .int 0, .ref (y_4 22), .ref (y_4 23), .ref (y_4 24), .ref (y_4 25), .ref (y_4 31), .ref (y_4 34)])), ((y_4 25), .inr (7, [.ref (y_4 26), .ref (y_4 27), .ref (y_4 28), .ref (y_4 29), .ref (y_4 30), .int 0, .int 0, .int 0])), ((y_4 26), .inl (g 1, 8, .inl (y_5 2))), ((y_4 27), .inl (g 1, 7, .inl (y_5 3))), ((y_4 28), .inl (g 1, 7, .inl (fun _ => 0))), ((y_4 29), .inl (g 1, 7, .inl (fun _ => 0))), ((y_4 30), .inl (g 1, 7, .inl (fun _ => 0))), ((y_4 31), .inr (2, [.ref (y_4 32), .ref (y_4 33), .int 0])), ((y_4 32), .inl (g 1, 270, .inl (fun _ => 0))), ((y_4 35), .inr (0, [.int 0, .int 0, .ref (y_4 36), .int 0])), ((y_4 36), .inl (g 4, 41, .inr (.inr (.inr (.inr (y_6 0)))))), ((y_4 37), .inr (7, [.ref (y_4 38), .ref (y_4 39), .ref (y_4 40), .ref (y_4 41), .ref (y_4 42), .int 0, .int 0, .int 0])), ((y_4 38), .inl (g 1, 8, .inl (y_5 4))), ((y_4 39), .inl (g 1, 7, .inl (y_5 5))), ((y_4 40), .inl (g 1, 7, .inl (fun _ => 0))), ((y_4 41), .inl (g 1, 7, .inl (fun _ => 0))), ((y_4 42), .inl (g 1, 7, .inl (fun _ => 0))), ((y_4 43), .inr (7, [.ref (y_4 44), .ref (y_4 45), .ref (y_4 46), .ref (y_4 47), .ref (y_4 48), .int 0, .int 0, .int 0])), ((y_4 44), .inl (g 1, 8, .inl (y_5 6))), ((y_4 45), .inl (g 1, 7, .inl (y_5 7))), ((y_4 46), .inl (g 1, 7, .inl (fun _ => 0))), ((y_4 47), .inl (g 1, 7, .inl (fun _ => 0))), ((y_4 48), .inl (g 1, 7, .inl (fun _ => 0))), ((y_4 50), .inl (g 4, 3, .inr (.inr (.inr (.inr (va_up (va_up (va_up (fun _ => none) 0 (some (y_4 63))) 1 (some (y_4 69))) 2 (some (y_4 75)))))))), ((y_4 51), .inr (3, [.ref (y_4 52), .ref (y_4 53), .int 0, .int 0])), ((y_4 53), .inl (g 1, 2048, .inl (fun _ => 0))), ((y_4 56), .inr (6, [.int 0, .ref (y_4 57), .ref (y_4 58), .ref (y_4 59), .ref (y_4 60), .ref (y_4 61), .ref (y_4 62), .int 0, .int 0])), ((y_4 63), .inr (7, [.ref (y_4 64), .ref (y_4 65), .ref (y_4 66), .ref (y_4 67), .ref (y_4 68), .int 0, .int 0, .int 0])), ((y_4 64), .inl (g 1, 8, .inl (y_5 8))), ((y_4 65), .inl (g 1, 7, .inl (y_5 9))), ((y_4 66), .inl (g 1, 7, .inl (fun _ => 0))), ((y_4 67), .inl (g 1, 7, .inl (fun _ => 0))), ((y_4 68), .inl (g 1, 7, .inl (fun _ => 0))), ((y_4 69), .inr (7, [.ref (y_4 70), .ref (y_4 71), .ref (y_4 72), .ref (y_4 73), .ref (y_4 74), .int 0, .int 0, .int 0])), ((y_4 70), .inl (g 1, 8, .inl (y_5 10))), ((y_4 71), .inl (g 1, 7, .inl (y_5 11))), ((y_4 72), .inl (g 1, 7, .inl (fun _ => 0))), ((y_4 73), .inl (g 1, 7, .inl (fun _ => 0))), ((y_4 74), .inl (g 1, 7, .inl (fun _ => 0))), ((y_4 75), .inr (7, [.ref (y_4 76), .ref (y_4 77), .ref (y_4 78), .ref (y_4 79), .ref (y_4 80), .int 0, .int 0, .int 0])), ((y_4 76), .inl (g 1, 8, .inl (y_5 12))), ((y_4 77), .inl (g 1, 7, .inl (y_5 13))), ((y_4 78), .inl (g 1, 7, .inl (fun _ => 0))), ((y_4 79), .inl (g 1, 7, .inl (fun _ => 0))), ((y_4 80), .inl (g 1, 7, .inl (fun _ => 0)))]) [0, 1, 2, 3, 4, 5, 6, 7, 8, 9, 10, 11, 12, 13, 14, 15, 16, 17, 18, 19, 20, 21, 22, 23, 24, 25, 26, 27, 28, 29, 30, 31, 32, 33, 34, 35, 36, 37, 38, 39, 40, 41, 42, 43, 44, 45, 46, 47, 48, 49, 50, 51, 52, 53, 54, 55, 56] rfl
  have hD := hD.sub (ws' := [(q_1, .inr (8, [.ref (y_4 0), .int 0, .ref (y_4 1), .ref (y_4 21), .ref (y_4 35), .ref (y_4 49), .ref (y_4 50), .int 0, .ref (y_4 51), .ref (y_4 54), .ref (y_4 55), .int 0, .ref (y_4 56), .int 0])), ((y_4 0), .inl (g 0, 1600, .inl (fun _ => 0))), ((y_4 1), .inr (5, [.ref (y_4 2), .int 0, .int (-1), .ref (y_4 16), .ref (y_4 17), .ref (y_4 18), .ref (y_4 19), .ref (y_4 20), .int 0, .int 0, .int 0, .int 0, .int 258, .int 0, .long 0])), ((y_4 2), .inr (4, [.int 0, .int 0, .int 0, .int 0, .int 0, .ref (y_4 3), .ref (y_4 4), .ref (y_4 5), .ref (y_4 6), .ref (y_4 12), .ref (y_4 15)])), ((y_4 6), .inr (7, [.ref (y_4 7), .ref (y_4 8), .ref (y_4 9), .ref (y_4 10), .ref (y_4 11), .int 0, .int 0, .int 0])), ((y_4 7), .inl (g 1, 8, .inl (y_5 0))), ((y_4 8), .inl (g 1, 7, .inl (y_5 1))), ((y_4 9), .inl (g 1, 7, .inl (fun _ => 0))), ((y_4 10), .inl (g 1, 7, .inl (fun _ => 0))), ((y_4 11), .inl (g 1, 7, .inl (fun _ => 0))), ((y_4 12), .inr (2, [.ref (y_4 13), .ref (y_4 14), .int 0])), ((y_4 13), .inl (g 1, 270, .inl (fun _ => 0))), ((y_4 21), .inr (4, [.int 0, .int 0, .int 0, .int 0, .int 0, .ref (y_4 22), .ref (y_4 23), .ref (y_4 24), .ref (y_4 25), .ref (y_4 31), .ref (y_4 34)])), ((y_4 25), .inr (7, [.ref (y_4 26), .ref (y_4 27), .ref (y_4 28), .ref (y_4 29), .ref (y_4 30), .int 0, .int 0, .int 0])), ((y_4 26), .inl (g 1, 8, .inl (y_5 2))), ((y_4 27), .inl (g 1, 7, .inl (y_5 3))), ((y_4 28), .inl (g 1, 7, .inl (fun _ => 0))), ((y_4 29), .inl (g 1, 7, .inl (fun _ => 0))), ((y_4 30), .inl (g 1, 7, .inl (fun _ => 0))), ((y_4 31), .inr (2, [.ref (y_4 32), .ref (y_4 33), .int 0])), ((y_4 32), .inl (g 1, 270, .inl (fun _ => 0))), ((y_4 35), .inr (0, [.int 0, .int 0, .ref (y_4 36), .int 0])), ((y_4 36), .inl (g 4, 41, .inr (.inr (.inr (.inr (y_6 0)))))), ((y_4 37), .inr (7, [.ref (y_4 38), .ref (y_4 39), .ref (y_4 40), .ref (y_4 41), .ref (y_4 42), .int 0, .int 0, .int 0])), ((y_4 38), .inl (g 1, 8, .inl (y_5 4))), ((y_4 39), .inl (g 1, 7, .inl (y_5 5))), ((y_4 40), .inl (g 1, 7, .inl (fun _ => 0))), ((y_4 41), .inl (g 1, 7, .inl (fun _ => 0))), ((y_4 42), .inl (g 1, 7, .inl (fun _ => 0))), ((y_4 43), .inr (7, [.ref (y_4 44), .ref (y_4 45), .ref (y_4 46), .ref (y_4 47), .ref (y_4 48), .int 0, .int 0, .int 0])), ((y_4 44), .inl (g 1, 8, .inl (y_5 6))), ((y_4 45), .inl (g 1, 7, .inl (y_5 7))), ((y_4 46), .inl (g 1, 7, .inl (fun _ => 0))), ((y_4 47), .inl (g 1, 7, .inl (fun _ => 0))), ((y_4 48), .inl (g 1, 7, .inl (fun _ => 0))), ((y_4 50), .inl (g 4, 3, .inr (.inr (.inr (.inr (va_up (va_up (va_up (fun _ => none) 0 (some (y_4 63))) 1 (some (y_4 69))) 2 (some (y_4 75)))))))), ((y_4 51), .inr (3, [.ref (y_4 52), .ref (y_4 53), .int 0, .int 0])), ((y_4 53), .inl (g 1, 2048, .inl (fun _ => 0))), ((y_4 56), .inr (6, [.int 0, .ref (y_4 57), .ref (y_4 58), .ref (y_4 59), .ref (y_4 60), .ref (y_4 61), .ref (y_4 62), .int 0, .int 0])), ((y_4 63), .inr (7, [.ref (y_4 64), .ref (y_4 65), .ref (y_4 66), .ref (y_4 67), .ref (y_4 68), .int 0, .int 0, .int 0])), ((y_4 64), .inl (g 1, 8, .inl (y_5 8))), ((y_4 65), .inl (g 1, 7, .inl (y_5 9))), ((y_4 66), .inl (g 1, 7, .inl (fun _ => 0))), ((y_4 67), .inl (g 1, 7, .inl (fun _ => 0))), ((y_4 68), .inl (g 1, 7, .inl (fun _ => 0))), ((y_4 69), .inr (7, [.ref (y_4 70), .ref (y_4 71), .ref (y_4 72), .ref (y_4 73), .ref (y_4 74), .int 0, .int 0, .int 0])), ((y_4 70), .inl (g 1, 8, .inl (y_5 10))), ((y_4 71), .inl (g 1, 7, .inl (y_5 11))), ((y_4 72), .inl (g 1, 7, .inl (fun _ => 0))), ((y_4 73), .inl (g 1, 7, .inl (fun _ => 0))), ((y_4 74), .inl (g 1, 7, .inl (fun _ => 0))), ((y_4 75), .inr (7, [.ref (y_4 76), .ref (y_4 77), .ref (y_4 78), .ref (y_4 79), .ref (y_4 80), .int 0, .int 0, .int 0])), ((y_4 76), .inl (g 1, 8, .inl (y_5 12))), ((y_4 77), .inl (g 1, 7, .inl (y_5 13))), ((y_4 78), .inl (g 1, 7, .inl (fun _ => 0))), ((y_4 79), .inl (g 1, 7, .inl (fun _ => 0))), ((y_4 80), .inl (g 1, 7, .inl (fun _ => 0)))]) [0, 1, 2, 3, 4, 5, 6, 7, 8, 9, 10, 11, 12, 13, 14, 15, 16, 17, 18, 19, 20, 21, 22, 23, 24, 25, 26, 27, 28, 29, 30, 31, 32, 33, 34, 35, 36, 37, 38, 39, 40, 41, 42, 43, 44, 45, 46, 47, 48, 49, 50, 51, 52, 53, 54, 55, 56] (by decide) rfl
  refine W.cs (cells' := 323) (slots' := 7457) rfl rfl ?_
  refine lv_astore_n (lv' := [(1, .ref q_1), (0, .ref b)]) hx hb dL_law_7 rfl hl (by decide) rfl (fun ls hl => ?_)
  refine va_new (ci := 9) (fs := dfX9) (C := RX9) (T := TX9) (N := 67) hx hb hts iL_law_X9 tyX9 tyX9_ok hown (hts (.classLink RL 10 RX9) (List.mem_of_getElem? (i := 3) rfl)) (hts (.instantiable RX9 67) (List.mem_of_getElem? (i := 4) rfl)) (hts (.initialized RX9) (List.mem_of_getElem? (i := 5) rfl)) hK hP hD hS hA rfl fsX9 (Nat.le_of_ble_eq_true rfl) (Nat.le_of_ble_eq_true rfl) dL_law_8 (fun q_9 H hP hD hS => ?_)
  have hP : va_P D vwCl [(q_1, .inr (8, [.ref (y_4 0), .int 0, .ref (y_4 1), .ref (y_4 21), .ref (y_4 35), .ref (y_4 49), .ref (y_4 50), .int 0, .ref (y_4 51), .ref (y_4 54), .ref (y_4 55), .int 0, .ref (y_4 56), .int 0])), ((y_4 0), .inl (g 0, 1600, .inl (fun _ => 0))), ((y_4 1), .inr (5, [.ref (y_4 2), .int 0, .int (-1), .ref (y_4 16), .ref (y_4 17), .ref (y_4 18), .ref (y_4 19), .ref (y_4 20), .int 0, .int 0, .int 0, .int 0, .int 258, .int 0, .long 0])), ((y_4 2), .inr (4, [.int 0, .int 0, .int 0, .int 0, .int 0, .ref (y_4 3), .ref (y_4 4), .ref (y_4 5), .ref (y_4 6), .ref (y_4 12), .ref (y_4 15)])), ((y_4 6), .inr (7, [.ref (y_4 7), .ref (y_4 8), .ref (y_4 9), .ref (y_4 10), .ref (y_4 11), .int 0, .int 0, .int 0])), ((y_4 7), .inl (g 1, 8, .inl (y_5 0))), ((y_4 8), .inl (g 1, 7, .inl (y_5 1))), ((y_4 9), .inl (g 1, 7, .inl (fun _ => 0))), ((y_4 10), .inl (g 1, 7, .inl (fun _ => 0))), ((y_4 11), .inl (g 1, 7, .inl (fun _ => 0))), ((y_4 12), .inr (2, [.ref (y_4 13), .ref (y_4 14), .int 0])), ((y_4 13), .inl (g 1, 270, .inl (fun _ => 0))), ((y_4 21), .inr (4, [.int 0, .int 0, .int 0, .int 0, .int 0, .ref (y_4 22), .ref (y_4 23), .ref (y_4 24), .ref (y_4 25), .ref (y_4 31), .ref (y_4 34)])), ((y_4 25), .inr (7, [.ref (y_4 26), .ref (y_4 27), .ref (y_4 28), .ref (y_4 29), .ref (y_4 30), .int 0, .int 0, .int 0])), ((y_4 26), .inl (g 1, 8, .inl (y_5 2))), ((y_4 27), .inl (g 1, 7, .inl (y_5 3))), ((y_4 28), .inl (g 1, 7, .inl (fun _ => 0))), ((y_4 29), .inl (g 1, 7, .inl (fun _ => 0))), ((y_4 30), .inl (g 1, 7, .inl (fun _ => 0))), ((y_4 31), .inr (2, [.ref (y_4 32), .ref (y_4 33), .int 0])), ((y_4 32), .inl (g 1, 270, .inl (fun _ => 0))), ((y_4 35), .inr (0, [.int 0, .int 0, .ref (y_4 36), .int 0])), ((y_4 36), .inl (g 4, 41, .inr (.inr (.inr (.inr (y_6 0)))))), ((y_4 37), .inr (7, [.ref (y_4 38), .ref (y_4 39), .ref (y_4 40), .ref (y_4 41), .ref (y_4 42), .int 0, .int 0, .int 0])), ((y_4 38), .inl (g 1, 8, .inl (y_5 4))), ((y_4 39), .inl (g 1, 7, .inl (y_5 5))), ((y_4 40), .inl (g 1, 7, .inl (fun _ => 0))), ((y_4 41), .inl (g 1, 7, .inl (fun _ => 0))), ((y_4 42), .inl (g 1, 7, .inl (fun _ => 0))), ((y_4 43), .inr (7, [.ref (y_4 44), .ref (y_4 45), .ref (y_4 46), .ref (y_4 47), .ref (y_4 48), .int 0, .int 0, .int 0])), ((y_4 44), .inl (g 1, 8, .inl (y_5 6))), ((y_4 45), .inl (g 1, 7, .inl (y_5 7))), ((y_4 46), .inl (g 1, 7, .inl (fun _ => 0))), ((y_4 47), .inl (g 1, 7, .inl (fun _ => 0))), ((y_4 48), .inl (g 1, 7, .inl (fun _ => 0))), ((y_4 50), .inl (g 4, 3, .inr (.inr (.inr (.inr (va_up (va_up (va_up (fun _ => none) 0 (some (y_4 63))) 1 (some (y_4 69))) 2 (some (y_4 75)))))))), ((y_4 51), .inr (3, [.ref (y_4 52), .ref (y_4 53), .int 0, .int 0])), ((y_4 53), .inl (g 1, 2048, .inl (fun _ => 0))), ((y_4 56), .inr (6, [.int 0, .ref (y_4 57), .ref (y_4 58), .ref (y_4 59), .ref (y_4 60), .ref (y_4 61), .ref (y_4 62), .int 0, .int 0])), ((y_4 63), .inr (7, [.ref (y_4 64), .ref (y_4 65), .ref (y_4 66), .ref (y_4 67), .ref (y_4 68), .int 0, .int 0, .int 0])), ((y_4 64), .inl (g 1, 8, .inl (y_5 8))), ((y_4 65), .inl (g 1, 7, .inl (y_5 9))), ((y_4 66), .inl (g 1, 7, .inl (fun _ => 0))), ((y_4 67), .inl (g 1, 7, .inl (fun _ => 0))), ((y_4 68), .inl (g 1, 7, .inl (fun _ => 0))), ((y_4 69), .inr (7, [.ref (y_4 70), .ref (y_4 71), .ref (y_4 72), .ref (y_4 73), .ref (y_4 74), .int 0, .int 0, .int 0])), ((y_4 70), .inl (g 1, 8, .inl (y_5 10))), ((y_4 71), .inl (g 1, 7, .inl (y_5 11))), ((y_4 72), .inl (g 1, 7, .inl (fun _ => 0))), ((y_4 73), .inl (g 1, 7, .inl (fun _ => 0))), ((y_4 74), .inl (g 1, 7, .inl (fun _ => 0))), ((y_4 75), .inr (7, [.ref (y_4 76), .ref (y_4 77), .ref (y_4 78), .ref (y_4 79), .ref (y_4 80), .int 0, .int 0, .int 0])), ((y_4 76), .inl (g 1, 8, .inl (y_5 12))), ((y_4 77), .inl (g 1, 7, .inl (y_5 13))), ((y_4 78), .inl (g 1, 7, .inl (fun _ => 0))), ((y_4 79), .inl (g 1, 7, .inl (fun _ => 0))), ((y_4 80), .inl (g 1, 7, .inl (fun _ => 0))), (q_9, .inr (9, [.null, .null, .int 0, .int 0, .int 0, .int 0, .int 0, .int 0, .int 0, .int 0, .long 0, .null, .null, .null, .null, .null, .null, .null, .null, .null, .null, .null, .null, .null, .null, .null, .null, .null, .null, .null, .null, .null, .null, .null, .null, .int 0, .int 0, .int 0, .int 0, .int 0, .int 0, .int 0, .int 0, .int 0, .int 0, .null, .int 0, .int 0, .int 0, .null, .int 0, .int 0, .null, .null, .int 0, .null, .null, .null, .null, .null, .null, .null, .null, .int 0, .int 0, .null, .null]))] H := hP
  have hD : va_D A [(q_1, .inr (8, [.ref (y_4 0), .int 0, .ref (y_4 1), .ref (y_4 21), .ref (y_4 35), .ref (y_4 49), .ref (y_4 50), .int 0, .ref (y_4 51), .ref (y_4 54), .ref (y_4 55), .int 0, .ref (y_4 56), .int 0])), ((y_4 0), .inl (g 0, 1600, .inl (fun _ => 0))), ((y_4 1), .inr (5, [.ref (y_4 2), .int 0, .int (-1), .ref (y_4 16), .ref (y_4 17), .ref (y_4 18), .ref (y_4 19), .ref (y_4 20), .int 0, .int 0, .int 0, .int 0, .int 258, .int 0, .long 0])), ((y_4 2), .inr (4, [.int 0, .int 0, .int 0, .int 0, .int 0, .ref (y_4 3), .ref (y_4 4), .ref (y_4 5), .ref (y_4 6), .ref (y_4 12), .ref (y_4 15)])), ((y_4 6), .inr (7, [.ref (y_4 7), .ref (y_4 8), .ref (y_4 9), .ref (y_4 10), .ref (y_4 11), .int 0, .int 0, .int 0])), ((y_4 7), .inl (g 1, 8, .inl (y_5 0))), ((y_4 8), .inl (g 1, 7, .inl (y_5 1))), ((y_4 9), .inl (g 1, 7, .inl (fun _ => 0))), ((y_4 10), .inl (g 1, 7, .inl (fun _ => 0))), ((y_4 11), .inl (g 1, 7, .inl (fun _ => 0))), ((y_4 12), .inr (2, [.ref (y_4 13), .ref (y_4 14), .int 0])), ((y_4 13), .inl (g 1, 270, .inl (fun _ => 0))), ((y_4 21), .inr (4, [.int 0, .int 0, .int 0, .int 0, .int 0, .ref (y_4 22), .ref (y_4 23), .ref (y_4 24), .ref (y_4 25), .ref (y_4 31), .ref (y_4 34)])), ((y_4 25), .inr (7, [.ref (y_4 26), .ref (y_4 27), .ref (y_4 28), .ref (y_4 29), .ref (y_4 30), .int 0, .int 0, .int 0])), ((y_4 26), .inl (g 1, 8, .inl (y_5 2))), ((y_4 27), .inl (g 1, 7, .inl (y_5 3))), ((y_4 28), .inl (g 1, 7, .inl (fun _ => 0))), ((y_4 29), .inl (g 1, 7, .inl (fun _ => 0))), ((y_4 30), .inl (g 1, 7, .inl (fun _ => 0))), ((y_4 31), .inr (2, [.ref (y_4 32), .ref (y_4 33), .int 0])), ((y_4 32), .inl (g 1, 270, .inl (fun _ => 0))), ((y_4 35), .inr (0, [.int 0, .int 0, .ref (y_4 36), .int 0])), ((y_4 36), .inl (g 4, 41, .inr (.inr (.inr (.inr (y_6 0)))))), ((y_4 37), .inr (7, [.ref (y_4 38), .ref (y_4 39), .ref (y_4 40), .ref (y_4 41), .ref (y_4 42), .int 0, .int 0, .int 0])), ((y_4 38), .inl (g 1, 8, .inl (y_5 4))), ((y_4 39), .inl (g 1, 7, .inl (y_5 5))), ((y_4 40), .inl (g 1, 7, .inl (fun _ => 0))), ((y_4 41), .inl (g 1, 7, .inl (fun _ => 0))), ((y_4 42), .inl (g 1, 7, .inl (fun _ => 0))), ((y_4 43), .inr (7, [.ref (y_4 44), .ref (y_4 45), .ref (y_4 46), .ref (y_4 47), .ref (y_4 48), .int 0, .int 0, .int 0])), ((y_4 44), .inl (g 1, 8, .inl (y_5 6))), ((y_4 45), .inl (g 1, 7, .inl (y_5 7))), ((y_4 46), .inl (g 1, 7, .inl (fun _ => 0))), ((y_4 47), .inl (g 1, 7, .inl (fun _ => 0))), ((y_4 48), .inl (g 1, 7, .inl (fun _ => 0))), ((y_4 50), .inl (g 4, 3, .inr (.inr (.inr (.inr (va_up (va_up (va_up (fun _ => none) 0 (some (y_4 63))) 1 (some (y_4 69))) 2 (some (y_4 75)))))))), ((y_4 51), .inr (3, [.ref (y_4 52), .ref (y_4 53), .int 0, .int 0])), ((y_4 53), .inl (g 1, 2048, .inl (fun _ => 0))), ((y_4 56), .inr (6, [.int 0, .ref (y_4 57), .ref (y_4 58), .ref (y_4 59), .ref (y_4 60), .ref (y_4 61), .ref (y_4 62), .int 0, .int 0])), ((y_4 63), .inr (7, [.ref (y_4 64), .ref (y_4 65), .ref (y_4 66), .ref (y_4 67), .ref (y_4 68), .int 0, .int 0, .int 0])), ((y_4 64), .inl (g 1, 8, .inl (y_5 8))), ((y_4 65), .inl (g 1, 7, .inl (y_5 9))), ((y_4 66), .inl (g 1, 7, .inl (fun _ => 0))), ((y_4 67), .inl (g 1, 7, .inl (fun _ => 0))), ((y_4 68), .inl (g 1, 7, .inl (fun _ => 0))), ((y_4 69), .inr (7, [.ref (y_4 70), .ref (y_4 71), .ref (y_4 72), .ref (y_4 73), .ref (y_4 74), .int 0, .int 0, .int 0])), ((y_4 70), .inl (g 1, 8, .inl (y_5 10))), ((y_4 71), .inl (g 1, 7, .inl (y_5 11))), ((y_4 72), .inl (g 1, 7, .inl (fun _ => 0))), ((y_4 73), .inl (g 1, 7, .inl (fun _ => 0))), ((y_4 74), .inl (g 1, 7, .inl (fun _ => 0))), ((y_4 75), .inr (7, [.ref (y_4 76), .ref (y_4 77), .ref (y_4 78), .ref (y_4 79), .ref (y_4 80), .int 0, .int 0, .int 0])), ((y_4 76), .inl (g 1, 8, .inl (y_5 12))), ((y_4 77), .inl (g 1, 7, .inl (y_5 13))), ((y_4 78), .inl (g 1, 7, .inl (fun _ => 0))), ((y_4 79), .inl (g 1, 7, .inl (fun _ => 0))), ((y_4 80), .inl (g 1, 7, .inl (fun _ => 0))), (q_9, .inr (9, [.null, .null, .int 0, .int 0, .int 0, .int 0, .int 0, .int 0, .int 0, .int 0, .long 0, .null, .null, .null, .null, .null, .null, .null, .null, .null, .null, .null, .null, .null, .null, .null, .null, .null, .null, .null, .null, .null, .null, .null, .null, .int 0, .int 0, .int 0, .int 0, .int 0, .int 0, .int 0, .int 0, .int 0, .int 0, .null, .int 0, .int 0, .int 0, .null, .int 0, .int 0, .null, .null, .int 0, .null, .null, .null, .null, .null, .null, .null, .null, .int 0, .int 0, .null, .null]))] := hD
  refine W.cs (cells' := 324) (slots' := 7524) rfl rfl ?_
  refine lv_dup hx hb dL_law_11 rfl ?_
  refine k_gov (wr := [(q_1, .inr (8, [.ref (y_4 0), .int 0, .ref (y_4 1), .ref (y_4 21), .ref (y_4 35), .ref (y_4 49), .ref (y_4 50), .int 0, .ref (y_4 51), .ref (y_4 54), .ref (y_4 55), .int 0, .ref (y_4 56), .int 0])), ((y_4 0), .inl (g 0, 1600, .inl (fun _ => 0))), ((y_4 1), .inr (5, [.ref (y_4 2), .int 0, .int (-1), .ref (y_4 16), .ref (y_4 17), .ref (y_4 18), .ref (y_4 19), .ref (y_4 20), .int 0, .int 0, .int 0, .int 0, .int 258, .int 0, .long 0])), ((y_4 2), .inr (4, [.int 0, .int 0, .int 0, .int 0, .int 0, .ref (y_4 3), .ref (y_4 4), .ref (y_4 5), .ref (y_4 6), .ref (y_4 12), .ref (y_4 15)])), ((y_4 6), .inr (7, [.ref (y_4 7), .ref (y_4 8), .ref (y_4 9), .ref (y_4 10), .ref (y_4 11), .int 0, .int 0, .int 0])), ((y_4 7), .inl (g 1, 8, .inl (y_5 0))), ((y_4 8), .inl (g 1, 7, .inl (y_5 1))), ((y_4 9), .inl (g 1, 7, .inl (fun _ => 0))), ((y_4 10), .inl (g 1, 7, .inl (fun _ => 0))), ((y_4 11), .inl (g 1, 7, .inl (fun _ => 0))), ((y_4 12), .inr (2, [.ref (y_4 13), .ref (y_4 14), .int 0])), ((y_4 13), .inl (g 1, 270, .inl (fun _ => 0))), ((y_4 21), .inr (4, [.int 0, .int 0, .int 0, .int 0, .int 0, .ref (y_4 22), .ref (y_4 23), .ref (y_4 24), .ref (y_4 25), .ref (y_4 31), .ref (y_4 34)])), ((y_4 25), .inr (7, [.ref (y_4 26), .ref (y_4 27), .ref (y_4 28), .ref (y_4 29), .ref (y_4 30), .int 0, .int 0, .int 0])), ((y_4 26), .inl (g 1, 8, .inl (y_5 2))), ((y_4 27), .inl (g 1, 7, .inl (y_5 3))), ((y_4 28), .inl (g 1, 7, .inl (fun _ => 0))), ((y_4 29), .inl (g 1, 7, .inl (fun _ => 0))), ((y_4 30), .inl (g 1, 7, .inl (fun _ => 0))), ((y_4 31), .inr (2, [.ref (y_4 32), .ref (y_4 33), .int 0])), ((y_4 32), .inl (g 1, 270, .inl (fun _ => 0))), ((y_4 35), .inr (0, [.int 0, .int 0, .ref (y_4 36), .int 0])), ((y_4 36), .inl (g 4, 41, .inr (.inr (.inr (.inr (y_6 0)))))), ((y_4 37), .inr (7, [.ref (y_4 38), .ref (y_4 39), .ref (y_4 40), .ref (y_4 41), .ref (y_4 42), .int 0, .int 0, .int 0])), ((y_4 38), .inl (g 1, 8, .inl (y_5 4))), ((y_4 39), .inl (g 1, 7, .inl (y_5 5))), ((y_4 40), .inl (g 1, 7, .inl (fun _ => 0))), ((y_4 41), .inl (g 1, 7, .inl (fun _ => 0))), ((y_4 42), .inl (g 1, 7, .inl (fun _ => 0))), ((y_4 43), .inr (7, [.ref (y_4 44), .ref (y_4 45), .ref (y_4 46), .ref (y_4 47), .ref (y_4 48), .int 0, .int 0, .int 0])), ((y_4 44), .inl (g 1, 8, .inl (y_5 6))), ((y_4 45), .inl (g 1, 7, .inl (y_5 7))), ((y_4 46), .inl (g 1, 7, .inl (fun _ => 0))), ((y_4 47), .inl (g 1, 7, .inl (fun _ => 0))), ((y_4 48), .inl (g 1, 7, .inl (fun _ => 0))), ((y_4 50), .inl (g 4, 3, .inr (.inr (.inr (.inr (va_up (va_up (va_up (fun _ => none) 0 (some (y_4 63))) 1 (some (y_4 69))) 2 (some (y_4 75)))))))), ((y_4 51), .inr (3, [.ref (y_4 52), .ref (y_4 53), .int 0, .int 0])), ((y_4 53), .inl (g 1, 2048, .inl (fun _ => 0))), ((y_4 56), .inr (6, [.int 0, .ref (y_4 57), .ref (y_4 58), .ref (y_4 59), .ref (y_4 60), .ref (y_4 61), .ref (y_4 62), .int 0, .int 0])), ((y_4 63), .inr (7, [.ref (y_4 64), .ref (y_4 65), .ref (y_4 66), .ref (y_4 67), .ref (y_4 68), .int 0, .int 0, .int 0])), ((y_4 64), .inl (g 1, 8, .inl (y_5 8))), ((y_4 65), .inl (g 1, 7, .inl (y_5 9))), ((y_4 66), .inl (g 1, 7, .inl (fun _ => 0))), ((y_4 67), .inl (g 1, 7, .inl (fun _ => 0))), ((y_4 68), .inl (g 1, 7, .inl (fun _ => 0))), ((y_4 69), .inr (7, [.ref (y_4 70), .ref (y_4 71), .ref (y_4 72), .ref (y_4 73), .ref (y_4 74), .int 0, .int 0, .int 0])), ((y_4 70), .inl (g 1, 8, .inl (y_5 10))), ((y_4 71), .inl (g 1, 7, .inl (y_5 11))), ((y_4 72), .inl (g 1, 7, .inl (fun _ => 0))), ((y_4 73), .inl (g 1, 7, .inl (fun _ => 0))), ((y_4 74), .inl (g 1, 7, .inl (fun _ => 0))), ((y_4 75), .inr (7, [.ref (y_4 76), .ref (y_4 77), .ref (y_4 78), .ref (y_4 79), .ref (y_4 80), .int 0, .int 0, .int 0])), ((y_4 76), .inl (g 1, 8, .inl (y_5 12))), ((y_4 77), .inl (g 1, 7, .inl (y_5 13))), ((y_4 78), .inl (g 1, 7, .inl (fun _ => 0))), ((y_4 79), .inl (g 1, 7, .inl (fun _ => 0))), ((y_4 80), .inl (g 1, 7, .inl (fun _ => 0)))]) hP hD hS hA [57] [0, 1, 2, 3, 4, 5, 6, 7, 8, 9, 10, 11, 12, 13, 14, 15, 16, 17, 18, 19, 20, 21, 22, 23, 24, 25, 26, 27, 28, 29, 30, 31, 32, 33, 34, 35, 36, 37, 38, 39, 40, 41, 42, 43, 44, 45, 46, 47, 48, 49, 50, 51, 52, 53, 54, 55, 56] rfl rfl (by decide) (by decide) (va_runI (As := []) (rest := [.ref q_9]) ⟨hx, hb, hml, hown, hts⟩ (m_init l D g _ q_9) (cwI 0 hts gL_law_X9_init rfl rfl rfl (hts (.initialized RX9) (List.mem_of_getElem? (i := 5) rfl)) (hts (.methodLink RL 12 yX9_init) (List.mem_of_getElem? (i := 203) rfl)) (hts (.instanceMethod yX9_init) (List.mem_of_getElem? (i := 204) rfl)) rfl (by decide +kernel) ⟨Nat.le_of_ble_eq_true rfl, Nat.le_of_ble_eq_true rfl⟩) (k_preS hK (hP.sub [57] rfl) (hD.sub [57] (by decide) rfl)) rfl rfl hl.1 rfl (lv_room (Nat.le_of_ble_eq_true rfl)) dL_law_12 ⟨Nat.le_of_ble_eq_true rfl, Nat.le_of_ble_eq_true rfl⟩) (fun um H locs hkm hP hD hS => ?_)
  refine W.cs (cells' := 364) (slots' := 18454) rfl rfl ?_
  refine lv_astore_n (lv' := [(2, .ref q_9), (1, .ref q_1), (0, .ref b)]) hx hb dL_law_15 rfl hl (by decide) rfl (fun ls hl => ?_)
  refine lv_iconst (v := 0) hx hb dL_law_16 (by decide) ?_
  refine lv_istore_n (lv' := [(3, .int 0), (2, .ref q_9), (1, .ref q_1), (0, .ref b)]) hx hb dL_law_17 rfl hl (by decide) rfl (fun ls hl => ?_)
  have hR : kReady D g A s H locs q_1 q_9 := ⟨_, um, ⟨y_4, y_5, y_6, c_7, c_8, rfl⟩, hkm, hP, hD, hS⟩
  exact law_head hL ⟨hx, hb, hr, hml, hown, hts, hX, hbl, hlocks, hA, hAe, hbA, hK⟩ hR hl
set_option maxHeartbeats 4000000 in
theorem lw_walk (l : Launch) (hflags : l.flags = flags0) (b : Addr) (xs : List Int32) : MetFree l x (headSpec (Jvm.Cond.code x code maxLocals ret :: tables_1) room_1) (lw_P b xs) (fun _ _ _ _ _ => True) lw_Q := by
  refine MetFree.of_bodyS (code := code) (maxLocals := maxLocals) (ret := ret) (by decide) ?_ ?_
  · intro args s m h hn
    obtain ⟨meth, c, h1, h2, h3, h4, h5, h6, -, -⟩ := Cond.code_spec hn (atoms_spec (ws := Jvm.Cond.code x code maxLocals ret :: tables_1) h _ List.mem_cons_self)
    exact ⟨meth, c, h1, h2, h3, h4, h5, h6⟩
  · intro p e s m args below meth c s₁ B hml0 hP _
    obtain ⟨rfl, hx, hbd, hgv⟩ := hP
    obtain ⟨scr, harrAt, hlist, hof, hsmall⟩ := hx
    obtain ⟨hcb, hkn, -, -⟩ := State.arrayAt?_spec harrAt
    have hown : s.vm.findClass R_law = some m.cls := findClass_of_methodNamed B.named
    have hts0 : ∀ c ∈ (Jvm.Cond.code x code maxLocals ret :: tables_1), c.before #[Value.ref b] s = true := atoms_spec (ws := Jvm.Cond.code x code maxLocals ret :: tables_1) B.pre
    have hts : ∀ w ∈ lw_tbl, w.before #[Value.ref b] s = true := k2_hts_sels lw_privs (fun w hw => hts0 w (List.mem_cons_of_mem _ hw)) lw_privs_ok
    have hml : c.maxLocals = 4 := B.maxLocals_eq (hts0 _ List.mem_cons_self)
    have X₀ : Stand p l e room_1 s m #[Value.ref b] below meth c s₁ [] 0 0 := Stand.of_body B
    have hh0 : s₁.heap = s.heap := by rw [B.state]; rfl
    have hsz : scr.slots.size = xs.length := by rw [← Array.length_toList, hlist, List.length_map]
    have hval : ∀ j : Nat, j < xs.length → scr.slots[j]? = some (.int (xs.getD j 0)) := fun j hj => by
      rw [← Array.getElem?_toList, hlist]
      simp [hj]
    have hbl : b < s.heap.size := (Array.getElem?_eq_some_iff.mp hcb).1
    have hX : va_X b xs.length (fun j => xs.getD j 0) s s.heap := ⟨scr, hcb, hof, hkn, hsz, hval⟩
    have K : W p l e room_1 s m #[Value.ref b] below meth c s₁.heap [] 0 0 (lw_Z below #[Value.ref b] s) (entryFrame m ([Value.ref b] : List Value).toArray 4) := by
      rw [hh0]
      exact whole_start l hflags hbd ⟨B.exec, B.bytes, B.returns, hml, hown, hts, hX, hbl, B.notSynchronized, hgv⟩
    obtain ⟨t, a1, o, b1, b2, b3⟩ := K s₁ rfl X₀
    exact ⟨t, o, a1, b1, b2, b3⟩
theorem lw_pre_spec {args : Array Value} {s : State} (h : (Jvm.Cond.and given_1 narrow_1).before args s = true) (hr : rest_1_c.before args s = true) : ∃ (b : Addr) (xs : List Int32), lw_P b xs args s := by
  have hs := flat_of_before _ h
  have hq := flat_of_before _ hr
  have hc : (Cond.count 1).before args s = true := hs _ (by decide +kernel)
  have harr : (Cond.arrayOf (.arg 0) .int).before args s = true := hs _ (by decide +kernel)
  have hle : (Cond.le (.length (.arg 0)) (.int 6)).before args s = true := hs _ (by decide +kernel)
  have hlen : (Cond.isInt (.length (.arg 0))).before args s = true := hq _ (by decide +kernel)
  have hall : (Cond.all (.arg 0) (.isInt (.elem (.arg 0) (.index 0)))).before args s = true := hq _ (by decide +kernel)
  obtain ⟨b, xs, hb, hx⟩ := State.ints_of_pre rfl harr hlen hall
  have hsm : xs.length < 2 ^ 31 := hx.choose_spec.2.2.2
  have hev : (Term.length (.arg 0)).eval args s none [] s = some (.int xs.length.toInt32) := hx.length_eval hb
  have hv := Cond.le_ints hev (show (Term.int 6).eval args s none [] s = some (.int 6) from rfl)
  have hd : xs.length.toInt32 ≤ 6 := by
    simpa [Cond.before, Cond.holds, hv] using hle
  have hN : xs.length ≤ 6 := (Int32.ofNat_le_ofNat hsm (by decide)).mp (show Int32.ofNat xs.length ≤ Int32.ofNat 6 from hd)
  exact ⟨b, xs, Cond.one_arg hc (show args[0]? = some (.ref b) from hb), hx, hN, h⟩
theorem lw_comes (l : Launch) (hflags : l.flags = flags0) : Comes l x (Jvm.Cond.code x code maxLocals ret :: tables_1) room_1 (fun tb e args s => Calls_1 tb e args s ∧ rest_1 tb e args s ∧ Pre_1 tb e args s)
    (fun _ _ args s o t => lw_Q args s o t) := by
  intro p e ha hc hk s m args below hf hfit hheap happ hpre
  obtain ⟨b, xs, hP⟩ := lw_pre_spec hpre.2.2 hpre.2.1
  obtain ⟨k, o, h1, h2, h3, hQ⟩ := lw_walk l hflags b xs p e ha hc hk s m args below hf ((Spec.applies_iff_loose hf).mp happ).1 hP trivial
  exact ⟨k, o, h1, h2, h3, hQ⟩
theorem lw_frame {s t : State} {o : Outcome} {args : Array Value} (h : Framed s o t [] 600000 7302249) :
    Framed s o t (fieldLocs frame_1_writes args s ++ arrayLocs frame_1_arrays args s ++ staticLocs frame_1_statics s) 600000 7302249 := h
theorem lw_limb (L : Cond) (hL : ∀ (args : Array Value) (s t : State), L.after args s (.returned (some (.int 1))) t = true) :
    ArmFor flags0 classFile x code maxLocals ret World_1 tables_1 room_1 Calls_1 rest_1 Pre_1
      (fun tb e a s o t => postC L tb e a s o t ∧ Framed s o t (fieldLocs frame_1_writes a s ++ arrayLocs frame_1_arrays a s ++ staticLocs frame_1_statics s) 600000 7302249) := by
  intro l hflags _ _ p e ha hc hk s m args below hf hfit hheap happ hpre
  obtain ⟨k, o, h1, h2, h3, rfl, hF⟩ := lw_comes l hflags p e ha hc hk s m args below hf hfit hheap happ hpre
  exact ⟨k, _, h1, h2, h3, hL args s _, lw_frame hF⟩
theorem i_vc : Claimed_1_1 ∧ Claimed_1_2 := ⟨lw_limb limb_1_1 (fun args s t => by simp [limb_1_1, Cond.after, Cond.holds, Cond.value]), lw_limb limb_1_2 (fun args s t => Cond.after_iff.mpr (by
  first | (rw [show limb_1_2 = Cond.eq .result (.int 1) from rfl, Cond.eq_ints (x := 1) (y := 1) rfl rfl]; simp; done) | (simp [limb_1_2, Cond.value, Term.eval]; done)))⟩
