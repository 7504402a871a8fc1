theorem k_arr {args : Array Value} {s : State} {ty : FieldType} (h : (Cond.arrayClass ty).before args s = true) : ∃ cA : ClassId, ArrOfT s cA ty ∧ s.vm.findClass ("[" ++ ty.toString) = some cA := by
  obtain ⟨cA, kA, comp, h1, h2, h3⟩ := Cond.arrayClass_spec h
  exact ⟨cA, fun n z => ⟨fun k h => (by cases h), kA, h2, comp, h3⟩, h1⟩
theorem k_arrO {s : State} (h : va_AO "CatLeases$State" s) : ∃ cA : ClassId, ArrOfT s cA (.object "CatLeases$State") ∧ va_RA s cA (.object "CatLeases$State") := by
  obtain ⟨comp, cA, kA, h1, h2, h3, h4, h5⟩ := Cond.arrayOver_spec h
  exact ⟨cA, fun n z => ⟨fun k h => (by cases h), kA, h3, comp, h4⟩, kA, comp, h3, h4, h1, h5⟩
set_option maxHeartbeats 4000000 in
set_option maxRecDepth 100000 in
theorem law_known {b : Nat} {s : State} (hts0 : ∀ w ∈ lw_tbl, w.before #[Value.ref b] s = true) (hts : ∀ w ∈ wsL_law, w.before #[Value.ref b] s = true) : ∃ (D : va_G) (g : Nat → ClassId), va_K D vwCl (kY g) s := by
  obtain ⟨c0, i0, k0⟩ := u_known (C := RX0) (T := TX0) (N := 4) (n := 4) hts0 inX0 (hts0 (.instantiable RX0 4) (List.mem_of_getElem? (i := 411) (by decide +kernel)))
  obtain ⟨c1, i1, k1⟩ := u_known (C := RX1) (T := TX1) (N := 6) (n := 6) hts0 inX1 (hts0 (.instantiable RX1 6) (List.mem_of_getElem? (i := 456) (by decide +kernel)))
  obtain ⟨c2, i2, k2⟩ := u_known (C := RX2) (T := TX2) (N := 3) (n := 3) hts0 inX2 (hts0 (.instantiable RX2 3) (List.mem_of_getElem? (i := 232) (by decide +kernel)))
  obtain ⟨c3, i3, k3⟩ := u_known (C := RX3) (T := TX3) (N := 4) (n := 4) hts0 inX3 (hts0 (.instantiable RX3 4) (List.mem_of_getElem? (i := 437) (by decide +kernel)))
  obtain ⟨c4, i4, k4⟩ := u_known (C := RX4) (T := TX4) (N := 11) (n := 11) hts0 inX4 (hts0 (.instantiable RX4 11) (List.mem_of_getElem? (i := 165) (by decide +kernel)))
  obtain ⟨c5, i5, k5⟩ := u_known (C := RX5) (T := TX5) (N := 15) (n := 15) hts0 inX5 (hts0 (.instantiable RX5 15) (List.mem_of_getElem? (i := 159) (by decide +kernel)))
  obtain ⟨c6, i6, k6⟩ := u_known (C := RX6) (T := TX6) (N := 9) (n := 9) hts0 inX6 (hts0 (.instantiable RX6 9) (List.mem_of_getElem? (i := 483) (by decide +kernel)))
  obtain ⟨c7, i7, k7⟩ := u_known (C := RX7) (T := TX7) (N := 8) (n := 8) hts0 inX7 (hts0 (.instantiable RX7 8) (List.mem_of_getElem? (i := 171) (by decide +kernel)))
  obtain ⟨c8, i8, k8⟩ := u_known (C := RX8) (T := TX8) (N := 14) (n := 14) hts0 inX8 (hts0 (.instantiable RX8 14) (List.mem_of_getElem? (i := 151) (by decide +kernel)))
  obtain ⟨c9, i9, k9⟩ := u_known (C := RX9) (T := TX9) (N := 67) (n := 67) hts0 inX9 (hts0 (.instantiable RX9 67) (List.mem_of_getElem? (i := 1282) (by decide +kernel)))
  obtain ⟨a0, b0, d0⟩ := k_arr (hts0 (.arrayClass .byte) (List.mem_of_getElem? (i := 229) (by decide +kernel)))
  obtain ⟨a1, b1, d1⟩ := k_arr (hts0 (.arrayClass .int) (List.mem_of_getElem? (i := 230) (by decide +kernel)))
  obtain ⟨a2, b2, d2⟩ := k_arr (hts0 (.arrayClass .long) (List.mem_of_getElem? (i := 407) (by decide +kernel)))
  obtain ⟨a3, b3, d3⟩ := k_arr (hts0 (.arrayClass .boolean) (List.mem_of_getElem? (i := 517) (by decide +kernel)))
  obtain ⟨a4, b4, d4⟩ := k_arrO (va_AO.of (hts0 (.arrayOver (.object RX7)) (List.mem_of_getElem? (i := 417) (by decide +kernel))))
  refine ⟨(fun k => if k = 0 then c0 else if k = 1 then c1 else if k = 2 then c2 else if k = 3 then c3 else if k = 4 then c4 else if k = 5 then c5 else if k = 6 then c6 else if k = 7 then c7 else if k = 8 then c8 else c9, fun k => if k = 0 then i0 else if k = 1 then i1 else if k = 2 then i2 else if k = 3 then i3 else if k = 4 then i4 else if k = 5 then i5 else if k = 6 then i6 else if k = 7 then i7 else if k = 8 then i8 else i9), fun k => if k = 0 then a0 else if k = 1 then a1 else if k = 2 then a2 else if k = 3 then a3 else a4, ?_, ?_⟩
  · intro k q hq
    match k, hq with
    | 0, hq => cases hq; exact k0
    | 1, hq => cases hq; exact k1
    | 2, hq => cases hq; exact k2
    | 3, hq => cases hq; exact k3
    | 4, hq => cases hq; exact k4
    | 5, hq => cases hq; exact k5
    | 6, hq => cases hq; exact k6
    | 7, hq => cases hq; exact k7
    | 8, hq => cases hq; exact k8
    | 9, hq => cases hq; exact k9
    | k + 10, hq => simp [vwCl] at hq
  · intro k q hq
    match k, hq with
    | 0, hq => cases hq; exact ⟨b0, d0⟩
    | 1, hq => cases hq; exact ⟨b1, d1⟩
    | 2, hq => cases hq; exact ⟨b2, d2⟩
    | 3, hq => cases hq; exact ⟨b3, d3⟩
    | 4, hq => cases hq; exact ⟨b4, d4⟩
    | k + 5, hq => simp [kY] at hq
set_option maxRecDepth 100000 in
theorem law_bytes64 : ∀ j : Nat, j < 100 → Cond.eq (.elem (Term.field (Term.string "CatLeases$Reader" 64) "java/lang/String" "value" "[B") (.int (Int32.ofNat j))) (.int (kWB.getD j 0)) ∈ flatC (Jvm.Cond.and given_1 narrow_1) := by decide +kernel
set_option maxRecDepth 100000 in
theorem law_bytes270 : ∀ j : Nat, j < 11 → Cond.eq (.elem (Term.field (Term.string "CatLeases$Reader" 270) "java/lang/String" "value" "[B") (.int (Int32.ofNat j))) (.int (kSB.getD j 0)) ∈ flatC (Jvm.Cond.and given_1 narrow_1) := by decide +kernel
set_option maxHeartbeats 4000000 in
set_option maxRecDepth 100000 in
theorem law_env {b : Nat} {s : State} {A : Nat → Prop} (hts0 : ∀ w ∈ lw_tbl, w.before #[Value.ref b] s = true) (hgv : (Jvm.Cond.and given_1 narrow_1).before #[Value.ref b] s = true) (hAn : ∀ a : Nat, a < s.heap.size → ¬ A a) : ∃ ev : Nat → Nat, cEnv ev A s s.heap := by
  have hs := flat_of_before _ hgv
  have hel : ∀ j : Nat, j < 100 → (Cond.eq (.elem (Term.field (Term.string "CatLeases$Reader" 64) "java/lang/String" "value" "[B") (.int (Int32.ofNat j))) (.int (kWB.getD j 0))).before #[Value.ref b] s = true := fun j hj => hs _ (law_bytes64 j hj)
  obtain ⟨adK, adV, hSS, hev⟩ := vk_Sof (args := #[Value.ref b]) (s := s) (N := 1) (tm := fun _ => Term.string "CatLeases$Reader" 64) (len := [100]) (byt := [kWB]) (A := A)
    (fun i hi => by rw [show i = 0 by omega]; decide) (fun i hi => hs (Cond.exactly (Term.string "CatLeases$Reader" 64) "java/lang/String") (by decide +kernel))
    (fun i hi => hs (Cond.eq (Term.field (Term.string "CatLeases$Reader" 64) "java/lang/String" "coder" "B") (.int 0)) (by decide +kernel)) (fun i hi => hs (Cond.arrayOf (Term.field (Term.string "CatLeases$Reader" 64) "java/lang/String" "value" "[B") .byte) (by decide +kernel))
    (fun i hi => by rw [show i = 0 by omega]; exact hs (Cond.eq (.length (Term.field (Term.string "CatLeases$Reader" 64) "java/lang/String" "value" "[B")) (.int 100)) (by decide +kernel))
    (fun i hi j hj => by rw [show i = 0 by omega] at hj ⊢; exact hel j hj) (fun i j hi hj hne => absurd (by omega) hne) hAn
  obtain ⟨h1, h2, h3, h4⟩ := hSS.1 0 (by decide)
  have hel2 : ∀ j : Nat, j < 11 → (Cond.eq (.elem (Term.field (Term.string "CatLeases$Reader" 270) "java/lang/String" "value" "[B") (.int (Int32.ofNat j))) (.int (kSB.getD j 0))).before #[Value.ref b] s = true := fun j hj => hs _ (law_bytes270 j hj)
  obtain ⟨adK2, adV2, hSS2, hev2⟩ := vk_Sof (args := #[Value.ref b]) (s := s) (N := 1) (tm := fun _ => Term.string "CatLeases$Reader" 270) (len := [11]) (byt := [kSB]) (A := A)
    (fun i hi => by rw [show i = 0 by omega]; decide) (fun i hi => hs (Cond.exactly (Term.string "CatLeases$Reader" 270) "java/lang/String") (by decide +kernel))
    (fun i hi => hs (Cond.eq (Term.field (Term.string "CatLeases$Reader" 270) "java/lang/String" "coder" "B") (.int 0)) (by decide +kernel)) (fun i hi => hs (Cond.arrayOf (Term.field (Term.string "CatLeases$Reader" 270) "java/lang/String" "value" "[B") .byte) (by decide +kernel))
    (fun i hi => by rw [show i = 0 by omega]; exact hs (Cond.eq (.length (Term.field (Term.string "CatLeases$Reader" 270) "java/lang/String" "value" "[B")) (.int 11)) (by decide +kernel))
    (fun i hi j hj => by rw [show i = 0 by omega] at hj ⊢; exact hel2 j hj) (fun i j hi hj hne => absurd (by omega) hne) hAn
  obtain ⟨h12, h22, h32, h42⟩ := hSS2.1 0 (by decide)
  refine ⟨fun k => if k = 0 then adK 0 else if k = 1 then adV 0 else if k = 2 then adK2 0 else adV2 0, ⟨?_, vk_R.of (hts0 (.stringRef RX5 64 kWT) (List.mem_of_getElem? (i := 305) (by decide +kernel))) (hev 0 (by decide)), h1, h2, h3, h4, ?_, ?_, va_AO.of (hts0 (.arrayOver (.object RX7)) (List.mem_of_getElem? (i := 417) (by decide +kernel)))⟩, vk_R.of (hts0 (.stringRef RX5 270 kST) (List.mem_of_getElem? (i := 625) (by decide +kernel))) (hev2 0 (by decide)), h12, h22, h32, h42, ?_⟩
  · intro w hw
    simp only [kNest, List.mem_cons, List.not_mem_nil, or_false] at hw
    rcases hw with rfl | rfl | rfl | rfl | rfl | rfl
    · exact va_Nw.of rfl (hts0 (.methodLinkNest RX8 26 yX4_init "CatLeases") (List.mem_of_getElem? (i := 409) (by decide +kernel)))
    · exact va_Nw.of rfl (hts0 (.methodLinkNest RX8 54 yX3_init "CatLeases") (List.mem_of_getElem? (i := 438) (by decide +kernel)))
    · exact va_Nw.of rfl (hts0 (.methodLinkNest RX8 61 yX1_init "CatLeases") (List.mem_of_getElem? (i := 457) (by decide +kernel)))
    · exact va_Nw.of rfl (hts0 (.methodLinkNest RX8 75 yX6_init "CatLeases") (List.mem_of_getElem? (i := 484) (by decide +kernel)))
    · exact va_Nw.of rfl (hts0 (.methodLinkNest RX4 46 yX2_init "CatLeases") (List.mem_of_getElem? (i := 233) (by decide +kernel)))
    · exact va_Nw.of rfl (hts0 (.methodLinkNest RX5 11 yX4_init "CatLeases") (List.mem_of_getElem? (i := 166) (by decide +kernel)))
  · exact va_Zof (hts0 (.laysStatic "java/lang/String" "COMPACT_STRINGS" "Z") (List.mem_of_getElem? (i := 315) (by decide +kernel))) (hts0 (.initialized "java/lang/String") (List.mem_of_getElem? (i := 137) (by decide +kernel))) (va_eqi (hs (Cond.eq (.static "java/lang/String" "COMPACT_STRINGS" "Z") (.int 1)) (by decide +kernel))) hAn
  · exact va_Zqof (hts0 (.laysStatic "jdk/internal/util/Preconditions" "SIOOBE_FORMATTER" "Ljava/util/function/BiFunction;") (List.mem_of_getElem? (i := 331) (by decide +kernel))) (hts0 (.initialized "jdk/internal/util/Preconditions") (List.mem_of_getElem? (i := 139) (by decide +kernel))) (hs (Cond.isRef (.static "jdk/internal/util/Preconditions" "SIOOBE_FORMATTER" "Ljava/util/function/BiFunction;")) (by decide +kernel)) hAn
  · exact va_Zof (hts0 (.laysStatic "java/lang/String" "COMPACT_STRINGS" "Z") (List.mem_of_getElem? (i := 315) (by decide +kernel))) (hts0 (.initialized "java/lang/String") (List.mem_of_getElem? (i := 137) (by decide +kernel))) (va_eqi (hs (Cond.eq (.static "java/lang/String" "COMPACT_STRINGS" "Z") (.int 1)) (by decide +kernel))) hAn
