set_option maxHeartbeats 4000000 in
set_option maxRecDepth 100000 in
theorem law_switch {p : Program} {l : Launch} {e : Env} {s : State} {m : MethodId} {below : List Frame} {meth : Method} {c : Code} {D : va_G} {g : Nat → ClassId} {ev : Nat → Nat} {b L i : Nat} {xs : Nat → Int32} {A : Nat → Prop} {x y : Nat} {H : Heap} {locs : List Loc} {ls : Array Slot} (C0 : lwC p s m meth c b L xs A D g ev) (hi : i + 6 ≤ L) (hR : lR D g A s H locs x y) (hl : lv_has ls 4 [(3, .int (nI i)), (2, .ref y), (1, .ref x), (0, .ref b)]) (kk : ∀ (H : Heap) (locs : List Loc) (ls : Array Slot), lR D g A s H locs x y → lv_has ls 4 [(3, .int (nI i)), (2, .ref y), (1, .ref x), (0, .ref b)] → W p l e room_1 s m #[Value.ref b] below meth c H locs 364 18454 (lw_Z below #[Value.ref b] s) (F0 m 1513 ls [])) (j : Nat) (hj : j < 64) : W p l e room_1 s m #[Value.ref b] below meth c H locs 364 18454 (lw_Z below #[Value.ref b] s) (F0 m 33 ls [.int (nI j)]) := by
  have hx := C0.1
  have hb := C0.2.1
  match j, hj with
  | 0, _ => exact lv_tableIn (tgt := 236) hx hb dL_law_33 (by decide) (by decide) rfl (by decide) (law_case_0 C0 hi hR hl kk)
  | 1, _ => exact lv_tableIn (tgt := 299) hx hb dL_law_33 (by decide) (by decide) rfl (by decide) (law_case_1 C0 hi hR hl kk)
  | 2, _ => exact lv_tableIn (tgt := 322) hx hb dL_law_33 (by decide) (by decide) rfl (by decide) (law_case_2 C0 hi hR hl kk)
  | 3, _ => exact lv_tableIn (tgt := 335) hx hb dL_law_33 (by decide) (by decide) rfl (by decide) (law_case_3 C0 hi hR hl kk)
  | 4, _ => exact lv_tableIn (tgt := 358) hx hb dL_law_33 (by decide) (by decide) rfl (by decide) (law_case_4 C0 hi hR hl kk)
  | 5, _ => exact lv_tableIn (tgt := 391) hx hb dL_law_33 (by decide) (by decide) rfl (by decide) (law_case_5 C0 hi hR hl kk)
  | 6, _ => exact lv_tableIn (tgt := 424) hx hb dL_law_33 (by decide) (by decide) rfl (by decide) (law_case_6 C0 hi hR hl kk)
  | 7, _ => exact lv_tableIn (tgt := 457) hx hb dL_law_33 (by decide) (by decide) rfl (by decide) (law_case_7 C0 hi hR hl kk)
  | 8, _ => exact lv_tableIn (tgt := 490) hx hb dL_law_33 (by decide) (by decide) rfl (by decide) (law_case_8 C0 hi hR hl kk)
  | 9, _ => exact lv_tableIn (tgt := 503) hx hb dL_law_33 (by decide) (by decide) rfl (by decide) (law_case_9 C0 hi hR hl kk)
  | 10, _ => exact lv_tableIn (tgt := 536) hx hb dL_law_33 (by decide) (by decide) rfl (by decide) (law_case_10 C0 hi hR hl kk)
  | 11, _ => exact lv_tableIn (tgt := 559) hx hb dL_law_33 (by decide) (by decide) rfl (by decide) (law_case_11 C0 hi hR hl kk)
  | 12, _ => exact lv_tableIn (tgt := 592) hx hb dL_law_33 (by decide) (by decide) rfl (by decide) (law_case_12 C0 hi hR hl kk)
  | 13, _ => exact lv_tableIn (tgt := 625) hx hb dL_law_33 (by decide) (by decide) rfl (by decide) (law_case_13 C0 hi hR hl kk)
  | 14, _ => exact lv_tableIn (tgt := 658) hx hb dL_law_33 (by decide) (by decide) rfl (by decide) (law_case_14 C0 hi hR hl kk)
  | 15, _ => exact lv_tableIn (tgt := 691) hx hb dL_law_33 (by decide) (by decide) rfl (by decide) (law_case_15 C0 hi hR hl kk)
  | 16, _ => exact lv_tableIn (tgt := 704) hx hb dL_law_33 (by decide) (by decide) rfl (by decide) (law_case_16 C0 hi hR hl kk)
  | 17, _ => exact lv_tableIn (tgt := 717) hx hb dL_law_33 (by decide) (by decide) rfl (by decide) (law_case_17 C0 hi hR hl kk)
  | 18, _ => exact lv_tableIn (tgt := 760) hx hb dL_law_33 (by decide) (by decide) rfl (by decide) (law_case_18 C0 hi hR hl kk)
  | 19, _ => exact lv_tableIn (tgt := 783) hx hb dL_law_33 (by decide) (by decide) rfl (by decide) (law_case_19 C0 hi hR hl kk)
  | 20, _ => exact lv_tableIn (tgt := 796) hx hb dL_law_33 (by decide) (by decide) rfl (by decide) (law_case_20 C0 hi hR hl kk)
  | 21, _ => exact lv_tableIn (tgt := 809) hx hb dL_law_33 (by decide) (by decide) rfl (by decide) (law_case_21 C0 hi hR hl kk)
  | 22, _ => exact lv_tableIn (tgt := 822) hx hb dL_law_33 (by decide) (by decide) rfl (by decide) (law_case_22 C0 hi hR hl kk)
  | 23, _ => exact lv_tableIn (tgt := 845) hx hb dL_law_33 (by decide) (by decide) rfl (by decide) (law_case_23 C0 hi hR hl kk)
  | 24, _ => exact lv_tableIn (tgt := 868) hx hb dL_law_33 (by decide) (by decide) rfl (by decide) (law_case_24 C0 hi hR hl kk)
  | 25, _ => exact lv_tableIn (tgt := 891) hx hb dL_law_33 (by decide) (by decide) rfl (by decide) (law_case_25 C0 hi hR hl kk)
  | 26, _ => exact lv_tableIn (tgt := 924) hx hb dL_law_33 (by decide) (by decide) rfl (by decide) (law_case_26 C0 hi hR hl kk)
  | 27, _ => exact lv_tableIn (tgt := 947) hx hb dL_law_33 (by decide) (by decide) rfl (by decide) (law_case_27 C0 hi hR hl kk)
  | 28, _ => exact lv_tableIn (tgt := 980) hx hb dL_law_33 (by decide) (by decide) rfl (by decide) (law_case_28 C0 hi hR hl kk)
  | 29, _ => exact lv_tableIn (tgt := 1023) hx hb dL_law_33 (by decide) (by decide) rfl (by decide) (law_case_29 C0 hi hR hl kk)
  | 30, _ => exact lv_tableIn (tgt := 1056) hx hb dL_law_33 (by decide) (by decide) rfl (by decide) (law_case_30 C0 hi hR hl kk)
  | 31, _ => exact lv_tableIn (tgt := 1079) hx hb dL_law_33 (by decide) (by decide) rfl (by decide) (law_case_31 C0 hi hR hl kk)
  | 32, _ => exact lv_tableIn (tgt := 1092) hx hb dL_law_33 (by decide) (by decide) rfl (by decide) (law_case_32 C0 hi hR hl kk)
  | 33, _ => exact lv_tableIn (tgt := 1105) hx hb dL_law_33 (by decide) (by decide) rfl (by decide) (law_case_33 C0 hi hR hl kk)
  | 34, _ => exact lv_tableIn (tgt := 1128) hx hb dL_law_33 (by decide) (by decide) rfl (by decide) (law_case_34 C0 hi hR hl kk)
  | 35, _ => exact lv_tableIn (tgt := 1151) hx hb dL_law_33 (by decide) (by decide) rfl (by decide) (law_case_35 C0 hi hR hl kk)
  | 36, _ => exact lv_tableIn (tgt := 1174) hx hb dL_law_33 (by decide) (by decide) rfl (by decide) (law_case_36 C0 hi hR hl kk)
  | 37, _ => exact lv_tableIn (tgt := 1217) hx hb dL_law_33 (by decide) (by decide) rfl (by decide) (law_case_37 C0 hi hR hl kk)
  | 38, _ => exact lv_tableIn (tgt := 1240) hx hb dL_law_33 (by decide) (by decide) rfl (by decide) (law_case_38 C0 hi hR hl kk)
  | 39, _ => exact lv_tableIn (tgt := 1299) hx hb dL_law_33 (by decide) (by decide) rfl (by decide) (law_case_39 C0 hi hR hl kk)
  | 40, _ => exact lv_tableIn (tgt := 1322) hx hb dL_law_33 (by decide) (by decide) rfl (by decide) (law_case_40 C0 hi hR hl kk)
  | 41, _ => exact lv_tableIn (tgt := 1345) hx hb dL_law_33 (by decide) (by decide) rfl (by decide) (law_case_41 C0 hi hR hl kk)
  | 42, _ => exact lv_tableIn (tgt := 1368) hx hb dL_law_33 (by decide) (by decide) rfl (by decide) (law_case_42 C0 hi hR hl kk)
  | 43, _ => exact lv_tableIn (tgt := 1401) hx hb dL_law_33 (by decide) (by decide) rfl (by decide) (law_case_43 C0 hi hR hl kk)
  | 44, _ => exact lv_tableIn (tgt := 1444) hx hb dL_law_33 (by decide) (by decide) rfl (by decide) (law_case_44 C0 hi hR hl kk)
  | 45, _ => exact lv_tableIn (tgt := 1467) hx hb dL_law_33 (by decide) (by decide) rfl (by decide) (law_case_45 C0 hi hR hl kk)
  | 46, _ => exact lv_tableIn (tgt := 1490) hx hb dL_law_33 (by decide) (by decide) rfl (by decide) (law_case_46 C0 hi hR hl kk)
  | 47, _ => exact lv_tableOut (tgt := 1513) hx hb dL_law_33 (by decide) (by decide) (kk _ _ _ hR hl)
  | 48, _ => exact lv_tableOut (tgt := 1513) hx hb dL_law_33 (by decide) (by decide) (kk _ _ _ hR hl)
  | 49, _ => exact lv_tableOut (tgt := 1513) hx hb dL_law_33 (by decide) (by decide) (kk _ _ _ hR hl)
  | 50, _ => exact lv_tableOut (tgt := 1513) hx hb dL_law_33 (by decide) (by decide) (kk _ _ _ hR hl)
  | 51, _ => exact lv_tableOut (tgt := 1513) hx hb dL_law_33 (by decide) (by decide) (kk _ _ _ hR hl)
  | 52, _ => exact lv_tableOut (tgt := 1513) hx hb dL_law_33 (by decide) (by decide) (kk _ _ _ hR hl)
  | 53, _ => exact lv_tableOut (tgt := 1513) hx hb dL_law_33 (by decide) (by decide) (kk _ _ _ hR hl)
  | 54, _ => exact lv_tableOut (tgt := 1513) hx hb dL_law_33 (by decide) (by decide) (kk _ _ _ hR hl)
  | 55, _ => exact lv_tableOut (tgt := 1513) hx hb dL_law_33 (by decide) (by decide) (kk _ _ _ hR hl)
  | 56, _ => exact lv_tableOut (tgt := 1513) hx hb dL_law_33 (by decide) (by decide) (kk _ _ _ hR hl)
  | 57, _ => exact lv_tableOut (tgt := 1513) hx hb dL_law_33 (by decide) (by decide) (kk _ _ _ hR hl)
  | 58, _ => exact lv_tableOut (tgt := 1513) hx hb dL_law_33 (by decide) (by decide) (kk _ _ _ hR hl)
  | 59, _ => exact lv_tableOut (tgt := 1513) hx hb dL_law_33 (by decide) (by decide) (kk _ _ _ hR hl)
  | 60, _ => exact lv_tableOut (tgt := 1513) hx hb dL_law_33 (by decide) (by decide) (kk _ _ _ hR hl)
  | 61, _ => exact lv_tableOut (tgt := 1513) hx hb dL_law_33 (by decide) (by decide) (kk _ _ _ hR hl)
  | 62, _ => exact lv_tableOut (tgt := 1513) hx hb dL_law_33 (by decide) (by decide) (kk _ _ _ hR hl)
  | 63, _ => exact lv_tableOut (tgt := 1513) hx hb dL_law_33 (by decide) (by decide) (kk _ _ _ hR hl)
  | (k + 64), h => exact absurd h (by omega)
set_option maxHeartbeats 4000000 in
set_option maxRecDepth 100000 in
theorem law_loop {p : Program} {l : Launch} {e : Env} {s : State} {m : MethodId} {below : List Frame} {meth : Method} {c : Code} {D : va_G} {g : Nat → ClassId} {ev : Nat → Nat} {b L : Nat} {xs : Nat → Int32} {A : Nat → Prop} {x y : Nat} (C0 : lwC p s m meth c b L xs A D g ev) : ∀ (n i : Nat) (H : Heap) (locs : List Loc) (ls : Array Slot), i ≤ L → L < i + 6 * n → lR D g A s H locs x y → lv_has ls 4 [(3, .int (nI i)), (2, .ref y), (1, .ref x), (0, .ref b)] → W p l e room_1 s m #[Value.ref b] below meth c H locs 364 18454 (lw_Z below #[Value.ref b] s) (F0 m 18 ls []) := by
  obtain ⟨hx, hb, hr, hml, hown, hts, hX, hbl, hlocks, hA, hAe, hbA, hK, hE, hL⟩ := id C0
  intro n
  induction n with
  | zero => intro i H locs ls h1 h2; exact absurd h2 (by omega)
  | succ n ih =>
    intro i H locs ls h1 h2 hR hl
    have hS : va_S A s.heap H locs := by obtain ⟨_, _, _, _, _, _, _, _, _, _, _, _, _, _, _, _, _, _, _, _, _, _, h⟩ := hR; exact h
    refine lv_iload_n hx hb dL_law_18 rfl (lv_at hl 0 rfl) ?_
    refine lv_aload_n hx hb dL_law_19 rfl (lv_at hl 3 rfl) ?_
    refine va_slen hx hb hX hbl hbA hS dL_law_20 ?_
    refine k_top (v := nI L) rfl ?_
    refine lv_bipush (v := 6) hx hb dL_law_21 (by decide) ?_
    refine lv_isub hx hb dL_law_23 ?_
    refine lv_icmp_gt (tgt := 1519) hx hb dL_law_24 (by decide) (fun c9 => ?_) (fun c9 => ?_)
    · refine lv_iconst (v := 1) hx hb dL_law_1519 (by decide) ?_
      refine va_forget (fun q hq => hAe _ (hS.2.2 q hq)) ?_
      refine W.widen (k := 600000) (n := 7302249) (Nat.le_of_ble_eq_true rfl) (Nat.le_of_ble_eq_true rfl) ?_
      exact lw_ret hx hb hr hlocks dL_law_1520
    · have hi := l_ge hL h1 c9
      refine lv_aload_n hx hb dL_law_27 rfl (lv_at hl 3 rfl) ?_
      refine lv_iload_n hx hb dL_law_28 rfl (lv_at hl 0 rfl) ?_
      refine va_sld hx hb hX hbl hbA hS (vp_in_nI (n := i) (N := L) (by omega) (by omega)) dL_law_29 ?_
      refine lv_bipush (v := 63) hx hb dL_law_30 (by decide) ?_
      refine lv_iand hx hb dL_law_32 ?_
      obtain ⟨j, hj, ej⟩ := pk_andE (xs (nI i).toNatClampNeg) (m := 63) 6 (by decide)
      refine k_top (v := nI j) ej ?_
      refine law_switch C0 hi hR hl (fun H locs ls hR hl => ?_) j hj
      refine lv_iinc (v := nI (i + 6)) (lv' := [(3, .int (nI (i + 6))), (2, .ref y), (1, .ref x), (0, .ref b)]) hx hb dL_law_1513 hl (k := 0) rfl (show nI i + Int32.ofInt 6 = nI (i + 6) from nI_add i 6) (by decide) rfl (fun ls hl => ?_)
      refine lv_goto (tgt := 18) hx hb dL_law_1516 (by decide) ?_
      exact ih (i + 6) _ _ _ (by omega) (by omega) hR hl
set_option maxHeartbeats 4000000 in
set_option maxRecDepth 100000 in
theorem whole_start {p : Program} {e : Env} {s : State} {m : MethodId} {below : List Frame} {meth : Method} {c : Code} (l : Launch) (hflags : l.flags = flags0) {b L : Nat} {xs : Nat → Int32} (hL : L ≤ 3072) (C0 : lw_At p s m meth c b L xs) : W p l e room_1 s m #[Value.ref b] below meth c s.heap [] 0 0 (lw_Z below #[Value.ref b] s) (entryFrame m ([Value.ref b] : List Value).toArray 4) := by
  obtain ⟨hx, hb, hr, hml, hown, hts0, hX, hbl, hlocks, hgv⟩ := id C0
  have hown : s.vm.findClass RL = some m.cls := hown
  have hts : ∀ w ∈ wsL_law, w.before #[Value.ref b] s = true := fun w h => hts0 w (wsL_law_in w h)
  obtain ⟨A, hAq⟩ : ∃ A : Nat → Prop, A = (fun q : Nat => s.heap.size ≤ q) := ⟨_, rfl⟩
  have hA : ∀ q : Nat, s.heap.size ≤ q → A q := fun q h => by rw [hAq]; exact h
  have hAe : ∀ q : Nat, A q → s.heap.size ≤ q := fun q h => by rw [hAq] at h; exact h
  have hAn : ∀ a : Nat, a < s.heap.size → ¬ A a := fun a h q => absurd (hAe a q) (Nat.not_le.mpr h)
  have hbA : ¬ A b := hAn b hbl
  obtain ⟨D, g, hK⟩ := law_known hts0 hts
  obtain ⟨ev, hE⟩ := law_env hts0 hgv hAn
  have hS : va_S A s.heap s.heap [] := va_S.rf
  have hl := lv_entry ([.ref b]) (n := 4) (Nat.le_of_ble_eq_true rfl)
  rw [lg_entry_eq]
  generalize (lg_sl ([.ref b]) ++ List.replicate (4 - (lg_sl ([.ref b])).length) Slot.unset).toArray = ls at hl ⊢
  have hl : lv_has ls 4 [(0, .ref b)] := hl
  refine c_newr (ci := 8) (fs := dfX8) (C := RX8) (T := TX8) (N' := 14) (P := fun q M _ => M q 13 = 0) hx hb hts inlX8 tyX8 tyX8_ok hown (hts (.classLink RL 7 RX8) (kr_wsL_law_r1 _ (List.mem_of_getElem? (i := 0) rfl))) (hts (.instantiable RX8 14) (kr_wsL_law_r1 _ (List.mem_of_getElem? (i := 1) rfl))) (hts (.initialized RX8) (kr_wsL_law_r1 _ (List.mem_of_getElem? (i := 2) rfl))) hK hS hA rfl fsX8 (Nat.le_of_ble_eq_true rfl) (Nat.le_of_ble_eq_true rfl) dL_law_0 dL_law_3 (fun q H1 hat hS hAq => va_runI (As := []) (rest := [.ref q]) ⟨hx, hb, hml, hown, hts⟩ (c_X8 l D g ev _ q) (cwI 0 hts gL_law_X8_init rfl rfl rfl (hts (.initialized RX8) (kr_wsL_law_r1 _ (List.mem_of_getElem? (i := 2) rfl))) (hts (.methodLink RL 9 yX8_init) (kr_wsL_law_r1 _ (List.mem_of_getElem? (i := 6) rfl))) (hts (.instanceMethod yX8_init) (kr_wsL_law_r1 _ (List.mem_of_getElem? (i := 7) rfl))) rfl (by decide +kernel) ⟨Nat.le_of_ble_eq_true rfl, Nat.le_of_ble_eq_true rfl⟩) (c_preI hK hE hS hA hAq hat) rfl rfl hl.1 rfl (lv_room (Nat.le_of_ble_eq_true rfl)) dL_law_4 ⟨Nat.le_of_ble_eq_true rfl, Nat.le_of_ble_eq_true rfl⟩) (fun x Hx locsx σx Mx Nx Rx hzx hkx wx tx gx hdx hpx hS => ?_)
  refine W.cs (cells' := 323) (slots' := 7457) rfl rfl ?_
  refine lv_astore_n (lv' := [(1, .ref x), (0, .ref b)]) hx hb dL_law_7 rfl hl (by decide) rfl (fun ls hl => ?_)
  refine c_newr (ci := 9) (fs := dfX9) (C := RX9) (T := TX9) (N' := 67) (P := fun q M R => KV M R q ∧ HV M R q ∧ CW M R q ∧ WV M R q ∧ BV M R q ∧ M q 64 = 0) hx hb hts inlX9 tyX9 tyX9_ok hown (hts (.classLink RL 10 RX9) (kr_wsL_law_r1 _ (List.mem_of_getElem? (i := 3) rfl))) (hts (.instantiable RX9 67) (kr_wsL_law_r1 _ (List.mem_of_getElem? (i := 4) rfl))) (hts (.initialized RX9) (kr_wsL_law_r1 _ (List.mem_of_getElem? (i := 5) rfl))) hK hS hA rfl fsX9 (Nat.le_of_ble_eq_true rfl) (Nat.le_of_ble_eq_true rfl) dL_law_8 dL_law_11 (fun q H1 hat hS hAq => va_runI (As := []) (rest := [.ref q]) ⟨hx, hb, hml, hown, hts⟩ (c_X9 l D g ev _ q) (cwI 0 hts gL_law_X9_init rfl rfl rfl (hts (.initialized RX9) (kr_wsL_law_r1 _ (List.mem_of_getElem? (i := 5) rfl))) (hts (.methodLink RL 12 yX9_init) (kr_wsL_law_r9 _ (List.mem_of_getElem? (i := 11) rfl))) (hts (.instanceMethod yX9_init) (kr_wsL_law_r9 _ (List.mem_of_getElem? (i := 12) rfl))) rfl (by decide +kernel) ⟨Nat.le_of_ble_eq_true rfl, Nat.le_of_ble_eq_true rfl⟩) (c_preI hK hE hS hA hAq hat) rfl rfl hl.1 rfl (lv_room (Nat.le_of_ble_eq_true rfl)) dL_law_12 ⟨Nat.le_of_ble_eq_true rfl, Nat.le_of_ble_eq_true rfl⟩) (fun y Hy locsy σy My Ny Ry hzy hky wy ty gy hdy hpy hS => ?_)
  refine W.cs (cells' := 364) (slots' := 18454) rfl rfl ?_
  refine lv_astore_n (lv' := [(2, .ref y), (1, .ref x), (0, .ref b)]) hx hb dL_law_15 rfl hl (by decide) rfl (fun ls hl => ?_)
  refine lv_iconst (v := 0) hx hb dL_law_16 (by decide) ?_
  refine lv_istore_n (lv' := [(3, .int 0), (2, .ref y), (1, .ref x), (0, .ref b)]) hx hb dL_law_17 rfl hl (by decide) rfl (fun ls hl => ?_)
  obtain ⟨kv, hv, cw, wv, bv, ht⟩ := hpy
  have hb0 : ∀ a, σx a ≠ none → s.heap.size ≤ a := fun a h => hdx a h
  have hR : lR D g A s Hy locsy x y := ⟨σx, Mx, Nx, Rx, σy, My, Ny, Ry, wx.other (fun q h => hky q (wx.in h)), tx, gx, fun a h => ⟨hA a (hdx a h), by
    cases e9 : σy a with
    | none => rfl
    | some t => exact absurd (hdy a (by rw [e9]; exact fun q => by cases q)) (Nat.not_le.mpr (wx.in h))⟩, wy, ty, gy, fun a h => hA a (Nat.le_trans hzx (hdy a h)), kv, hv, cw, wv, bv, hpx.trans ht.symm, hS⟩
  exact law_loop ⟨hx, hb, hr, hml, hown, hts, hX, hbl, hlocks, hA, hAe, hbA, hK, hE, hL⟩ (L + 1) 0 _ _ _ (Nat.zero_le _) (by omega) hR hl
