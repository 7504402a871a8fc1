set_option maxHeartbeats 4000000 in
set_option maxRecDepth 100000 in
theorem c_X0 (l : Launch) (D : va_G) (g : Nat → ClassId) (ev : Nat → Nat) (sz z : Nat) : Met l yX0_init wsX0_init ({ frames := 2, cells := 247, slots := 1845, locals := 43 }) (va_Pc [.ref z] (cPre D g ev 0 dfX0 z sz)) (cQ D g z 0 (fun _ _ => True) (cA z sz)) 247 1845 (cA z sz) := by
  refine c_head (cc := cX0_init) (maxL := 2) (by decide) rfl (Nat.le_of_ble_eq_true rfl) ?_
  intro p e s m below meth c ls A Q ar hQ hx hb hr hlocks hml hown hin hts hA hAz hK hE hJ hS hl
  have hown : s.vm.findClass RX0 = some m.cls := hown
  have hl : lv_has ls 2 [(0, .ref z)] := hl
  refine lv_aload_n hx hb dX0_init_0 rfl (lv_at hl 0 rfl) ?_
  refine W.objInit hx hb hown (hts (.methodLink RX0 3 objectInit) (List.mem_of_getElem? (i := 1) rfl)) (hts (.instanceMethod objectInit) (List.mem_of_getElem? (i := 2) rfl)) (hts (.code objectInit ⟨#[0xb1]⟩ 1 none) (List.mem_of_getElem? (i := 3) rfl)) rfl (by rw [hml]; exact hl.1) rfl dX0_init_1 (Nat.le_of_ble_eq_true rfl) (Nat.le_of_ble_eq_true rfl) ?_
  refine W.eq (g2 := F0 m 4 ls []) rfl ?_
  refine lv_aload_n hx hb dX0_init_4 rfl (lv_at hl 0 rfl) ?_
  refine lv_iconst (v := 0) hx hb dX0_init_5 (by decide) ?_
  refine c_put (D := D) (ci := 0) (v := .int 0) (ty := .int) (C := RX0) (T := TX0) (N' := 4) hx hb hts iX0_init_X0 tyX0 tyX0_ok nmX0 hown hK hJ hS 0 rfl rfl 0 (by decide) (hts (.fieldLink RX0 9 "CatLeases$Acts" "undoable" "I") (List.mem_of_getElem? (i := 4) rfl)) (fun _ h9 => h9) rfl (by decide +kernel) rfl rfl (Nat.le_of_ble_eq_true rfl) dX0_init_6 (fun H locs hJ hS => ?_)
  have hJ : cJ D g A [(z, .inr (0, [.int 0, .int 0, .null, .int 0]))] [] true H := hJ
  refine lv_aload_n hx hb dX0_init_9 rfl (lv_at hl 0 rfl) ?_
  refine lv_iconst (v := 0) hx hb dX0_init_10 (by decide) ?_
  refine c_put (D := D) (ci := 0) (v := .int 0) (ty := .int) (C := RX0) (T := TX0) (N' := 4) hx hb hts iX0_init_X0 tyX0 tyX0_ok nmX0 hown hK hJ hS 0 rfl rfl 1 (by decide) (hts (.fieldLink RX0 15 "CatLeases$Acts" "redoable" "I") (List.mem_of_getElem? (i := 5) rfl)) (fun _ h9 => h9) rfl (by decide +kernel) rfl rfl (Nat.le_of_ble_eq_true rfl) dX0_init_11 (fun H locs hJ hS => ?_)
  have hJ : cJ D g A [(z, .inr (0, [.int 0, .int 0, .null, .int 0]))] [] true H := hJ
  refine lv_aload_n hx hb dX0_init_14 rfl (lv_at hl 0 rfl) ?_
  refine lv_bipush (v := 41) hx hb dX0_init_15 (by decide) ?_
  refine c_newq hx hb hown (hts (.classLink RX0 18 RX7) (List.mem_of_getElem? (i := 6) rfl)) hE.1.2.2.2.2.2.2.2.2 hK hJ hS hA 4 rfl (N' := 41) (by decide) (by decide) (by decide) (Nat.le_of_ble_eq_true rfl) (Nat.le_of_ble_eq_true rfl) dX0_init_17 (fun q_1 H hJ hS => ?_)
  have hJ : cJ D g A [(z, .inr (0, [.int 0, .int 0, .null, .int 0])), (q_1, .inl (g 4, 41, .inr (.inr (.inr (.inr (fun _ => none))))))] [] true H := hJ
  refine W.cs (cells' := 1) (slots' := 41) rfl rfl ?_
  refine c_putF (D := D) (ci := 0) (v := .ref q_1) (ty := (.array (.object "CatLeases$State"))) (C := RX0) (T := TX0) (N' := 4) hx hb hts iX0_init_X0 tyX0 tyX0_ok nmX0 hown hK hJ hS 0 rfl rfl 2 (by decide) (hts (.fieldLink RX0 20 "CatLeases$Acts" "states" "[LCatLeases$State;") (List.mem_of_getElem? (i := 7) rfl)) (fun _ h9 => h9) rfl hin rfl (by decide +kernel) rfl rfl (Nat.le_of_ble_eq_true rfl) dX0_init_20 (fun H locs hJ hS => ?_)
  have hJ : cJ D g A [(z, .inr (0, [.int 0, .int 0, .ref q_1, .int 0])), (q_1, .inl (g 4, 41, .inr (.inr (.inr (.inr (fun _ => none))))))] [] true H := hJ
  refine lv_aload_n hx hb dX0_init_23 rfl (lv_at hl 0 rfl) ?_
  refine lv_iconst (v := 0) hx hb dX0_init_24 (by decide) ?_
  refine c_put (D := D) (ci := 0) (v := .int 0) (ty := .int) (C := RX0) (T := TX0) (N' := 4) hx hb hts iX0_init_X0 tyX0 tyX0_ok nmX0 hown hK hJ hS 0 rfl rfl 3 (by decide) (hts (.fieldLink RX0 24 "CatLeases$Acts" "index" "I") (List.mem_of_getElem? (i := 8) rfl)) (fun _ h9 => h9) rfl (by decide +kernel) rfl rfl (Nat.le_of_ble_eq_true rfl) dX0_init_25 (fun H locs hJ hS => ?_)
  have hJ : cJ D g A [(z, .inr (0, [.int 0, .int 0, .ref q_1, .int 0])), (q_1, .inl (g 4, 41, .inr (.inr (.inr (.inr (fun _ => none))))))] [] true H := hJ
  refine lv_iconst (v := 0) hx hb dX0_init_28 (by decide) ?_
  refine lv_istore_n (lv' := [(1, .int 0), (0, .ref z)]) hx hb dX0_init_29 rfl hl (by decide) rfl (fun ls hl => ?_)
  have hloop : ∀ (n i : Nat) (f : Nat → Option Nat) (rs : List (Nat × Nat)) (H : Heap) (locs : List Loc) (ls : Array Slot), i ≤ 41 → 41 < i + n → (∀ j, j < i → ∃ a, f j = some a ∧ (a, 7) ∈ rs) → (∀ r ∈ ([] : List (Nat × Nat)), r ∈ rs) → cJ D g A [(z, .inr (0, [.int 0, .int 0, .ref q_1, .int 0])), (q_1, .inl (g 4, 41, .inr (.inr (.inr (.inr f)))))] rs false H → va_S A s.heap H locs → lv_has ls 2 [(1, .int (nI i)), (0, .ref z)] → W p l e (headSpec wsX0_init ({ frames := 2, cells := 247, slots := 1845, locals := 43 })).room s m ar below meth c H locs (1 + 6 * i) (41 + 44 * i) Q (F0 m 30 ls []) := by
    intro n
    induction n with
    | zero => intro i f rs H locs ls h1 h2; exact absurd h2 (by omega)
    | succ n ih =>
      intro i f rs H locs ls h1 h2 hf hr0 hJ hS hl
      refine lv_iload_n hx hb dX0_init_30 rfl (lv_at hl 0 rfl) ?_
      refine lv_bipush (v := 41) hx hb dX0_init_31 (by decide) ?_
      refine lv_icmp_ge (tgt := 55) hx hb dX0_init_33 (by decide) (fun c1 => ?_) (fun c1 => ?_)
      · have hi := k_ge1 (N := 41) rfl h1 (by decide) c1
        subst hi
        refine W.cs (cells' := 247) (slots' := 1845) rfl rfl ?_
        have hJ := hJ.swap.took (s := 26) _ _ _ (c_arq (hJ.swap.1 0 _ rfl) (by decide) rfl (fun j hj => (hf j hj).imp (fun a h => h.1))) (fun k _ => iv_any _) (fun k hk => Or.inr ⟨7, List.mem_of_getElem? (i := 0) rfl, by obtain ⟨a, e1, e2⟩ := hf k hk; show ((f k).getD 0, 7) ∈ rs; rw [e1]; exact e2⟩)
        have hJ : cJ D g A [(z, .inr (0, [.int 0, .int 0, .ref q_1, .int 0]))] ((q_1, 26) :: rs) false H := hJ
        obtain ⟨σ, M, N, R, k1, k2, k3, k4, k5, km, kr⟩ := hJ.take (s := 0) _ _ _ (c_obj (hJ.1 0 _ rfl) (by decide) rfl rfl (fun k hk => match k, hk with
            | 0, _ => rfl
            | 1, _ => rfl
            | 2, _ => rfl
            | 3, _ => rfl
            | (k + 4), h => absurd h (by omega))) (fun k hk => match k, hk with
            | 0, _ => iv_any _
            | 1, _ => iv_any _
            | 2, _ => iv_any _
            | 3, _ => iv_zero (by decide) (by decide)
            | (k + 4), h => absurd h (show ¬ k + 4 < 4 by omega)) (fun k hk => match k, hk with
            | 0, _ => Or.inl rfl
            | 1, _ => Or.inl rfl
            | 2, _ => Or.inr ⟨26, by decide, List.mem_of_getElem? (i := 0) rfl⟩
            | 3, _ => Or.inl rfl
            | (k + 4), h => absurd h (show ¬ k + 4 < 4 by omega))
        exact c_ret hQ hx hb hr hlocks hK ⟨σ, M, N, R, k1, k2, fun a ha => (k3 a ha).1, k4 _ (List.mem_of_getElem? (i := 0) rfl), trivial⟩ hS dX0_init_55
      · have hi : i < 41 := k_ge2 (N := 41) rfl h1 (by decide) c1
        refine lv_aload_n hx hb dX0_init_36 rfl (lv_at hl 1 rfl) ?_
        refine va_get (D := D) (ci := 0) (v := .ref q_1) (C := RX0) (T := TX0) (N := 4) hx hb hts iX0_init_X0 hown hK hJ.1 0 rfl rfl 2 (by decide) (hts (.fieldLink RX0 20 "CatLeases$Acts" "states" "[LCatLeases$State;") (List.mem_of_getElem? (i := 7) rfl)) (fun _ h9 => h9) rfl dX0_init_37 ?_
        refine lv_iload_n hx hb dX0_init_40 rfl (lv_at hl 0 rfl) ?_
        refine c_newc (ci := 7) (fs := dfX7) (C := RX7) (T := TX7) (N' := 8) hx hb hts iX0_init_X7 tyX7 tyX7_ok hown (hts (.classLink RX0 18 RX7) (List.mem_of_getElem? (i := 6) rfl)) (hts (.instantiable RX7 8) (List.mem_of_getElem? (i := 9) rfl)) (hts (.initialized RX7) (List.mem_of_getElem? (i := 10) rfl)) hK hJ hS hA rfl fsX7 (show (1 + 6 * i) + 1 ≤ 247 by omega) (show (41 + 44 * i) + 8 ≤ 1845 by omega) dX0_init_41 dX0_init_44 (fun q H1 hat hS hAq => va_runI (As := []) (rest := [.ref q, .int (nI i), .ref q_1]) ⟨hx, hb, hml, hown, hts⟩ (c_X7 l D g ev _ q) (cwI 0 hts gX0_init_X7_init rfl rfl rfl (hts (.initialized RX7) (List.mem_of_getElem? (i := 10) rfl)) (hts (.methodLink RX0 27 yX7_init) (List.mem_of_getElem? (i := 11) rfl)) (hts (.instanceMethod yX7_init) (List.mem_of_getElem? (i := 12) rfl)) rfl (by decide +kernel) ⟨Nat.le_of_ble_eq_true rfl, Nat.le_of_ble_eq_true rfl⟩) (c_preI hK hE hS hA hAq hat) rfl rfl hl.1 rfl (lv_room (Nat.le_of_ble_eq_true rfl)) dX0_init_45 ⟨(show (1 + 6 * i) + 1 + 5 ≤ 247 by omega), (show (41 + 44 * i) + 8 + 36 ≤ 1845 by omega)⟩) (fun q_2 H locs hJ hS => ?_)
        have hJ : cJ D g A [(z, .inr (0, [.int 0, .int 0, .ref q_1, .int 0])), (q_1, .inl (g 4, 41, .inr (.inr (.inr (.inr f)))))] ((q_2, 7) :: rs) false H := hJ
        refine c_astq hx hb hK hJ hS 1 4 7 rfl rfl (List.mem_of_getElem? (i := 0) rfl) (by decide) rfl (vp_in_nI (n := i) (N := 41) (by omega) (by decide)) dX0_init_48 (fun H locs hJ hS => ?_)
        rw [nI_clamp (n := i) (by omega)] at hJ
        have hJ : cJ D g A [(z, .inr (0, [.int 0, .int 0, .ref q_1, .int 0])), (q_1, .inl (g 4, 41, .inr (.inr (.inr (.inr (va_up f i (some q_2)))))))] ((q_2, 7) :: rs) false H := hJ
        refine lv_iinc (v := nI (i + 1)) (lv' := [(1, .int (nI (i + 1))), (0, .ref z)]) hx hb dX0_init_49 hl (k := 0) rfl (k_inc i) (by decide) rfl (fun ls hl => ?_)
        refine lv_goto (tgt := 30) hx hb dX0_init_52 (by decide) ?_
        refine W.cs (cells' := 1 + 6 * (i + 1)) (slots' := 41 + 44 * (i + 1)) (by omega) (by omega) ?_
        refine ih (i + 1) _ _ _ _ _ (by omega) (by omega) (fun j hj => ?_) (fun r hr => List.mem_cons_of_mem _ (hr0 r hr)) hJ hS hl
        by_cases hj2 : j = i
        · subst hj2; exact ⟨q_2, by simp [va_up], List.mem_of_getElem? (i := 0) rfl⟩
        · obtain ⟨a, e1, e2⟩ := hf j (by omega); exact ⟨a, (k_un hj2).trans e1, List.mem_cons_of_mem _ e2⟩
  exact hloop (41 + 1) 0 (fun _ => none) _ _ _ _ (by omega) (by omega) (fun j hj => absurd hj (by omega)) (fun r hr => hr) hJ.weak hS hl
