set_option maxHeartbeats 4000000 in
set_option maxRecDepth 100000 in
theorem c_X7 (l : Launch) (D : va_G) (g : Nat → ClassId) (ev : Nat → Nat) (sz z : Nat) : Met l yX7_init wsX7_init ({ frames := 1, cells := 5, slots := 36, locals := 23 }) (va_Pc [.ref z] (cPre D g ev 7 dfX7 z sz)) (cQ D g z 7 (fun _ _ => True) (cA z sz)) 5 36 (cA z sz) := by
  refine c_head (cc := cX7_init) (maxL := 1) (by decide) rfl (Nat.le_of_ble_eq_true rfl) ?_
  intro p e s m below meth c ls A Q ar hQ hx hb hr hlocks hml hown hin hts hA hAz hK hE hJ hS hl
  have hown : s.vm.findClass RX7 = some m.cls := hown
  have hl : lv_has ls 1 [(0, .ref z)] := hl
  refine lv_aload_n hx hb dX7_init_0 rfl (lv_at hl 0 rfl) ?_
  refine W.objInit hx hb hown (hts (.methodLink RX7 3 objectInit) (List.mem_of_getElem? (i := 1) rfl)) (hts (.instanceMethod objectInit) (List.mem_of_getElem? (i := 2) rfl)) (hts (.code objectInit ⟨#[0xb1]⟩ 1 none) (List.mem_of_getElem? (i := 3) rfl)) rfl (by rw [hml]; exact hl.1) rfl dX7_init_1 (Nat.le_of_ble_eq_true rfl) (Nat.le_of_ble_eq_true rfl) ?_
  refine W.eq (g2 := F0 m 4 ls []) rfl ?_
  refine lv_aload_n hx hb dX7_init_4 rfl (lv_at hl 0 rfl) ?_
  refine lv_bipush (v := 8) hx hb dX7_init_5 (by decide) ?_
  refine c_newa (atype := .int) hx hb (hts (.arrayClass .int) (List.mem_of_getElem? (i := 4) rfl)) rfl hK hJ hS hA 1 rfl 12 (by decide) rfl rfl (tic0 (lo := (-1)) (hi := 5) (fun _ => rfl) (by decide) (by decide)) (fun _ => rfl) (by decide) (by decide) (by decide) (Nat.le_of_ble_eq_true rfl) (Nat.le_of_ble_eq_true rfl) dX7_init_7 (fun q_1 H hJ hS => ?_)
  have hJ : cJ D g A [(z, .inr (7, [.null, .null, .null, .null, .null, .int 0, .int 0, .int 0]))] [(q_1, 12)] true H := hJ
  refine W.cs (cells' := 1) (slots' := 8) rfl rfl ?_
  refine c_putF (D := D) (ci := 7) (v := .ref q_1) (ty := (.array .int)) (C := RX7) (T := TX7) (N' := 8) hx hb hts iX7_init_X7 tyX7 tyX7_ok nmX7 hown hK hJ hS 0 rfl rfl 0 (by decide) (hts (.fieldLink RX7 9 "CatLeases$State" "keepers" "[I") (List.mem_of_getElem? (i := 5) rfl)) (fun _ h9 => h9) rfl hin rfl (by decide +kernel) rfl rfl (Nat.le_of_ble_eq_true rfl) dX7_init_9 (fun H locs hJ hS => ?_)
  have hJ : cJ D g A [(z, .inr (7, [.ref q_1, .null, .null, .null, .null, .int 0, .int 0, .int 0]))] [(q_1, 12)] true H := hJ
  refine lv_aload_n hx hb dX7_init_12 rfl (lv_at hl 0 rfl) ?_
  refine lv_bipush (v := 7) hx hb dX7_init_13 (by decide) ?_
  refine c_newa (atype := .int) hx hb (hts (.arrayClass .int) (List.mem_of_getElem? (i := 4) rfl)) rfl hK hJ hS hA 1 rfl 13 (by decide) rfl rfl (tic0 (lo := (-1)) (hi := 7) (fun _ => rfl) (by decide) (by decide)) (fun _ => rfl) (by decide) (by decide) (by decide) (Nat.le_of_ble_eq_true rfl) (Nat.le_of_ble_eq_true rfl) dX7_init_15 (fun q_2 H hJ hS => ?_)
  have hJ : cJ D g A [(z, .inr (7, [.ref q_1, .null, .null, .null, .null, .int 0, .int 0, .int 0]))] [(q_2, 13), (q_1, 12)] true H := hJ
  refine W.cs (cells' := 2) (slots' := 15) rfl rfl ?_
  refine c_putF (D := D) (ci := 7) (v := .ref q_2) (ty := (.array .int)) (C := RX7) (T := TX7) (N' := 8) hx hb hts iX7_init_X7 tyX7 tyX7_ok nmX7 hown hK hJ hS 0 rfl rfl 1 (by decide) (hts (.fieldLink RX7 15 "CatLeases$State" "places" "[I") (List.mem_of_getElem? (i := 6) rfl)) (fun _ h9 => h9) rfl hin rfl (by decide +kernel) rfl rfl (Nat.le_of_ble_eq_true rfl) dX7_init_17 (fun H locs hJ hS => ?_)
  have hJ : cJ D g A [(z, .inr (7, [.ref q_1, .ref q_2, .null, .null, .null, .int 0, .int 0, .int 0]))] [(q_2, 13), (q_1, 12)] true H := hJ
  refine lv_aload_n hx hb dX7_init_20 rfl (lv_at hl 0 rfl) ?_
  refine lv_bipush (v := 7) hx hb dX7_init_21 (by decide) ?_
  refine c_newa (atype := .int) hx hb (hts (.arrayClass .int) (List.mem_of_getElem? (i := 4) rfl)) rfl hK hJ hS hA 1 rfl 14 (by decide) rfl rfl (tic0 (lo := (-2147483648)) (hi := 2147483647) (fun _ => rfl) (by decide) (by decide)) (fun _ => rfl) (by decide) (by decide) (by decide) (Nat.le_of_ble_eq_true rfl) (Nat.le_of_ble_eq_true rfl) dX7_init_23 (fun q_3 H hJ hS => ?_)
  have hJ : cJ D g A [(z, .inr (7, [.ref q_1, .ref q_2, .null, .null, .null, .int 0, .int 0, .int 0]))] [(q_3, 14), (q_2, 13), (q_1, 12)] true H := hJ
  refine W.cs (cells' := 3) (slots' := 22) rfl rfl ?_
  refine c_putF (D := D) (ci := 7) (v := .ref q_3) (ty := (.array .int)) (C := RX7) (T := TX7) (N' := 8) hx hb hts iX7_init_X7 tyX7 tyX7_ok nmX7 hown hK hJ hS 0 rfl rfl 2 (by decide) (hts (.fieldLink RX7 18 "CatLeases$State" "stays" "[I") (List.mem_of_getElem? (i := 7) rfl)) (fun _ h9 => h9) rfl hin rfl (by decide +kernel) rfl rfl (Nat.le_of_ble_eq_true rfl) dX7_init_25 (fun H locs hJ hS => ?_)
  have hJ : cJ D g A [(z, .inr (7, [.ref q_1, .ref q_2, .ref q_3, .null, .null, .int 0, .int 0, .int 0]))] [(q_3, 14), (q_2, 13), (q_1, 12)] true H := hJ
  refine lv_aload_n hx hb dX7_init_28 rfl (lv_at hl 0 rfl) ?_
  refine lv_bipush (v := 7) hx hb dX7_init_29 (by decide) ?_
  refine c_newa (atype := .int) hx hb (hts (.arrayClass .int) (List.mem_of_getElem? (i := 4) rfl)) rfl hK hJ hS hA 1 rfl 14 (by decide) rfl rfl (tic0 (lo := (-2147483648)) (hi := 2147483647) (fun _ => rfl) (by decide) (by decide)) (fun _ => rfl) (by decide) (by decide) (by decide) (Nat.le_of_ble_eq_true rfl) (Nat.le_of_ble_eq_true rfl) dX7_init_31 (fun q_4 H hJ hS => ?_)
  have hJ : cJ D g A [(z, .inr (7, [.ref q_1, .ref q_2, .ref q_3, .null, .null, .int 0, .int 0, .int 0]))] [(q_4, 14), (q_3, 14), (q_2, 13), (q_1, 12)] true H := hJ
  refine W.cs (cells' := 4) (slots' := 29) rfl rfl ?_
  refine c_putF (D := D) (ci := 7) (v := .ref q_4) (ty := (.array .int)) (C := RX7) (T := TX7) (N' := 8) hx hb hts iX7_init_X7 tyX7 tyX7_ok nmX7 hown hK hJ hS 0 rfl rfl 3 (by decide) (hts (.fieldLink RX7 21 "CatLeases$State" "hours" "[I") (List.mem_of_getElem? (i := 8) rfl)) (fun _ h9 => h9) rfl hin rfl (by decide +kernel) rfl rfl (Nat.le_of_ble_eq_true rfl) dX7_init_33 (fun H locs hJ hS => ?_)
  have hJ : cJ D g A [(z, .inr (7, [.ref q_1, .ref q_2, .ref q_3, .ref q_4, .null, .int 0, .int 0, .int 0]))] [(q_4, 14), (q_3, 14), (q_2, 13), (q_1, 12)] true H := hJ
  refine lv_aload_n hx hb dX7_init_36 rfl (lv_at hl 0 rfl) ?_
  refine lv_bipush (v := 7) hx hb dX7_init_37 (by decide) ?_
  refine c_newa (atype := .int) hx hb (hts (.arrayClass .int) (List.mem_of_getElem? (i := 4) rfl)) rfl hK hJ hS hA 1 rfl 14 (by decide) rfl rfl (tic0 (lo := (-2147483648)) (hi := 2147483647) (fun _ => rfl) (by decide) (by decide)) (fun _ => rfl) (by decide) (by decide) (by decide) (Nat.le_of_ble_eq_true rfl) (Nat.le_of_ble_eq_true rfl) dX7_init_39 (fun q_5 H hJ hS => ?_)
  have hJ : cJ D g A [(z, .inr (7, [.ref q_1, .ref q_2, .ref q_3, .ref q_4, .null, .int 0, .int 0, .int 0]))] [(q_5, 14), (q_4, 14), (q_3, 14), (q_2, 13), (q_1, 12)] true H := hJ
  refine W.cs (cells' := 5) (slots' := 36) rfl rfl ?_
  refine c_putF (D := D) (ci := 7) (v := .ref q_5) (ty := (.array .int)) (C := RX7) (T := TX7) (N' := 8) hx hb hts iX7_init_X7 tyX7 tyX7_ok nmX7 hown hK hJ hS 0 rfl rfl 4 (by decide) (hts (.fieldLink RX7 24 "CatLeases$State" "fidgets" "[I") (List.mem_of_getElem? (i := 9) rfl)) (fun _ h9 => h9) rfl hin rfl (by decide +kernel) rfl rfl (Nat.le_of_ble_eq_true rfl) dX7_init_41 (fun H locs hJ hS => ?_)
  have hJ : cJ D g A [(z, .inr (7, [.ref q_1, .ref q_2, .ref q_3, .ref q_4, .ref q_5, .int 0, .int 0, .int 0]))] [(q_5, 14), (q_4, 14), (q_3, 14), (q_2, 13), (q_1, 12)] true H := hJ
  refine lv_aload_n hx hb dX7_init_44 rfl (lv_at hl 0 rfl) ?_
  refine lv_iconst (v := 0) hx hb dX7_init_45 (by decide) ?_
  refine c_put (D := D) (ci := 7) (v := .int 0) (ty := .int) (C := RX7) (T := TX7) (N' := 8) hx hb hts iX7_init_X7 tyX7 tyX7_ok nmX7 hown hK hJ hS 0 rfl rfl 5 (by decide) (hts (.fieldLink RX7 27 "CatLeases$State" "living" "I") (List.mem_of_getElem? (i := 10) rfl)) (fun _ h9 => h9) rfl (by decide +kernel) rfl rfl (Nat.le_of_ble_eq_true rfl) dX7_init_46 (fun H locs hJ hS => ?_)
  have hJ : cJ D g A [(z, .inr (7, [.ref q_1, .ref q_2, .ref q_3, .ref q_4, .ref q_5, .int 0, .int 0, .int 0]))] [(q_5, 14), (q_4, 14), (q_3, 14), (q_2, 13), (q_1, 12)] true H := hJ
  refine lv_aload_n hx hb dX7_init_49 rfl (lv_at hl 0 rfl) ?_
  refine lv_iconst (v := 0) hx hb dX7_init_50 (by decide) ?_
  refine c_put (D := D) (ci := 7) (v := .int 0) (ty := .int) (C := RX7) (T := TX7) (N' := 8) hx hb hts iX7_init_X7 tyX7 tyX7_ok nmX7 hown hK hJ hS 0 rfl rfl 6 (by decide) (hts (.fieldLink RX7 31 "CatLeases$State" "quarters" "I") (List.mem_of_getElem? (i := 11) rfl)) (fun _ h9 => h9) rfl (by decide +kernel) rfl rfl (Nat.le_of_ble_eq_true rfl) dX7_init_51 (fun H locs hJ hS => ?_)
  have hJ : cJ D g A [(z, .inr (7, [.ref q_1, .ref q_2, .ref q_3, .ref q_4, .ref q_5, .int 0, .int 0, .int 0]))] [(q_5, 14), (q_4, 14), (q_3, 14), (q_2, 13), (q_1, 12)] true H := hJ
  refine lv_aload_n hx hb dX7_init_54 rfl (lv_at hl 0 rfl) ?_
  refine lv_iconst (v := 0) hx hb dX7_init_55 (by decide) ?_
  refine c_put (D := D) (ci := 7) (v := .int 0) (ty := .int) (C := RX7) (T := TX7) (N' := 8) hx hb hts iX7_init_X7 tyX7 tyX7_ok nmX7 hown hK hJ hS 0 rfl rfl 7 (by decide) (hts (.fieldLink RX7 34 "CatLeases$State" "seed" "I") (List.mem_of_getElem? (i := 12) rfl)) (fun _ h9 => h9) rfl (by decide +kernel) rfl rfl (Nat.le_of_ble_eq_true rfl) dX7_init_56 (fun H locs hJ hS => ?_)
  have hJ : cJ D g A [(z, .inr (7, [.ref q_1, .ref q_2, .ref q_3, .ref q_4, .ref q_5, .int 0, .int 0, .int 0]))] [(q_5, 14), (q_4, 14), (q_3, 14), (q_2, 13), (q_1, 12)] true H := hJ
  refine lv_aload_n hx hb dX7_init_59 rfl (lv_at hl 0 rfl) ?_
  refine va_get (D := D) (ci := 7) (v := .ref q_1) (C := RX7) (T := TX7) (N := 8) hx hb hts iX7_init_X7 hown hK hJ.1 0 rfl rfl 0 (by decide) (hts (.fieldLink RX7 9 "CatLeases$State" "keepers" "[I") (List.mem_of_getElem? (i := 5) rfl)) (fun _ h9 => h9) rfl dX7_init_60 ?_
  refine lv_iconst (v := (-1)) hx hb dX7_init_63 (by decide) ?_
  refine c_fill hK hE hJ hS (so := 12) (List.mem_of_getElem? (i := 4) rfl) (fun σ M N R ga hp => va_runS (As := [.ref q_1, .int (-1)]) (rest := []) ⟨hx, hb, hml, hown, hts⟩ (h_fill_12 l D g σ (zE ev σ) zE_ok M N R q_1 ga (-1) ⟨by decide, by decide⟩) (va_cwS 2 hts gX7_init_J7_fill_53178 rfl rfl rfl (by decide +kernel) ⟨Nat.le_of_ble_eq_true rfl, Nat.le_of_ble_eq_true rfl⟩) hp rfl rfl hl.1 rfl (lv_room (Nat.le_of_ble_eq_true rfl)) dX7_init_64 ⟨Nat.le_of_ble_eq_true rfl, Nat.le_of_ble_eq_true rfl⟩) (fun H locs hJ hS => ?_)
  have hJ : cJ D g A [(z, .inr (7, [.ref q_1, .ref q_2, .ref q_3, .ref q_4, .ref q_5, .int 0, .int 0, .int 0]))] [(q_5, 14), (q_4, 14), (q_3, 14), (q_2, 13), (q_1, 12)] false H := hJ
  refine lv_aload_n hx hb dX7_init_67 rfl (lv_at hl 0 rfl) ?_
  refine va_get (D := D) (ci := 7) (v := .ref q_2) (C := RX7) (T := TX7) (N := 8) hx hb hts iX7_init_X7 hown hK hJ.1 0 rfl rfl 1 (by decide) (hts (.fieldLink RX7 15 "CatLeases$State" "places" "[I") (List.mem_of_getElem? (i := 6) rfl)) (fun _ h9 => h9) rfl dX7_init_68 ?_
  refine lv_iconst (v := (-1)) hx hb dX7_init_71 (by decide) ?_
  refine c_fill hK hE hJ hS (so := 13) (List.mem_of_getElem? (i := 3) rfl) (fun σ M N R ga hp => va_runS (As := [.ref q_2, .int (-1)]) (rest := []) ⟨hx, hb, hml, hown, hts⟩ (h_fill_13 l D g σ (zE ev σ) zE_ok M N R q_2 ga (-1) ⟨by decide, by decide⟩) (va_cwS 2 hts gX7_init_J7_fill_53178 rfl rfl rfl (by decide +kernel) ⟨Nat.le_of_ble_eq_true rfl, Nat.le_of_ble_eq_true rfl⟩) hp rfl rfl hl.1 rfl (lv_room (Nat.le_of_ble_eq_true rfl)) dX7_init_72 ⟨Nat.le_of_ble_eq_true rfl, Nat.le_of_ble_eq_true rfl⟩) (fun H locs hJ hS => ?_)
  have hJ : cJ D g A [(z, .inr (7, [.ref q_1, .ref q_2, .ref q_3, .ref q_4, .ref q_5, .int 0, .int 0, .int 0]))] [(q_5, 14), (q_4, 14), (q_3, 14), (q_2, 13), (q_1, 12)] false H := hJ
  obtain ⟨σ, M, N, R, k1, k2, k3, k4, k5, km, kr⟩ := hJ.take (s := 7) _ _ _ (c_obj (hJ.1 0 _ rfl) (by decide) rfl rfl (fun k hk => match k, hk with
      | 0, _ => rfl
      | 1, _ => rfl
      | 2, _ => rfl
      | 3, _ => rfl
      | 4, _ => rfl
      | 5, _ => rfl
      | 6, _ => rfl
      | 7, _ => rfl
      | (k + 8), h => absurd h (by omega))) (fun k hk => match k, hk with
      | 0, _ => iv_any _
      | 1, _ => iv_any _
      | 2, _ => iv_any _
      | 3, _ => iv_any _
      | 4, _ => iv_any _
      | 5, _ => iv_any _
      | 6, _ => iv_any _
      | 7, _ => iv_any _
      | (k + 8), h => absurd h (show ¬ k + 8 < 8 by omega)) (fun k hk => match k, hk with
      | 0, _ => Or.inr ⟨12, by decide, List.mem_of_getElem? (i := 4) rfl⟩
      | 1, _ => Or.inr ⟨13, by decide, List.mem_of_getElem? (i := 3) rfl⟩
      | 2, _ => Or.inr ⟨14, by decide, List.mem_of_getElem? (i := 2) rfl⟩
      | 3, _ => Or.inr ⟨14, by decide, List.mem_of_getElem? (i := 1) rfl⟩
      | 4, _ => Or.inr ⟨14, by decide, List.mem_of_getElem? (i := 0) rfl⟩
      | 5, _ => Or.inl rfl
      | 6, _ => Or.inl rfl
      | 7, _ => Or.inl rfl
      | (k + 8), h => absurd h (show ¬ k + 8 < 8 by omega))
  exact c_ret hQ hx hb hr hlocks hK ⟨σ, M, N, R, k1, k2, fun a ha => (k3 a ha).1, k4 _ (List.mem_of_getElem? (i := 0) rfl), trivial⟩ hS dX7_init_75
set_option maxHeartbeats 4000000 in
set_option maxRecDepth 100000 in
theorem c_X2 (l : Launch) (D : va_G) (g : Nat → ClassId) (ev : Nat → Nat) (sz z : Nat) : Met l yX2_init wsX2_init ({ frames := 1, cells := 2, slots := 300, locals := 12 }) (va_Pc [.ref z] (cPre D g ev 2 dfX2 z sz)) (cQ D g z 2 (fun _ _ => True) (cA z sz)) 2 300 (cA z sz) := by
  refine c_head (cc := cX2_init) (maxL := 1) (by decide) rfl (Nat.le_of_ble_eq_true rfl) ?_
  intro p e s m below meth c ls A Q ar hQ hx hb hr hlocks hml hown hin hts hA hAz hK hE hJ hS hl
  have hown : s.vm.findClass RX2 = some m.cls := hown
  have hl : lv_has ls 1 [(0, .ref z)] := hl
  refine lv_aload_n hx hb dX2_init_0 rfl (lv_at hl 0 rfl) ?_
  refine W.objInit hx hb hown (hts (.methodLink RX2 3 objectInit) (List.mem_of_getElem? (i := 1) rfl)) (hts (.instanceMethod objectInit) (List.mem_of_getElem? (i := 2) rfl)) (hts (.code objectInit ⟨#[0xb1]⟩ 1 none) (List.mem_of_getElem? (i := 3) rfl)) rfl (by rw [hml]; exact hl.1) rfl dX2_init_1 (Nat.le_of_ble_eq_true rfl) (Nat.le_of_ble_eq_true rfl) ?_
  refine W.eq (g2 := F0 m 4 ls []) rfl ?_
  refine lv_aload_n hx hb dX2_init_4 rfl (lv_at hl 0 rfl) ?_
  refine lv_sipush (v := 270) hx hb dX2_init_5 (by decide) ?_
  refine c_newa (atype := .int) hx hb (hts (.arrayClass .int) (List.mem_of_getElem? (i := 4) rfl)) rfl hK hJ hS hA 1 rfl 17 (by decide) rfl rfl (tic0 (lo := (-2147483648)) (hi := 2147483647) (fun _ => rfl) (by decide) (by decide)) (fun _ => rfl) (by decide) (by decide) (by decide) (Nat.le_of_ble_eq_true rfl) (Nat.le_of_ble_eq_true rfl) dX2_init_8 (fun q_1 H hJ hS => ?_)
  have hJ : cJ D g A [(z, .inr (2, [.null, .null, .int 0]))] [(q_1, 17)] true H := hJ
  refine W.cs (cells' := 1) (slots' := 270) rfl rfl ?_
  refine c_putF (D := D) (ci := 2) (v := .ref q_1) (ty := (.array .int)) (C := RX2) (T := TX2) (N' := 3) hx hb hts iX2_init_X2 tyX2 tyX2_ok nmX2 hown hK hJ hS 0 rfl rfl 0 (by decide) (hts (.fieldLink RX2 9 "CatLeases$Formula" "steps" "[I") (List.mem_of_getElem? (i := 5) rfl)) (fun _ h9 => h9) rfl hin rfl (by decide +kernel) rfl rfl (Nat.le_of_ble_eq_true rfl) dX2_init_10 (fun H locs hJ hS => ?_)
  have hJ : cJ D g A [(z, .inr (2, [.ref q_1, .null, .int 0]))] [(q_1, 17)] true H := hJ
  refine lv_aload_n hx hb dX2_init_13 rfl (lv_at hl 0 rfl) ?_
  refine lv_bipush (v := 30) hx hb dX2_init_14 (by decide) ?_
  refine c_newa (atype := .int) hx hb (hts (.arrayClass .int) (List.mem_of_getElem? (i := 4) rfl)) rfl hK hJ hS hA 1 rfl 18 (by decide) rfl rfl (tic0 (lo := (-2147483648)) (hi := 2147483647) (fun _ => rfl) (by decide) (by decide)) (fun _ => rfl) (by decide) (by decide) (by decide) (Nat.le_of_ble_eq_true rfl) (Nat.le_of_ble_eq_true rfl) dX2_init_16 (fun q_2 H hJ hS => ?_)
  have hJ : cJ D g A [(z, .inr (2, [.ref q_1, .null, .int 0]))] [(q_2, 18), (q_1, 17)] true H := hJ
  refine W.cs (cells' := 2) (slots' := 300) rfl rfl ?_
  refine c_putF (D := D) (ci := 2) (v := .ref q_2) (ty := (.array .int)) (C := RX2) (T := TX2) (N' := 3) hx hb hts iX2_init_X2 tyX2 tyX2_ok nmX2 hown hK hJ hS 0 rfl rfl 1 (by decide) (hts (.fieldLink RX2 13 "CatLeases$Formula" "stack" "[I") (List.mem_of_getElem? (i := 6) rfl)) (fun _ h9 => h9) rfl hin rfl (by decide +kernel) rfl rfl (Nat.le_of_ble_eq_true rfl) dX2_init_18 (fun H locs hJ hS => ?_)
  have hJ : cJ D g A [(z, .inr (2, [.ref q_1, .ref q_2, .int 0]))] [(q_2, 18), (q_1, 17)] true H := hJ
  refine lv_aload_n hx hb dX2_init_21 rfl (lv_at hl 0 rfl) ?_
  refine lv_iconst (v := 0) hx hb dX2_init_22 (by decide) ?_
  refine c_put (D := D) (ci := 2) (v := .int 0) (ty := .int) (C := RX2) (T := TX2) (N' := 3) hx hb hts iX2_init_X2 tyX2 tyX2_ok nmX2 hown hK hJ hS 0 rfl rfl 2 (by decide) (hts (.fieldLink RX2 16 "CatLeases$Formula" "length" "I") (List.mem_of_getElem? (i := 7) rfl)) (fun _ h9 => h9) rfl (by decide +kernel) rfl rfl (Nat.le_of_ble_eq_true rfl) dX2_init_23 (fun H locs hJ hS => ?_)
  have hJ : cJ D g A [(z, .inr (2, [.ref q_1, .ref q_2, .int 0]))] [(q_2, 18), (q_1, 17)] true H := hJ
  obtain ⟨σ, M, N, R, k1, k2, k3, k4, k5, km, kr⟩ := hJ.take (s := 2) _ _ _ (c_obj (hJ.1 0 _ rfl) (by decide) rfl rfl (fun k hk => match k, hk with
      | 0, _ => rfl
      | 1, _ => rfl
      | 2, _ => rfl
      | (k + 3), h => absurd h (by omega))) (fun k hk => match k, hk with
      | 0, _ => iv_any _
      | 1, _ => iv_any _
      | 2, _ => iv_zero (by decide) (by decide)
      | (k + 3), h => absurd h (show ¬ k + 3 < 3 by omega)) (fun k hk => match k, hk with
      | 0, _ => Or.inr ⟨17, by decide, List.mem_of_getElem? (i := 1) rfl⟩
      | 1, _ => Or.inr ⟨18, by decide, List.mem_of_getElem? (i := 0) rfl⟩
      | 2, _ => Or.inl rfl
      | (k + 3), h => absurd h (show ¬ k + 3 < 3 by omega))
  exact c_ret hQ hx hb hr hlocks hK ⟨σ, M, N, R, k1, k2, fun a ha => (k3 a ha).1, k4 _ (List.mem_of_getElem? (i := 0) rfl), trivial⟩ hS dX2_init_26
set_option maxHeartbeats 4000000 in
set_option maxRecDepth 100000 in
theorem c_X3 (l : Launch) (D : va_G) (g : Nat → ClassId) (ev : Nat → Nat) (sz z : Nat) : Met l yX3_init wsX3_init ({ frames := 1, cells := 2, slots := 2104, locals := 12 }) (va_Pc [.ref z] (cPre D g ev 3 dfX3 z sz)) (cQ D g z 3 (fun _ _ => True) (cA z sz)) 2 2104 (cA z sz) := by
  refine c_head (cc := cX3_init) (maxL := 1) (by decide) rfl (Nat.le_of_ble_eq_true rfl) ?_
  intro p e s m below meth c ls A Q ar hQ hx hb hr hlocks hml hown hin hts hA hAz hK hE hJ hS hl
  have hown : s.vm.findClass RX3 = some m.cls := hown
  have hl : lv_has ls 1 [(0, .ref z)] := hl
  refine lv_aload_n hx hb dX3_init_0 rfl (lv_at hl 0 rfl) ?_
  refine W.objInit hx hb hown (hts (.methodLink RX3 3 objectInit) (List.mem_of_getElem? (i := 1) rfl)) (hts (.instanceMethod objectInit) (List.mem_of_getElem? (i := 2) rfl)) (hts (.code objectInit ⟨#[0xb1]⟩ 1 none) (List.mem_of_getElem? (i := 3) rfl)) rfl (by rw [hml]; exact hl.1) rfl dX3_init_1 (Nat.le_of_ble_eq_true rfl) (Nat.le_of_ble_eq_true rfl) ?_
  refine W.eq (g2 := F0 m 4 ls []) rfl ?_
  refine lv_aload_n hx hb dX3_init_4 rfl (lv_at hl 0 rfl) ?_
  refine lv_bipush (v := 56) hx hb dX3_init_5 (by decide) ?_
  refine c_newa (atype := .int) hx hb (hts (.arrayClass .int) (List.mem_of_getElem? (i := 4) rfl)) rfl hK hJ hS hA 1 rfl 28 (by decide) rfl rfl (tic0 (lo := (-2147483648)) (hi := 2147483647) (fun _ => rfl) (by decide) (by decide)) (fun _ => rfl) (by decide) (by decide) (by decide) (Nat.le_of_ble_eq_true rfl) (Nat.le_of_ble_eq_true rfl) dX3_init_7 (fun q_1 H hJ hS => ?_)
  have hJ : cJ D g A [(z, .inr (3, [.null, .null, .int 0, .int 0]))] [(q_1, 28)] true H := hJ
  refine W.cs (cells' := 1) (slots' := 56) rfl rfl ?_
  refine c_putF (D := D) (ci := 3) (v := .ref q_1) (ty := (.array .int)) (C := RX3) (T := TX3) (N' := 4) hx hb hts iX3_init_X3 tyX3 tyX3_ok nmX3 hown hK hJ hS 0 rfl rfl 0 (by decide) (hts (.fieldLink RX3 9 "CatLeases$Letting" "worths" "[I") (List.mem_of_getElem? (i := 5) rfl)) (fun _ h9 => h9) rfl hin rfl (by decide +kernel) rfl rfl (Nat.le_of_ble_eq_true rfl) dX3_init_9 (fun H locs hJ hS => ?_)
  have hJ : cJ D g A [(z, .inr (3, [.ref q_1, .null, .int 0, .int 0]))] [(q_1, 28)] true H := hJ
  refine lv_aload_n hx hb dX3_init_12 rfl (lv_at hl 0 rfl) ?_
  refine lv_sipush (v := 2048) hx hb dX3_init_13 (by decide) ?_
  refine c_newa (atype := .int) hx hb (hts (.arrayClass .int) (List.mem_of_getElem? (i := 4) rfl)) rfl hK hJ hS hA 1 rfl 29 (by decide) rfl rfl (tic0 (lo := (-2147483648)) (hi := 2147483647) (fun _ => rfl) (by decide) (by decide)) (fun _ => rfl) (by decide) (by decide) (by decide) (Nat.le_of_ble_eq_true rfl) (Nat.le_of_ble_eq_true rfl) dX3_init_16 (fun q_2 H hJ hS => ?_)
  have hJ : cJ D g A [(z, .inr (3, [.ref q_1, .null, .int 0, .int 0]))] [(q_2, 29), (q_1, 28)] true H := hJ
  refine W.cs (cells' := 2) (slots' := 2104) rfl rfl ?_
  refine c_putF (D := D) (ci := 3) (v := .ref q_2) (ty := (.array .int)) (C := RX3) (T := TX3) (N' := 4) hx hb hts iX3_init_X3 tyX3 tyX3_ok nmX3 hown hK hJ hS 0 rfl rfl 1 (by decide) (hts (.fieldLink RX3 15 "CatLeases$Letting" "best" "[I") (List.mem_of_getElem? (i := 6) rfl)) (fun _ h9 => h9) rfl hin rfl (by decide +kernel) rfl rfl (Nat.le_of_ble_eq_true rfl) dX3_init_18 (fun H locs hJ hS => ?_)
  have hJ : cJ D g A [(z, .inr (3, [.ref q_1, .ref q_2, .int 0, .int 0]))] [(q_2, 29), (q_1, 28)] true H := hJ
  refine lv_aload_n hx hb dX3_init_21 rfl (lv_at hl 0 rfl) ?_
  refine lv_iconst (v := 0) hx hb dX3_init_22 (by decide) ?_
  refine c_put (D := D) (ci := 3) (v := .int 0) (ty := .int) (C := RX3) (T := TX3) (N' := 4) hx hb hts iX3_init_X3 tyX3 tyX3_ok nmX3 hown hK hJ hS 0 rfl rfl 2 (by decide) (hts (.fieldLink RX3 18 "CatLeases$Letting" "tenants" "I") (List.mem_of_getElem? (i := 7) rfl)) (fun _ h9 => h9) rfl (by decide +kernel) rfl rfl (Nat.le_of_ble_eq_true rfl) dX3_init_23 (fun H locs hJ hS => ?_)
  have hJ : cJ D g A [(z, .inr (3, [.ref q_1, .ref q_2, .int 0, .int 0]))] [(q_2, 29), (q_1, 28)] true H := hJ
  refine lv_aload_n hx hb dX3_init_26 rfl (lv_at hl 0 rfl) ?_
  refine lv_iconst (v := 0) hx hb dX3_init_27 (by decide) ?_
  refine c_put (D := D) (ci := 3) (v := .int 0) (ty := .int) (C := RX3) (T := TX3) (N' := 4) hx hb hts iX3_init_X3 tyX3 tyX3_ok nmX3 hown hK hJ hS 0 rfl rfl 3 (by decide) (hts (.fieldLink RX3 22 "CatLeases$Letting" "rooms" "I") (List.mem_of_getElem? (i := 8) rfl)) (fun _ h9 => h9) rfl (by decide +kernel) rfl rfl (Nat.le_of_ble_eq_true rfl) dX3_init_28 (fun H locs hJ hS => ?_)
  have hJ : cJ D g A [(z, .inr (3, [.ref q_1, .ref q_2, .int 0, .int 0]))] [(q_2, 29), (q_1, 28)] true H := hJ
  obtain ⟨σ, M, N, R, k1, k2, k3, k4, k5, km, kr⟩ := hJ.take (s := 3) _ _ _ (c_obj (hJ.1 0 _ rfl) (by decide) rfl rfl (fun k hk => match k, hk with
      | 0, _ => rfl
      | 1, _ => rfl
      | 2, _ => rfl
      | 3, _ => rfl
      | (k + 4), h => absurd h (by omega))) (fun k hk => match k, hk with
      | 0, _ => iv_any _
      | 1, _ => iv_any _
      | 2, _ => iv_zero (by decide) (by decide)
      | 3, _ => iv_zero (by decide) (by decide)
      | (k + 4), h => absurd h (show ¬ k + 4 < 4 by omega)) (fun k hk => match k, hk with
      | 0, _ => Or.inr ⟨28, by decide, List.mem_of_getElem? (i := 1) rfl⟩
      | 1, _ => Or.inr ⟨29, by decide, List.mem_of_getElem? (i := 0) rfl⟩
      | 2, _ => Or.inl rfl
      | 3, _ => Or.inl rfl
      | (k + 4), h => absurd h (show ¬ k + 4 < 4 by omega))
  exact c_ret hQ hx hb hr hlocks hK ⟨σ, M, N, R, k1, k2, fun a ha => (k3 a ha).1, k4 _ (List.mem_of_getElem? (i := 0) rfl), trivial⟩ hS dX3_init_31
set_option maxHeartbeats 4000000 in
set_option maxRecDepth 100000 in
theorem c_X1 (l : Launch) (D : va_G) (g : Nat → ClassId) (ev : Nat → Nat) (sz z : Nat) : Met l yX1_init wsX1_init ({ frames := 1, cells := 2, slots := 12, locals := 12 }) (va_Pc [.ref z] (cPre D g ev 1 dfX1 z sz)) (cQ D g z 1 (fun _ _ => True) (cA z sz)) 2 12 (cA z sz) := by
  refine c_head (cc := cX1_init) (maxL := 1) (by decide) rfl (Nat.le_of_ble_eq_true rfl) ?_
  intro p e s m below meth c ls A Q ar hQ hx hb hr hlocks hml hown hin hts hA hAz hK hE hJ hS hl
  have hown : s.vm.findClass RX1 = some m.cls := hown
  have hl : lv_has ls 1 [(0, .ref z)] := hl
  refine lv_aload_n hx hb dX1_init_0 rfl (lv_at hl 0 rfl) ?_
  refine W.objInit hx hb hown (hts (.methodLink RX1 3 objectInit) (List.mem_of_getElem? (i := 1) rfl)) (hts (.instanceMethod objectInit) (List.mem_of_getElem? (i := 2) rfl)) (hts (.code objectInit ⟨#[0xb1]⟩ 1 none) (List.mem_of_getElem? (i := 3) rfl)) rfl (by rw [hml]; exact hl.1) rfl dX1_init_1 (Nat.le_of_ble_eq_true rfl) (Nat.le_of_ble_eq_true rfl) ?_
  refine W.eq (g2 := F0 m 4 ls []) rfl ?_
  refine lv_aload_n hx hb dX1_init_4 rfl (lv_at hl 0 rfl) ?_
  refine lv_iconst (v := 0) hx hb dX1_init_5 (by decide) ?_
  refine c_put (D := D) (ci := 1) (v := .int 0) (ty := .int) (C := RX1) (T := TX1) (N' := 6) hx hb hts iX1_init_X1 tyX1 tyX1_ok nmX1 hown hK hJ hS 0 rfl rfl 0 (by decide) (hts (.fieldLink RX1 9 "CatLeases$Auction" "firstBid" "I") (List.mem_of_getElem? (i := 4) rfl)) (fun _ h9 => h9) rfl (by decide +kernel) rfl rfl (Nat.le_of_ble_eq_true rfl) dX1_init_6 (fun H locs hJ hS => ?_)
  have hJ : cJ D g A [(z, .inr (1, [.int 0, .int 0, .null, .null, .int 0, .int 0]))] [] true H := hJ
  refine lv_aload_n hx hb dX1_init_9 rfl (lv_at hl 0 rfl) ?_
  refine lv_iconst (v := 0) hx hb dX1_init_10 (by decide) ?_
  refine c_put (D := D) (ci := 1) (v := .int 0) (ty := .int) (C := RX1) (T := TX1) (N' := 6) hx hb hts iX1_init_X1 tyX1 tyX1_ok nmX1 hown hK hJ hS 0 rfl rfl 1 (by decide) (hts (.fieldLink RX1 15 "CatLeases$Auction" "otherBid" "I") (List.mem_of_getElem? (i := 5) rfl)) (fun _ h9 => h9) rfl (by decide +kernel) rfl rfl (Nat.le_of_ble_eq_true rfl) dX1_init_11 (fun H locs hJ hS => ?_)
  have hJ : cJ D g A [(z, .inr (1, [.int 0, .int 0, .null, .null, .int 0, .int 0]))] [] true H := hJ
  refine lv_aload_n hx hb dX1_init_14 rfl (lv_at hl 0 rfl) ?_
  refine lv_bipush (v := 6) hx hb dX1_init_15 (by decide) ?_
  refine c_newa (atype := .int) hx hb (hts (.arrayClass .int) (List.mem_of_getElem? (i := 6) rfl)) rfl hK hJ hS hA 1 rfl 15 (by decide) rfl rfl (tic0 (lo := (-2147483648)) (hi := 2147483647) (fun _ => rfl) (by decide) (by decide)) (fun _ => rfl) (by decide) (by decide) (by decide) (Nat.le_of_ble_eq_true rfl) (Nat.le_of_ble_eq_true rfl) dX1_init_17 (fun q_1 H hJ hS => ?_)
  have hJ : cJ D g A [(z, .inr (1, [.int 0, .int 0, .null, .null, .int 0, .int 0]))] [(q_1, 15)] true H := hJ
  refine W.cs (cells' := 1) (slots' := 6) rfl rfl ?_
  refine c_putF (D := D) (ci := 1) (v := .ref q_1) (ty := (.array .int)) (C := RX1) (T := TX1) (N' := 6) hx hb hts iX1_init_X1 tyX1 tyX1_ok nmX1 hown hK hJ hS 0 rfl rfl 2 (by decide) (hts (.fieldLink RX1 18 "CatLeases$Auction" "firstLikings" "[I") (List.mem_of_getElem? (i := 7) rfl)) (fun _ h9 => h9) rfl hin rfl (by decide +kernel) rfl rfl (Nat.le_of_ble_eq_true rfl) dX1_init_19 (fun H locs hJ hS => ?_)
  have hJ : cJ D g A [(z, .inr (1, [.int 0, .int 0, .ref q_1, .null, .int 0, .int 0]))] [(q_1, 15)] true H := hJ
  refine lv_aload_n hx hb dX1_init_22 rfl (lv_at hl 0 rfl) ?_
  refine lv_bipush (v := 6) hx hb dX1_init_23 (by decide) ?_
  refine c_newa (atype := .int) hx hb (hts (.arrayClass .int) (List.mem_of_getElem? (i := 6) rfl)) rfl hK hJ hS hA 1 rfl 15 (by decide) rfl rfl (tic0 (lo := (-2147483648)) (hi := 2147483647) (fun _ => rfl) (by decide) (by decide)) (fun _ => rfl) (by decide) (by decide) (by decide) (Nat.le_of_ble_eq_true rfl) (Nat.le_of_ble_eq_true rfl) dX1_init_25 (fun q_2 H hJ hS => ?_)
  have hJ : cJ D g A [(z, .inr (1, [.int 0, .int 0, .ref q_1, .null, .int 0, .int 0]))] [(q_2, 15), (q_1, 15)] true H := hJ
  refine W.cs (cells' := 2) (slots' := 12) rfl rfl ?_
  refine c_putF (D := D) (ci := 1) (v := .ref q_2) (ty := (.array .int)) (C := RX1) (T := TX1) (N' := 6) hx hb hts iX1_init_X1 tyX1 tyX1_ok nmX1 hown hK hJ hS 0 rfl rfl 3 (by decide) (hts (.fieldLink RX1 22 "CatLeases$Auction" "otherLikings" "[I") (List.mem_of_getElem? (i := 8) rfl)) (fun _ h9 => h9) rfl hin rfl (by decide +kernel) rfl rfl (Nat.le_of_ble_eq_true rfl) dX1_init_27 (fun H locs hJ hS => ?_)
  have hJ : cJ D g A [(z, .inr (1, [.int 0, .int 0, .ref q_1, .ref q_2, .int 0, .int 0]))] [(q_2, 15), (q_1, 15)] true H := hJ
  refine lv_aload_n hx hb dX1_init_30 rfl (lv_at hl 0 rfl) ?_
  refine lv_iconst (v := 0) hx hb dX1_init_31 (by decide) ?_
  refine c_put (D := D) (ci := 1) (v := .int 0) (ty := .int) (C := RX1) (T := TX1) (N' := 6) hx hb hts iX1_init_X1 tyX1 tyX1_ok nmX1 hown hK hJ hS 0 rfl rfl 4 (by decide) (hts (.fieldLink RX1 25 "CatLeases$Auction" "firstMost" "I") (List.mem_of_getElem? (i := 9) rfl)) (fun _ h9 => h9) rfl (by decide +kernel) rfl rfl (Nat.le_of_ble_eq_true rfl) dX1_init_32 (fun H locs hJ hS => ?_)
  have hJ : cJ D g A [(z, .inr (1, [.int 0, .int 0, .ref q_1, .ref q_2, .int 0, .int 0]))] [(q_2, 15), (q_1, 15)] true H := hJ
  refine lv_aload_n hx hb dX1_init_35 rfl (lv_at hl 0 rfl) ?_
  refine lv_iconst (v := 0) hx hb dX1_init_36 (by decide) ?_
  refine c_put (D := D) (ci := 1) (v := .int 0) (ty := .int) (C := RX1) (T := TX1) (N' := 6) hx hb hts iX1_init_X1 tyX1 tyX1_ok nmX1 hown hK hJ hS 0 rfl rfl 5 (by decide) (hts (.fieldLink RX1 28 "CatLeases$Auction" "otherMost" "I") (List.mem_of_getElem? (i := 10) rfl)) (fun _ h9 => h9) rfl (by decide +kernel) rfl rfl (Nat.le_of_ble_eq_true rfl) dX1_init_37 (fun H locs hJ hS => ?_)
  have hJ : cJ D g A [(z, .inr (1, [.int 0, .int 0, .ref q_1, .ref q_2, .int 0, .int 0]))] [(q_2, 15), (q_1, 15)] true H := hJ
  obtain ⟨σ, M, N, R, k1, k2, k3, k4, k5, km, kr⟩ := hJ.take (s := 1) _ _ _ (c_obj (hJ.1 0 _ rfl) (by decide) rfl rfl (fun k hk => match k, hk with
      | 0, _ => rfl
      | 1, _ => rfl
      | 2, _ => rfl
      | 3, _ => rfl
      | 4, _ => rfl
      | 5, _ => rfl
      | (k + 6), h => absurd h (by omega))) (fun k hk => match k, hk with
      | 0, _ => iv_zero (by decide) (by decide)
      | 1, _ => iv_zero (by decide) (by decide)
      | 2, _ => iv_any _
      | 3, _ => iv_any _
      | 4, _ => iv_zero (by decide) (by decide)
      | 5, _ => iv_zero (by decide) (by decide)
      | (k + 6), h => absurd h (show ¬ k + 6 < 6 by omega)) (fun k hk => match k, hk with
      | 0, _ => Or.inl rfl
      | 1, _ => Or.inl rfl
      | 2, _ => Or.inr ⟨15, by decide, List.mem_of_getElem? (i := 1) rfl⟩
      | 3, _ => Or.inr ⟨15, by decide, List.mem_of_getElem? (i := 0) rfl⟩
      | 4, _ => Or.inl rfl
      | 5, _ => Or.inl rfl
      | (k + 6), h => absurd h (show ¬ k + 6 < 6 by omega))
  exact c_ret hQ hx hb hr hlocks hK ⟨σ, M, N, R, k1, k2, fun a ha => (k3 a ha).1, k4 _ (List.mem_of_getElem? (i := 0) rfl), trivial⟩ hS dX1_init_40
set_option maxHeartbeats 4000000 in
set_option maxRecDepth 100000 in
theorem c_X6 (l : Launch) (D : va_G) (g : Nat → ClassId) (ev : Nat → Nat) (sz z : Nat) : Met l yX6_init wsX6_init ({ frames := 1, cells := 6, slots := 850, locals := 12 }) (va_Pc [.ref z] (cPre D g ev 6 dfX6 z sz)) (cQ D g z 6 (fun _ _ => True) (cA z sz)) 6 850 (cA z sz) := by
  refine c_head (cc := cX6_init) (maxL := 1) (by decide) rfl (Nat.le_of_ble_eq_true rfl) ?_
  intro p e s m below meth c ls A Q ar hQ hx hb hr hlocks hml hown hin hts hA hAz hK hE hJ hS hl
  have hown : s.vm.findClass RX6 = some m.cls := hown
  have hl : lv_has ls 1 [(0, .ref z)] := hl
  refine lv_aload_n hx hb dX6_init_0 rfl (lv_at hl 0 rfl) ?_
  refine W.objInit hx hb hown (hts (.methodLink RX6 3 objectInit) (List.mem_of_getElem? (i := 1) rfl)) (hts (.instanceMethod objectInit) (List.mem_of_getElem? (i := 2) rfl)) (hts (.code objectInit ⟨#[0xb1]⟩ 1 none) (List.mem_of_getElem? (i := 3) rfl)) rfl (by rw [hml]; exact hl.1) rfl dX6_init_1 (Nat.le_of_ble_eq_true rfl) (Nat.le_of_ble_eq_true rfl) ?_
  refine W.eq (g2 := F0 m 4 ls []) rfl ?_
  refine lv_aload_n hx hb dX6_init_4 rfl (lv_at hl 0 rfl) ?_
  refine lv_iconst (v := 0) hx hb dX6_init_5 (by decide) ?_
  refine c_put (D := D) (ci := 6) (v := .int 0) (ty := .int) (C := RX6) (T := TX6) (N' := 9) hx hb hts iX6_init_X6 tyX6 tyX6_ok nmX6 hown hK hJ hS 0 rfl rfl 0 (by decide) (hts (.fieldLink RX6 9 "CatLeases$Sightings" "count" "I") (List.mem_of_getElem? (i := 4) rfl)) (fun _ h9 => h9) rfl (by decide +kernel) rfl rfl (Nat.le_of_ble_eq_true rfl) dX6_init_6 (fun H locs hJ hS => ?_)
  have hJ : cJ D g A [(z, .inr (6, [.int 0, .null, .null, .null, .null, .null, .null, .int 0, .int 0]))] [] true H := hJ
  refine lv_aload_n hx hb dX6_init_9 rfl (lv_at hl 0 rfl) ?_
  refine lv_bipush (v := 30) hx hb dX6_init_10 (by decide) ?_
  refine c_newa (atype := .int) hx hb (hts (.arrayClass .int) (List.mem_of_getElem? (i := 5) rfl)) rfl hK hJ hS hA 1 rfl 18 (by decide) rfl rfl (tic0 (lo := (-2147483648)) (hi := 2147483647) (fun _ => rfl) (by decide) (by decide)) (fun _ => rfl) (by decide) (by decide) (by decide) (Nat.le_of_ble_eq_true rfl) (Nat.le_of_ble_eq_true rfl) dX6_init_12 (fun q_1 H hJ hS => ?_)
  have hJ : cJ D g A [(z, .inr (6, [.int 0, .null, .null, .null, .null, .null, .null, .int 0, .int 0]))] [(q_1, 18)] true H := hJ
  refine W.cs (cells' := 1) (slots' := 30) rfl rfl ?_
  refine c_putF (D := D) (ci := 6) (v := .ref q_1) (ty := (.array .int)) (C := RX6) (T := TX6) (N' := 9) hx hb hts iX6_init_X6 tyX6 tyX6_ok nmX6 hown hK hJ hS 0 rfl rfl 1 (by decide) (hts (.fieldLink RX6 15 "CatLeases$Sightings" "quarters" "[I") (List.mem_of_getElem? (i := 6) rfl)) (fun _ h9 => h9) rfl hin rfl (by decide +kernel) rfl rfl (Nat.le_of_ble_eq_true rfl) dX6_init_14 (fun H locs hJ hS => ?_)
  have hJ : cJ D g A [(z, .inr (6, [.int 0, .ref q_1, .null, .null, .null, .null, .null, .int 0, .int 0]))] [(q_1, 18)] true H := hJ
  refine lv_aload_n hx hb dX6_init_17 rfl (lv_at hl 0 rfl) ?_
  refine lv_bipush (v := 30) hx hb dX6_init_18 (by decide) ?_
  refine c_newa (atype := .int) hx hb (hts (.arrayClass .int) (List.mem_of_getElem? (i := 5) rfl)) rfl hK hJ hS hA 1 rfl 19 (by decide) rfl rfl (tic0 (lo := 0) (hi := 6) (fun _ => rfl) (by decide) (by decide)) (fun _ => rfl) (by decide) (by decide) (by decide) (Nat.le_of_ble_eq_true rfl) (Nat.le_of_ble_eq_true rfl) dX6_init_20 (fun q_2 H hJ hS => ?_)
  have hJ : cJ D g A [(z, .inr (6, [.int 0, .ref q_1, .null, .null, .null, .null, .null, .int 0, .int 0]))] [(q_2, 19), (q_1, 18)] true H := hJ
  refine W.cs (cells' := 2) (slots' := 60) rfl rfl ?_
  refine c_putF (D := D) (ci := 6) (v := .ref q_2) (ty := (.array .int)) (C := RX6) (T := TX6) (N' := 9) hx hb hts iX6_init_X6 tyX6 tyX6_ok nmX6 hown hK hJ hS 0 rfl rfl 2 (by decide) (hts (.fieldLink RX6 19 "CatLeases$Sightings" "tenants" "[I") (List.mem_of_getElem? (i := 7) rfl)) (fun _ h9 => h9) rfl hin rfl (by decide +kernel) rfl rfl (Nat.le_of_ble_eq_true rfl) dX6_init_22 (fun H locs hJ hS => ?_)
  have hJ : cJ D g A [(z, .inr (6, [.int 0, .ref q_1, .ref q_2, .null, .null, .null, .null, .int 0, .int 0]))] [(q_2, 19), (q_1, 18)] true H := hJ
  refine lv_aload_n hx hb dX6_init_25 rfl (lv_at hl 0 rfl) ?_
  refine lv_bipush (v := 30) hx hb dX6_init_26 (by decide) ?_
  refine c_newa (atype := .boolean) hx hb (hts (.arrayClass .boolean) (List.mem_of_getElem? (i := 8) rfl)) rfl hK hJ hS hA 3 rfl 20 (by decide) rfl rfl (tic0 (lo := 0) (hi := 1) (fun _ => rfl) (by decide) (by decide)) (fun _ => rfl) (by decide) (by decide) (by decide) (Nat.le_of_ble_eq_true rfl) (Nat.le_of_ble_eq_true rfl) dX6_init_28 (fun q_3 H hJ hS => ?_)
  have hJ : cJ D g A [(z, .inr (6, [.int 0, .ref q_1, .ref q_2, .null, .null, .null, .null, .int 0, .int 0]))] [(q_3, 20), (q_2, 19), (q_1, 18)] true H := hJ
  refine W.cs (cells' := 3) (slots' := 90) rfl rfl ?_
  refine c_putF (D := D) (ci := 6) (v := .ref q_3) (ty := (.array .boolean)) (C := RX6) (T := TX6) (N' := 9) hx hb hts iX6_init_X6 tyX6 tyX6_ok nmX6 hown hK hJ hS 0 rfl rfl 3 (by decide) (hts (.fieldLink RX6 22 "CatLeases$Sightings" "inside" "[Z") (List.mem_of_getElem? (i := 9) rfl)) (fun _ h9 => h9) rfl hin rfl (by decide +kernel) rfl rfl (Nat.le_of_ble_eq_true rfl) dX6_init_30 (fun H locs hJ hS => ?_)
  have hJ : cJ D g A [(z, .inr (6, [.int 0, .ref q_1, .ref q_2, .ref q_3, .null, .null, .null, .int 0, .int 0]))] [(q_3, 20), (q_2, 19), (q_1, 18)] true H := hJ
  refine lv_aload_n hx hb dX6_init_33 rfl (lv_at hl 0 rfl) ?_
  refine lv_bipush (v := 30) hx hb dX6_init_34 (by decide) ?_
  refine c_newa (atype := .int) hx hb (hts (.arrayClass .int) (List.mem_of_getElem? (i := 5) rfl)) rfl hK hJ hS hA 1 rfl 18 (by decide) rfl rfl (tic0 (lo := (-2147483648)) (hi := 2147483647) (fun _ => rfl) (by decide) (by decide)) (fun _ => rfl) (by decide) (by decide) (by decide) (Nat.le_of_ble_eq_true rfl) (Nat.le_of_ble_eq_true rfl) dX6_init_36 (fun q_4 H hJ hS => ?_)
  have hJ : cJ D g A [(z, .inr (6, [.int 0, .ref q_1, .ref q_2, .ref q_3, .null, .null, .null, .int 0, .int 0]))] [(q_4, 18), (q_3, 20), (q_2, 19), (q_1, 18)] true H := hJ
  refine W.cs (cells' := 4) (slots' := 120) rfl rfl ?_
  refine c_putF (D := D) (ci := 6) (v := .ref q_4) (ty := (.array .int)) (C := RX6) (T := TX6) (N' := 9) hx hb hts iX6_init_X6 tyX6 tyX6_ok nmX6 hown hK hJ hS 0 rfl rfl 4 (by decide) (hts (.fieldLink RX6 26 "CatLeases$Sightings" "toldAt" "[I") (List.mem_of_getElem? (i := 10) rfl)) (fun _ h9 => h9) rfl hin rfl (by decide +kernel) rfl rfl (Nat.le_of_ble_eq_true rfl) dX6_init_38 (fun H locs hJ hS => ?_)
  have hJ : cJ D g A [(z, .inr (6, [.int 0, .ref q_1, .ref q_2, .ref q_3, .ref q_4, .null, .null, .int 0, .int 0]))] [(q_4, 18), (q_3, 20), (q_2, 19), (q_1, 18)] true H := hJ
  refine lv_aload_n hx hb dX6_init_41 rfl (lv_at hl 0 rfl) ?_
  refine lv_bipush (v := 30) hx hb dX6_init_42 (by decide) ?_
  refine c_newa (atype := .int) hx hb (hts (.arrayClass .int) (List.mem_of_getElem? (i := 5) rfl)) rfl hK hJ hS hA 1 rfl 18 (by decide) rfl rfl (tic0 (lo := (-2147483648)) (hi := 2147483647) (fun _ => rfl) (by decide) (by decide)) (fun _ => rfl) (by decide) (by decide) (by decide) (Nat.le_of_ble_eq_true rfl) (Nat.le_of_ble_eq_true rfl) dX6_init_44 (fun q_5 H hJ hS => ?_)
  have hJ : cJ D g A [(z, .inr (6, [.int 0, .ref q_1, .ref q_2, .ref q_3, .ref q_4, .null, .null, .int 0, .int 0]))] [(q_5, 18), (q_4, 18), (q_3, 20), (q_2, 19), (q_1, 18)] true H := hJ
  refine W.cs (cells' := 5) (slots' := 150) rfl rfl ?_
  refine c_putF (D := D) (ci := 6) (v := .ref q_5) (ty := (.array .int)) (C := RX6) (T := TX6) (N' := 9) hx hb hts iX6_init_X6 tyX6 tyX6_ok nmX6 hown hK hJ hS 0 rfl rfl 5 (by decide) (hts (.fieldLink RX6 29 "CatLeases$Sightings" "untoldAt" "[I") (List.mem_of_getElem? (i := 11) rfl)) (fun _ h9 => h9) rfl hin rfl (by decide +kernel) rfl rfl (Nat.le_of_ble_eq_true rfl) dX6_init_46 (fun H locs hJ hS => ?_)
  have hJ : cJ D g A [(z, .inr (6, [.int 0, .ref q_1, .ref q_2, .ref q_3, .ref q_4, .ref q_5, .null, .int 0, .int 0]))] [(q_5, 18), (q_4, 18), (q_3, 20), (q_2, 19), (q_1, 18)] true H := hJ
  refine lv_aload_n hx hb dX6_init_49 rfl (lv_at hl 0 rfl) ?_
  refine lv_sipush (v := 700) hx hb dX6_init_50 (by decide) ?_
  refine c_newa (atype := .int) hx hb (hts (.arrayClass .int) (List.mem_of_getElem? (i := 5) rfl)) rfl hK hJ hS hA 1 rfl 21 (by decide) rfl rfl (tic0 (lo := (-2147483648)) (hi := 2147483647) (fun _ => rfl) (by decide) (by decide)) (fun _ => rfl) (by decide) (by decide) (by decide) (Nat.le_of_ble_eq_true rfl) (Nat.le_of_ble_eq_true rfl) dX6_init_53 (fun q_6 H hJ hS => ?_)
  have hJ : cJ D g A [(z, .inr (6, [.int 0, .ref q_1, .ref q_2, .ref q_3, .ref q_4, .ref q_5, .null, .int 0, .int 0]))] [(q_6, 21), (q_5, 18), (q_4, 18), (q_3, 20), (q_2, 19), (q_1, 18)] true H := hJ
  refine W.cs (cells' := 6) (slots' := 850) rfl rfl ?_
  refine c_putF (D := D) (ci := 6) (v := .ref q_6) (ty := (.array .int)) (C := RX6) (T := TX6) (N' := 9) hx hb hts iX6_init_X6 tyX6 tyX6_ok nmX6 hown hK hJ hS 0 rfl rfl 6 (by decide) (hts (.fieldLink RX6 32 "CatLeases$Sightings" "outBehind" "[I") (List.mem_of_getElem? (i := 12) rfl)) (fun _ h9 => h9) rfl hin rfl (by decide +kernel) rfl rfl (Nat.le_of_ble_eq_true rfl) dX6_init_55 (fun H locs hJ hS => ?_)
  have hJ : cJ D g A [(z, .inr (6, [.int 0, .ref q_1, .ref q_2, .ref q_3, .ref q_4, .ref q_5, .ref q_6, .int 0, .int 0]))] [(q_6, 21), (q_5, 18), (q_4, 18), (q_3, 20), (q_2, 19), (q_1, 18)] true H := hJ
  refine lv_aload_n hx hb dX6_init_58 rfl (lv_at hl 0 rfl) ?_
  refine lv_iconst (v := 0) hx hb dX6_init_59 (by decide) ?_
  refine c_put (D := D) (ci := 6) (v := .int 0) (ty := .boolean) (C := RX6) (T := TX6) (N' := 9) hx hb hts iX6_init_X6 tyX6 tyX6_ok nmX6 hown hK hJ hS 0 rfl rfl 7 (by decide) (hts (.fieldLink RX6 35 "CatLeases$Sightings" "foreseen" "Z") (List.mem_of_getElem? (i := 13) rfl)) (fun _ h9 => h9) rfl (by decide +kernel) rfl rfl (Nat.le_of_ble_eq_true rfl) dX6_init_60 (fun H locs hJ hS => ?_)
  have hJ : cJ D g A [(z, .inr (6, [.int 0, .ref q_1, .ref q_2, .ref q_3, .ref q_4, .ref q_5, .ref q_6, .int 0, .int 0]))] [(q_6, 21), (q_5, 18), (q_4, 18), (q_3, 20), (q_2, 19), (q_1, 18)] true H := hJ
  refine lv_aload_n hx hb dX6_init_63 rfl (lv_at hl 0 rfl) ?_
  refine lv_iconst (v := 0) hx hb dX6_init_64 (by decide) ?_
  refine c_put (D := D) (ci := 6) (v := .int 0) (ty := .boolean) (C := RX6) (T := TX6) (N' := 9) hx hb hts iX6_init_X6 tyX6 tyX6_ok nmX6 hown hK hJ hS 0 rfl rfl 8 (by decide) (hts (.fieldLink RX6 39 "CatLeases$Sightings" "anyCats" "Z") (List.mem_of_getElem? (i := 14) rfl)) (fun _ h9 => h9) rfl (by decide +kernel) rfl rfl (Nat.le_of_ble_eq_true rfl) dX6_init_65 (fun H locs hJ hS => ?_)
  have hJ : cJ D g A [(z, .inr (6, [.int 0, .ref q_1, .ref q_2, .ref q_3, .ref q_4, .ref q_5, .ref q_6, .int 0, .int 0]))] [(q_6, 21), (q_5, 18), (q_4, 18), (q_3, 20), (q_2, 19), (q_1, 18)] true H := hJ
  obtain ⟨σ, M, N, R, k1, k2, k3, k4, k5, km, kr⟩ := hJ.take (s := 6) _ _ _ (c_obj (hJ.1 0 _ rfl) (by decide) rfl rfl (fun k hk => match k, hk with
      | 0, _ => rfl
      | 1, _ => rfl
      | 2, _ => rfl
      | 3, _ => rfl
      | 4, _ => rfl
      | 5, _ => rfl
      | 6, _ => rfl
      | 7, _ => rfl
      | 8, _ => rfl
      | (k + 9), h => absurd h (by omega))) (fun k hk => match k, hk with
      | 0, _ => iv_zero (by decide) (by decide)
      | 1, _ => iv_any _
      | 2, _ => iv_any _
      | 3, _ => iv_any _
      | 4, _ => iv_any _
      | 5, _ => iv_any _
      | 6, _ => iv_any _
      | 7, _ => iv_zero (by decide) (by decide)
      | 8, _ => iv_zero (by decide) (by decide)
      | (k + 9), h => absurd h (show ¬ k + 9 < 9 by omega)) (fun k hk => match k, hk with
      | 0, _ => Or.inl rfl
      | 1, _ => Or.inr ⟨18, by decide, List.mem_of_getElem? (i := 5) rfl⟩
      | 2, _ => Or.inr ⟨19, by decide, List.mem_of_getElem? (i := 4) rfl⟩
      | 3, _ => Or.inr ⟨20, by decide, List.mem_of_getElem? (i := 3) rfl⟩
      | 4, _ => Or.inr ⟨18, by decide, List.mem_of_getElem? (i := 2) rfl⟩
      | 5, _ => Or.inr ⟨18, by decide, List.mem_of_getElem? (i := 1) rfl⟩
      | 6, _ => Or.inr ⟨21, by decide, List.mem_of_getElem? (i := 0) rfl⟩
      | 7, _ => Or.inl rfl
      | 8, _ => Or.inl rfl
      | (k + 9), h => absurd h (show ¬ k + 9 < 9 by omega))
  exact c_ret hQ hx hb hr hlocks hK ⟨σ, M, N, R, k1, k2, fun a ha => (k3 a ha).1, k4 _ (List.mem_of_getElem? (i := 0) rfl), trivial⟩ hS dX6_init_68
set_option maxHeartbeats 4000000 in
set_option maxRecDepth 100000 in
theorem c_X4 (l : Launch) (D : va_G) (g : Nat → ClassId) (ev : Nat → Nat) (sz z : Nat) : Met l yX4_init wsX4_init ({ frames := 2, cells := 13, slots := 373, locals := 43 }) (va_Pc [.ref z] (cPre D g ev 4 dfX4 z sz)) (cQ D g z 4 (fun _ _ => True) (cA z sz)) 13 373 (cA z sz) := by
  refine c_head (cc := cX4_init) (maxL := 1) (by decide) rfl (Nat.le_of_ble_eq_true rfl) ?_
  intro p e s m below meth c ls A Q ar hQ hx hb hr hlocks hml hown hin hts hA hAz hK hE hJ hS hl
  have hown : s.vm.findClass RX4 = some m.cls := hown
  have hl : lv_has ls 1 [(0, .ref z)] := hl
  refine lv_aload_n hx hb dX4_init_0 rfl (lv_at hl 0 rfl) ?_
  refine W.objInit hx hb hown (hts (.methodLink RX4 3 objectInit) (List.mem_of_getElem? (i := 1) rfl)) (hts (.instanceMethod objectInit) (List.mem_of_getElem? (i := 2) rfl)) (hts (.code objectInit ⟨#[0xb1]⟩ 1 none) (List.mem_of_getElem? (i := 3) rfl)) rfl (by rw [hml]; exact hl.1) rfl dX4_init_1 (Nat.le_of_ble_eq_true rfl) (Nat.le_of_ble_eq_true rfl) ?_
  refine W.eq (g2 := F0 m 4 ls []) rfl ?_
  refine lv_aload_n hx hb dX4_init_4 rfl (lv_at hl 0 rfl) ?_
  refine lv_iconst (v := 0) hx hb dX4_init_5 (by decide) ?_
  refine c_put (D := D) (ci := 4) (v := .int 0) (ty := .int) (C := RX4) (T := TX4) (N' := 11) hx hb hts iX4_init_X4 tyX4 tyX4_ok nmX4 hown hK hJ hS 0 rfl rfl 0 (by decide) (hts (.fieldLink RX4 9 "CatLeases$Mews" "cats" "I") (List.mem_of_getElem? (i := 4) rfl)) (fun _ h9 => h9) rfl (by decide +kernel) rfl rfl (Nat.le_of_ble_eq_true rfl) dX4_init_6 (fun H locs hJ hS => ?_)
  have hJ : cJ D g A [(z, .inr (4, [.int 0, .int 0, .int 0, .int 0, .int 0, .null, .null, .null, .null, .null, .null]))] [] true H := hJ
  refine lv_aload_n hx hb dX4_init_9 rfl (lv_at hl 0 rfl) ?_
  refine lv_iconst (v := 0) hx hb dX4_init_10 (by decide) ?_
  refine c_put (D := D) (ci := 4) (v := .int 0) (ty := .int) (C := RX4) (T := TX4) (N' := 11) hx hb hts iX4_init_X4 tyX4 tyX4_ok nmX4 hown hK hJ hS 0 rfl rfl 1 (by decide) (hts (.fieldLink RX4 15 "CatLeases$Mews" "rooms" "I") (List.mem_of_getElem? (i := 5) rfl)) (fun _ h9 => h9) rfl (by decide +kernel) rfl rfl (Nat.le_of_ble_eq_true rfl) dX4_init_11 (fun H locs hJ hS => ?_)
  have hJ : cJ D g A [(z, .inr (4, [.int 0, .int 0, .int 0, .int 0, .int 0, .null, .null, .null, .null, .null, .null]))] [] true H := hJ
  refine lv_aload_n hx hb dX4_init_14 rfl (lv_at hl 0 rfl) ?_
  refine lv_iconst (v := 0) hx hb dX4_init_15 (by decide) ?_
  refine c_put (D := D) (ci := 4) (v := .int 0) (ty := .int) (C := RX4) (T := TX4) (N' := 11) hx hb hts iX4_init_X4 tyX4 tyX4_ok nmX4 hown hK hJ hS 0 rfl rfl 2 (by decide) (hts (.fieldLink RX4 18 "CatLeases$Mews" "tenants" "I") (List.mem_of_getElem? (i := 6) rfl)) (fun _ h9 => h9) rfl (by decide +kernel) rfl rfl (Nat.le_of_ble_eq_true rfl) dX4_init_16 (fun H locs hJ hS => ?_)
  have hJ : cJ D g A [(z, .inr (4, [.int 0, .int 0, .int 0, .int 0, .int 0, .null, .null, .null, .null, .null, .null]))] [] true H := hJ
  refine lv_aload_n hx hb dX4_init_19 rfl (lv_at hl 0 rfl) ?_
  refine lv_iconst (v := 0) hx hb dX4_init_20 (by decide) ?_
  refine c_put (D := D) (ci := 4) (v := .int 0) (ty := .int) (C := RX4) (T := TX4) (N' := 11) hx hb hts iX4_init_X4 tyX4 tyX4_ok nmX4 hown hK hJ hS 0 rfl rfl 3 (by decide) (hts (.fieldLink RX4 21 "CatLeases$Mews" "dies" "I") (List.mem_of_getElem? (i := 7) rfl)) (fun _ h9 => h9) rfl (by decide +kernel) rfl rfl (Nat.le_of_ble_eq_true rfl) dX4_init_21 (fun H locs hJ hS => ?_)
  have hJ : cJ D g A [(z, .inr (4, [.int 0, .int 0, .int 0, .int 0, .int 0, .null, .null, .null, .null, .null, .null]))] [] true H := hJ
  refine lv_aload_n hx hb dX4_init_24 rfl (lv_at hl 0 rfl) ?_
  refine lv_iconst (v := 0) hx hb dX4_init_25 (by decide) ?_
  refine c_put (D := D) (ci := 4) (v := .int 0) (ty := .int) (C := RX4) (T := TX4) (N' := 11) hx hb hts iX4_init_X4 tyX4 tyX4_ok nmX4 hown hK hJ hS 0 rfl rfl 4 (by decide) (hts (.fieldLink RX4 24 "CatLeases$Mews" "units" "I") (List.mem_of_getElem? (i := 8) rfl)) (fun _ h9 => h9) rfl (by decide +kernel) rfl rfl (Nat.le_of_ble_eq_true rfl) dX4_init_26 (fun H locs hJ hS => ?_)
  have hJ : cJ D g A [(z, .inr (4, [.int 0, .int 0, .int 0, .int 0, .int 0, .null, .null, .null, .null, .null, .null]))] [] true H := hJ
  refine lv_aload_n hx hb dX4_init_29 rfl (lv_at hl 0 rfl) ?_
  refine lv_bipush (v := 6) hx hb dX4_init_30 (by decide) ?_
  refine c_newa (atype := .int) hx hb (hts (.arrayClass .int) (List.mem_of_getElem? (i := 9) rfl)) rfl hK hJ hS hA 1 rfl 15 (by decide) rfl rfl (tic0 (lo := (-2147483648)) (hi := 2147483647) (fun _ => rfl) (by decide) (by decide)) (fun _ => rfl) (by decide) (by decide) (by decide) (Nat.le_of_ble_eq_true rfl) (Nat.le_of_ble_eq_true rfl) dX4_init_32 (fun q_1 H hJ hS => ?_)
  have hJ : cJ D g A [(z, .inr (4, [.int 0, .int 0, .int 0, .int 0, .int 0, .null, .null, .null, .null, .null, .null]))] [(q_1, 15)] true H := hJ
  refine W.cs (cells' := 1) (slots' := 6) rfl rfl ?_
  refine c_putF (D := D) (ci := 4) (v := .ref q_1) (ty := (.array .int)) (C := RX4) (T := TX4) (N' := 11) hx hb hts iX4_init_X4 tyX4 tyX4_ok nmX4 hown hK hJ hS 0 rfl rfl 5 (by decide) (hts (.fieldLink RX4 27 "CatLeases$Mews" "wants" "[I") (List.mem_of_getElem? (i := 10) rfl)) (fun _ h9 => h9) rfl hin rfl (by decide +kernel) rfl rfl (Nat.le_of_ble_eq_true rfl) dX4_init_34 (fun H locs hJ hS => ?_)
  have hJ : cJ D g A [(z, .inr (4, [.int 0, .int 0, .int 0, .int 0, .int 0, .ref q_1, .null, .null, .null, .null, .null]))] [(q_1, 15)] true H := hJ
  refine lv_aload_n hx hb dX4_init_37 rfl (lv_at hl 0 rfl) ?_
  refine lv_bipush (v := 6) hx hb dX4_init_38 (by decide) ?_
  refine c_newa (atype := .int) hx hb (hts (.arrayClass .int) (List.mem_of_getElem? (i := 9) rfl)) rfl hK hJ hS hA 1 rfl 15 (by decide) rfl rfl (tic0 (lo := (-2147483648)) (hi := 2147483647) (fun _ => rfl) (by decide) (by decide)) (fun _ => rfl) (by decide) (by decide) (by decide) (Nat.le_of_ble_eq_true rfl) (Nat.le_of_ble_eq_true rfl) dX4_init_40 (fun q_2 H hJ hS => ?_)
  have hJ : cJ D g A [(z, .inr (4, [.int 0, .int 0, .int 0, .int 0, .int 0, .ref q_1, .null, .null, .null, .null, .null]))] [(q_2, 15), (q_1, 15)] true H := hJ
  refine W.cs (cells' := 2) (slots' := 12) rfl rfl ?_
  refine c_putF (D := D) (ci := 4) (v := .ref q_2) (ty := (.array .int)) (C := RX4) (T := TX4) (N' := 11) hx hb hts iX4_init_X4 tyX4 tyX4_ok nmX4 hown hK hJ hS 0 rfl rfl 6 (by decide) (hts (.fieldLink RX4 31 "CatLeases$Mews" "heirs" "[I") (List.mem_of_getElem? (i := 11) rfl)) (fun _ h9 => h9) rfl hin rfl (by decide +kernel) rfl rfl (Nat.le_of_ble_eq_true rfl) dX4_init_42 (fun H locs hJ hS => ?_)
  have hJ : cJ D g A [(z, .inr (4, [.int 0, .int 0, .int 0, .int 0, .int 0, .ref q_1, .ref q_2, .null, .null, .null, .null]))] [(q_2, 15), (q_1, 15)] true H := hJ
  refine lv_aload_n hx hb dX4_init_45 rfl (lv_at hl 0 rfl) ?_
  refine lv_bipush (v := 7) hx hb dX4_init_46 (by decide) ?_
  refine c_newa (atype := .int) hx hb (hts (.arrayClass .int) (List.mem_of_getElem? (i := 9) rfl)) rfl hK hJ hS hA 1 rfl 14 (by decide) rfl rfl (tic0 (lo := (-2147483648)) (hi := 2147483647) (fun _ => rfl) (by decide) (by decide)) (fun _ => rfl) (by decide) (by decide) (by decide) (Nat.le_of_ble_eq_true rfl) (Nat.le_of_ble_eq_true rfl) dX4_init_48 (fun q_3 H hJ hS => ?_)
  have hJ : cJ D g A [(z, .inr (4, [.int 0, .int 0, .int 0, .int 0, .int 0, .ref q_1, .ref q_2, .null, .null, .null, .null]))] [(q_3, 14), (q_2, 15), (q_1, 15)] true H := hJ
  refine W.cs (cells' := 3) (slots' := 19) rfl rfl ?_
  refine c_putF (D := D) (ci := 4) (v := .ref q_3) (ty := (.array .int)) (C := RX4) (T := TX4) (N' := 11) hx hb hts iX4_init_X4 tyX4 tyX4_ok nmX4 hown hK hJ hS 0 rfl rfl 7 (by decide) (hts (.fieldLink RX4 34 "CatLeases$Mews" "warmths" "[I") (List.mem_of_getElem? (i := 12) rfl)) (fun _ h9 => h9) rfl hin rfl (by decide +kernel) rfl rfl (Nat.le_of_ble_eq_true rfl) dX4_init_50 (fun H locs hJ hS => ?_)
  have hJ : cJ D g A [(z, .inr (4, [.int 0, .int 0, .int 0, .int 0, .int 0, .ref q_1, .ref q_2, .ref q_3, .null, .null, .null]))] [(q_3, 14), (q_2, 15), (q_1, 15)] true H := hJ
  refine lv_aload_n hx hb dX4_init_53 rfl (lv_at hl 0 rfl) ?_
  refine c_newc (ci := 7) (fs := dfX7) (C := RX7) (T := TX7) (N' := 8) hx hb hts iX4_init_X7 tyX7 tyX7_ok hown (hts (.classLink RX4 37 RX7) (List.mem_of_getElem? (i := 13) rfl)) (hts (.instantiable RX7 8) (List.mem_of_getElem? (i := 14) rfl)) (hts (.initialized RX7) (List.mem_of_getElem? (i := 15) rfl)) hK hJ hS hA rfl fsX7 (Nat.le_of_ble_eq_true rfl) (Nat.le_of_ble_eq_true rfl) dX4_init_54 dX4_init_57 (fun q H1 hat hS hAq => va_runI (As := []) (rest := [.ref q, .ref z]) ⟨hx, hb, hml, hown, hts⟩ (c_X7 l D g ev _ q) (cwI 0 hts gX4_init_X7_init rfl rfl rfl (hts (.initialized RX7) (List.mem_of_getElem? (i := 15) rfl)) (hts (.methodLink RX4 39 yX7_init) (List.mem_of_getElem? (i := 22) rfl)) (hts (.instanceMethod yX7_init) (List.mem_of_getElem? (i := 23) rfl)) rfl (by decide +kernel) ⟨Nat.le_of_ble_eq_true rfl, Nat.le_of_ble_eq_true rfl⟩) (c_preI hK hE hS hA hAq hat) rfl rfl hl.1 rfl (lv_room (Nat.le_of_ble_eq_true rfl)) dX4_init_58 ⟨(Nat.le_of_ble_eq_true rfl), (Nat.le_of_ble_eq_true rfl)⟩) (fun q_4 H locs hJ hS => ?_)
  have hJ : cJ D g A [(z, .inr (4, [.int 0, .int 0, .int 0, .int 0, .int 0, .ref q_1, .ref q_2, .ref q_3, .null, .null, .null]))] [(q_4, 7), (q_3, 14), (q_2, 15), (q_1, 15)] false H := hJ
  refine W.cs (cells' := 9) (slots' := 63) rfl rfl ?_
  refine c_putF (D := D) (ci := 4) (v := .ref q_4) (ty := (.object "CatLeases$State")) (C := RX4) (T := TX4) (N' := 11) hx hb hts iX4_init_X4 tyX4 tyX4_ok nmX4 hown hK hJ hS 0 rfl rfl 8 (by decide) (hts (.fieldLink RX4 40 "CatLeases$Mews" "told" "LCatLeases$State;") (List.mem_of_getElem? (i := 16) rfl)) (fun _ h9 => h9) rfl hin rfl (by decide +kernel) rfl rfl (Nat.le_of_ble_eq_true rfl) dX4_init_61 (fun H locs hJ hS => ?_)
  have hJ : cJ D g A [(z, .inr (4, [.int 0, .int 0, .int 0, .int 0, .int 0, .ref q_1, .ref q_2, .ref q_3, .ref q_4, .null, .null]))] [(q_4, 7), (q_3, 14), (q_2, 15), (q_1, 15)] false H := hJ
  refine lv_aload_n hx hb dX4_init_64 rfl (lv_at hl 0 rfl) ?_
  refine c_newc (ci := 2) (fs := dfX2) (C := RX2) (T := TX2) (N' := 3) hx hb hts iX4_init_X2 tyX2 tyX2_ok hown (hts (.classLink RX4 44 RX2) (List.mem_of_getElem? (i := 17) rfl)) (hts (.instantiable RX2 3) (List.mem_of_getElem? (i := 18) rfl)) (hts (.initialized RX2) (List.mem_of_getElem? (i := 19) rfl)) hK hJ hS hA rfl fsX2 (Nat.le_of_ble_eq_true rfl) (Nat.le_of_ble_eq_true rfl) dX4_init_65 dX4_init_68 (fun q H1 hat hS hAq => va_runIN (As := []) (rest := [.ref q, .ref z]) ⟨hx, hb, hml, hown, hts⟩ (c_X2 l D g ev _ q) ⟨va_cnB (host := "CatLeases") 0 hts gX4_init_X2_init_n46 rfl rfl rfl (hE.1.1 _ (List.mem_of_getElem? (i := 4) rfl)) (hts (.initialized RX2) (List.mem_of_getElem? (i := 19) rfl)) (by decide +kernel) ⟨Nat.le_of_ble_eq_true rfl, Nat.le_of_ble_eq_true rfl⟩, rfl, (hts (.instanceMethod yX2_init) (List.mem_of_getElem? (i := 38) rfl))⟩ (c_preI hK hE hS hA hAq hat) rfl rfl hl.1 rfl (lv_room (Nat.le_of_ble_eq_true rfl)) dX4_init_69 ⟨(Nat.le_of_ble_eq_true rfl), (Nat.le_of_ble_eq_true rfl)⟩) (fun q_5 H locs hJ hS => ?_)
  have hJ : cJ D g A [(z, .inr (4, [.int 0, .int 0, .int 0, .int 0, .int 0, .ref q_1, .ref q_2, .ref q_3, .ref q_4, .null, .null]))] [(q_5, 2), (q_4, 7), (q_3, 14), (q_2, 15), (q_1, 15)] false H := hJ
  refine W.cs (cells' := 12) (slots' := 366) rfl rfl ?_
  refine c_putF (D := D) (ci := 4) (v := .ref q_5) (ty := (.object "CatLeases$Formula")) (C := RX4) (T := TX4) (N' := 11) hx hb hts iX4_init_X4 tyX4 tyX4_ok nmX4 hown hK hJ hS 0 rfl rfl 9 (by decide) (hts (.fieldLink RX4 47 "CatLeases$Mews" "formula" "LCatLeases$Formula;") (List.mem_of_getElem? (i := 20) rfl)) (fun _ h9 => h9) rfl hin rfl (by decide +kernel) rfl rfl (Nat.le_of_ble_eq_true rfl) dX4_init_72 (fun H locs hJ hS => ?_)
  have hJ : cJ D g A [(z, .inr (4, [.int 0, .int 0, .int 0, .int 0, .int 0, .ref q_1, .ref q_2, .ref q_3, .ref q_4, .ref q_5, .null]))] [(q_5, 2), (q_4, 7), (q_3, 14), (q_2, 15), (q_1, 15)] false H := hJ
  refine lv_aload_n hx hb dX4_init_75 rfl (lv_at hl 0 rfl) ?_
  refine lv_bipush (v := 7) hx hb dX4_init_76 (by decide) ?_
  refine c_newa (atype := .int) hx hb (hts (.arrayClass .int) (List.mem_of_getElem? (i := 9) rfl)) rfl hK hJ hS hA 1 rfl 14 (by decide) rfl rfl (tic0 (lo := (-2147483648)) (hi := 2147483647) (fun _ => rfl) (by decide) (by decide)) (fun _ => rfl) (by decide) (by decide) (by decide) (Nat.le_of_ble_eq_true rfl) (Nat.le_of_ble_eq_true rfl) dX4_init_78 (fun q_6 H hJ hS => ?_)
  have hJ : cJ D g A [(z, .inr (4, [.int 0, .int 0, .int 0, .int 0, .int 0, .ref q_1, .ref q_2, .ref q_3, .ref q_4, .ref q_5, .null]))] [(q_6, 14), (q_5, 2), (q_4, 7), (q_3, 14), (q_2, 15), (q_1, 15)] false H := hJ
  refine W.cs (cells' := 13) (slots' := 373) rfl rfl ?_
  refine c_putF (D := D) (ci := 4) (v := .ref q_6) (ty := (.array .int)) (C := RX4) (T := TX4) (N' := 11) hx hb hts iX4_init_X4 tyX4 tyX4_ok nmX4 hown hK hJ hS 0 rfl rfl 10 (by decide) (hts (.fieldLink RX4 51 "CatLeases$Mews" "terms" "[I") (List.mem_of_getElem? (i := 21) rfl)) (fun _ h9 => h9) rfl hin rfl (by decide +kernel) rfl rfl (Nat.le_of_ble_eq_true rfl) dX4_init_80 (fun H locs hJ hS => ?_)
  have hJ : cJ D g A [(z, .inr (4, [.int 0, .int 0, .int 0, .int 0, .int 0, .ref q_1, .ref q_2, .ref q_3, .ref q_4, .ref q_5, .ref q_6]))] [(q_6, 14), (q_5, 2), (q_4, 7), (q_3, 14), (q_2, 15), (q_1, 15)] false H := hJ
  obtain ⟨σ, M, N, R, k1, k2, k3, k4, k5, km, kr⟩ := hJ.take (s := 4) _ _ _ (c_obj (hJ.1 0 _ rfl) (by decide) rfl rfl (fun k hk => match k, hk with
      | 0, _ => rfl
      | 1, _ => rfl
      | 2, _ => rfl
      | 3, _ => rfl
      | 4, _ => rfl
      | 5, _ => rfl
      | 6, _ => rfl
      | 7, _ => rfl
      | 8, _ => rfl
      | 9, _ => rfl
      | 10, _ => rfl
      | (k + 11), h => absurd h (by omega))) (fun k hk => match k, hk with
      | 0, _ => iv_zero (by decide) (by decide)
      | 1, _ => iv_zero (by decide) (by decide)
      | 2, _ => iv_zero (by decide) (by decide)
      | 3, _ => iv_any _
      | 4, _ => iv_any _
      | 5, _ => iv_any _
      | 6, _ => iv_any _
      | 7, _ => iv_any _
      | 8, _ => iv_any _
      | 9, _ => iv_any _
      | 10, _ => iv_any _
      | (k + 11), h => absurd h (show ¬ k + 11 < 11 by omega)) (fun k hk => match k, hk with
      | 0, _ => Or.inl rfl
      | 1, _ => Or.inl rfl
      | 2, _ => Or.inl rfl
      | 3, _ => Or.inl rfl
      | 4, _ => Or.inl rfl
      | 5, _ => Or.inr ⟨15, by decide, List.mem_of_getElem? (i := 5) rfl⟩
      | 6, _ => Or.inr ⟨15, by decide, List.mem_of_getElem? (i := 4) rfl⟩
      | 7, _ => Or.inr ⟨14, by decide, List.mem_of_getElem? (i := 3) rfl⟩
      | 8, _ => Or.inr ⟨7, by decide, List.mem_of_getElem? (i := 2) rfl⟩
      | 9, _ => Or.inr ⟨2, by decide, List.mem_of_getElem? (i := 1) rfl⟩
      | 10, _ => Or.inr ⟨14, by decide, List.mem_of_getElem? (i := 0) rfl⟩
      | (k + 11), h => absurd h (show ¬ k + 11 < 11 by omega))
  exact c_ret hQ hx hb hr hlocks hK ⟨σ, M, N, R, k1, k2, fun a ha => (k3 a ha).1, k4 _ (List.mem_of_getElem? (i := 0) rfl), trivial⟩ hS dX4_init_83
