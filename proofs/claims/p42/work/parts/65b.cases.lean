set_option maxHeartbeats 4000000 in
set_option maxRecDepth 100000 in
theorem law_case_16 {p : Program} {l : Launch} {e : Env} {s : State} {m : MethodId} {below : List Frame} {meth : Method} {c : Code} {D : va_G} {g : Nat → ClassId} {ev : Nat → Nat} {b L i : Nat} {xs : Nat → Int32} {A : Nat → Prop} {x y : Nat} {H : Heap} {locs : List Loc} {ls : Array Slot} (C0 : lwC p s m meth c b L xs A D g ev) (hi : i + 6 ≤ L) (hR : lR D g A s H locs x y) (hl : lv_has ls 4 [(3, .int (nI i)), (2, .ref y), (1, .ref x), (0, .ref b)]) (kk : ∀ (H : Heap) (locs : List Loc) (ls : Array Slot), lR D g A s H locs x y → lv_has ls 4 [(3, .int (nI i)), (2, .ref y), (1, .ref x), (0, .ref b)] → W p l e room_1 s m #[Value.ref b] below meth c H locs 364 18454 (lw_Z below #[Value.ref b] s) (F0 m 1513 ls [])) : W p l e room_1 s m #[Value.ref b] below meth c H locs 364 18454 (lw_Z below #[Value.ref b] s) (F0 m 704 ls []) := by
  obtain ⟨hx, hb, hr, hml, hown, hts, hX, hbl, hlocks, hA, hAe, hbA, hK, hE, hL⟩ := C0
  have hown : s.vm.findClass RL = some m.cls := hown
  obtain ⟨σx, Mx, Nx, Rx, σy, My, Ny, Ry, wx, tx, gx, hd, wy, ty, gy, hFy, kv, hv, cw, wv, bv, tm, hS⟩ := hR
  have hFx : ∀ q, σx q ≠ none → A q := fun q h => (hd q h).1
  refine lv_aload_n hx hb dL_law_704 rfl (lv_at hl 2 rfl) ?_
  refine c_goi hS hFx (va_runV (As := []) (rest := []) ⟨hx, hb, hml, hown, hts⟩ (h_redo_X8 l D g σx (zE ev σx) zE_ok Mx Nx Rx x gx) (cwV 0 hts gL_law_X8_redo rfl rfl rfl (by decide +kernel) ⟨Nat.le_of_ble_eq_true rfl, Nat.le_of_ble_eq_true rfl⟩) (c_preV hK hE hS hFx wx tx gx (by decide) rfl) rfl rfl hl.1 rfl (lv_room (Nat.le_of_ble_eq_true rfl)) dL_law_705 ⟨Nat.le_of_ble_eq_true rfl, Nat.le_of_ble_eq_true rfl⟩) (fun r1 Mx1 Nx1 Rx1 H locs q1 z1 w1 t1 hk1 hS => ?_)
  obtain ⟨eN1, eR1, -⟩ := q1
  subst eN1
  subst eR1
  have wy1 := HW.y wy hd hk1
  have tm1 : Mx1 x 13 = Mx x 13 := z1 x 8 13 gx rfl
  refine lv_pop hx hb dL_law_708 rfl ?_
  refine lv_aload_n hx hb dL_law_709 rfl (lv_at hl 1 rfl) ?_
  refine c_goi hS hFy (va_runV (As := []) (rest := []) ⟨hx, hb, hml, hown, hts⟩ (h_redo_X9 l D g σy (zE ev σy) zE_ok My Ny Ry y gy kv wv) (cwV 0 hts gL_law_X9_redo rfl rfl rfl (by decide +kernel) ⟨Nat.le_of_ble_eq_true rfl, Nat.le_of_ble_eq_true rfl⟩) (c_preV hK hE hS hFy wy1 ty gy (by decide) rfl) rfl rfl hl.1 rfl (lv_room (Nat.le_of_ble_eq_true rfl)) dL_law_710 ⟨Nat.le_of_ble_eq_true rfl, Nat.le_of_ble_eq_true rfl⟩) (fun r2 My2 Ny2 Ry2 H locs q2 z2 w2 t2 hk2 hS => ?_)
  obtain ⟨eN2, eR2, -, f2_KV, f2_WV⟩ := q2
  subst eN2
  subst eR2
  have wx2 := HW.x w1 hd hk2
  have g2_HV : HV My2 Ry y := HV_ag t2 gy hv (hAd.ag z2 (by decide))
  have g2_CW : CW My2 Ry y := CW_ag t2 gy cw (hAd.ag z2 (by decide))
  have g2_BV : BV My2 Ry y := BV_ag t2 gy bv (hAd.ag z2 (by decide))
  have tm2 : My2 y 64 = My y 64 := z2 y 9 64 gy rfl
  refine lv_pop hx hb dL_law_713 rfl ?_
  refine lv_goto (tgt := 1513) hx hb dL_law_714 (by decide) ?_
  exact kk _ _ _ ⟨σx, Mx1, Nx, Rx, σy, My2, Ny, Ry, wx2, t1, gx, hd, w2, t2, gy, hFy, f2_KV, g2_HV, g2_CW, f2_WV, g2_BV, ((tm1.trans tm).trans tm2.symm), hS⟩ hl
set_option maxHeartbeats 4000000 in
set_option maxRecDepth 100000 in
theorem law_case_17 {p : Program} {l : Launch} {e : Env} {s : State} {m : MethodId} {below : List Frame} {meth : Method} {c : Code} {D : va_G} {g : Nat → ClassId} {ev : Nat → Nat} {b L i : Nat} {xs : Nat → Int32} {A : Nat → Prop} {x y : Nat} {H : Heap} {locs : List Loc} {ls : Array Slot} (C0 : lwC p s m meth c b L xs A D g ev) (hi : i + 6 ≤ L) (hR : lR D g A s H locs x y) (hl : lv_has ls 4 [(3, .int (nI i)), (2, .ref y), (1, .ref x), (0, .ref b)]) (kk : ∀ (H : Heap) (locs : List Loc) (ls : Array Slot), lR D g A s H locs x y → lv_has ls 4 [(3, .int (nI i)), (2, .ref y), (1, .ref x), (0, .ref b)] → W p l e room_1 s m #[Value.ref b] below meth c H locs 364 18454 (lw_Z below #[Value.ref b] s) (F0 m 1513 ls [])) : W p l e room_1 s m #[Value.ref b] below meth c H locs 364 18454 (lw_Z below #[Value.ref b] s) (F0 m 717 ls []) := by
  obtain ⟨hx, hb, hr, hml, hown, hts, hX, hbl, hlocks, hA, hAe, hbA, hK, hE, hL⟩ := C0
  have hown : s.vm.findClass RL = some m.cls := hown
  obtain ⟨σx, Mx, Nx, Rx, σy, My, Ny, Ry, wx, tx, gx, hd, wy, ty, gy, hFy, kv, hv, cw, wv, bv, tm, hS⟩ := hR
  have hFx : ∀ q, σx q ≠ none → A q := fun q h => (hd q h).1
  refine lv_aload_n hx hb dL_law_717 rfl (lv_at hl 2 rfl) ?_
  refine lv_aload_n hx hb dL_law_718 rfl (lv_at hl 3 rfl) ?_
  refine lv_iload_n hx hb dL_law_719 rfl (lv_at hl 0 rfl) ?_
  refine lv_iconst (v := 1) hx hb dL_law_720 (by decide) ?_
  refine lv_iadd hx hb dL_law_721 ?_
  refine k_top (v := nI (i + 1)) (nI_add i 1) ?_
  refine va_sld hx hb hX hbl hbA hS (vp_in_nI (n := i + 1) (N := L) (by omega) (by omega)) dL_law_722 ?_
  refine lv_aload_n hx hb dL_law_723 rfl (lv_at hl 3 rfl) ?_
  refine lv_iload_n hx hb dL_law_724 rfl (lv_at hl 0 rfl) ?_
  refine lv_iconst (v := 2) hx hb dL_law_725 (by decide) ?_
  refine lv_iadd hx hb dL_law_726 ?_
  refine k_top (v := nI (i + 2)) (nI_add i 2) ?_
  refine va_sld hx hb hX hbl hbA hS (vp_in_nI (n := i + 2) (N := L) (by omega) (by omega)) dL_law_727 ?_
  refine lv_aload_n hx hb dL_law_728 rfl (lv_at hl 3 rfl) ?_
  refine lv_iload_n hx hb dL_law_729 rfl (lv_at hl 0 rfl) ?_
  refine lv_iconst (v := 3) hx hb dL_law_730 (by decide) ?_
  refine lv_iadd hx hb dL_law_731 ?_
  refine k_top (v := nI (i + 3)) (nI_add i 3) ?_
  refine va_sld hx hb hX hbl hbA hS (vp_in_nI (n := i + 3) (N := L) (by omega) (by omega)) dL_law_732 ?_
  refine c_goi hS hFx (va_runV (As := [.int (xs (nI (i + 1)).toNatClampNeg), .int (xs (nI (i + 2)).toNatClampNeg), .int (xs (nI (i + 3)).toNatClampNeg)]) (rest := []) ⟨hx, hb, hml, hown, hts⟩ (h_will_X8 l D g σx (zE ev σx) zE_ok Mx Nx Rx x gx ((xs (nI (i + 1)).toNatClampNeg)) ((xs (nI (i + 2)).toNatClampNeg)) ((xs (nI (i + 3)).toNatClampNeg))) (cwV 3 hts gL_law_X8_will rfl rfl rfl (by decide +kernel) ⟨Nat.le_of_ble_eq_true rfl, Nat.le_of_ble_eq_true rfl⟩) (c_preV hK hE hS hFx wx tx gx (by decide) rfl) rfl rfl hl.1 rfl (lv_room (Nat.le_of_ble_eq_true rfl)) dL_law_733 ⟨Nat.le_of_ble_eq_true rfl, Nat.le_of_ble_eq_true rfl⟩) (fun r1 Mx1 Nx1 Rx1 H locs q1 z1 w1 t1 hk1 hS => ?_)
  obtain ⟨eN1, eR1, -⟩ := q1
  subst eN1
  subst eR1
  have wy1 := HW.y wy hd hk1
  have tm1 : Mx1 x 13 = Mx x 13 := z1 x 8 13 gx rfl
  refine lv_pop hx hb dL_law_736 rfl ?_
  refine lv_aload_n hx hb dL_law_737 rfl (lv_at hl 1 rfl) ?_
  refine lv_aload_n hx hb dL_law_738 rfl (lv_at hl 3 rfl) ?_
  refine lv_iload_n hx hb dL_law_739 rfl (lv_at hl 0 rfl) ?_
  refine lv_iconst (v := 1) hx hb dL_law_740 (by decide) ?_
  refine lv_iadd hx hb dL_law_741 ?_
  refine k_top (v := nI (i + 1)) (nI_add i 1) ?_
  refine va_sld hx hb hX hbl hbA hS (vp_in_nI (n := i + 1) (N := L) (by omega) (by omega)) dL_law_742 ?_
  refine lv_aload_n hx hb dL_law_743 rfl (lv_at hl 3 rfl) ?_
  refine lv_iload_n hx hb dL_law_744 rfl (lv_at hl 0 rfl) ?_
  refine lv_iconst (v := 2) hx hb dL_law_745 (by decide) ?_
  refine lv_iadd hx hb dL_law_746 ?_
  refine k_top (v := nI (i + 2)) (nI_add i 2) ?_
  refine va_sld hx hb hX hbl hbA hS (vp_in_nI (n := i + 2) (N := L) (by omega) (by omega)) dL_law_747 ?_
  refine lv_aload_n hx hb dL_law_748 rfl (lv_at hl 3 rfl) ?_
  refine lv_iload_n hx hb dL_law_749 rfl (lv_at hl 0 rfl) ?_
  refine lv_iconst (v := 3) hx hb dL_law_750 (by decide) ?_
  refine lv_iadd hx hb dL_law_751 ?_
  refine k_top (v := nI (i + 3)) (nI_add i 3) ?_
  refine va_sld hx hb hX hbl hbA hS (vp_in_nI (n := i + 3) (N := L) (by omega) (by omega)) dL_law_752 ?_
  refine c_goi hS hFy (va_runV (As := [.int (xs (nI (i + 1)).toNatClampNeg), .int (xs (nI (i + 2)).toNatClampNeg), .int (xs (nI (i + 3)).toNatClampNeg)]) (rest := []) ⟨hx, hb, hml, hown, hts⟩ (h_will_X9 l D g σy (zE ev σy) zE_ok My Ny Ry y gy ((xs (nI (i + 1)).toNatClampNeg)) ((xs (nI (i + 2)).toNatClampNeg)) ((xs (nI (i + 3)).toNatClampNeg)) kv cw hv) (cwV 3 hts gL_law_X9_will rfl rfl rfl (by decide +kernel) ⟨Nat.le_of_ble_eq_true rfl, Nat.le_of_ble_eq_true rfl⟩) (c_preV hK hE hS hFy wy1 ty gy (by decide) rfl) rfl rfl hl.1 rfl (lv_room (Nat.le_of_ble_eq_true rfl)) dL_law_753 ⟨Nat.le_of_ble_eq_true rfl, Nat.le_of_ble_eq_true rfl⟩) (fun r2 My2 Ny2 Ry2 H locs q2 z2 w2 t2 hk2 hS => ?_)
  obtain ⟨eN2, eR2, -, f2_KV⟩ := q2
  subst eN2
  subst eR2
  have wx2 := HW.x w1 hd hk2
  have g2_HV : HV My2 Ry y := HV_ag t2 gy hv (hAd.ag z2 (by decide))
  have g2_CW : CW My2 Ry y := CW_ag t2 gy cw (hAd.ag z2 (by decide))
  have g2_WV : WV My2 Ry y := WV_ag t2 gy wv (hAd.ag z2 (by decide))
  have g2_BV : BV My2 Ry y := BV_ag t2 gy bv (hAd.ag z2 (by decide))
  have tm2 : My2 y 64 = My y 64 := z2 y 9 64 gy rfl
  refine lv_pop hx hb dL_law_756 rfl ?_
  refine lv_goto (tgt := 1513) hx hb dL_law_757 (by decide) ?_
  exact kk _ _ _ ⟨σx, Mx1, Nx, Rx, σy, My2, Ny, Ry, wx2, t1, gx, hd, w2, t2, gy, hFy, f2_KV, g2_HV, g2_CW, g2_WV, g2_BV, ((tm1.trans tm).trans tm2.symm), hS⟩ hl
set_option maxHeartbeats 4000000 in
set_option maxRecDepth 100000 in
theorem law_case_18 {p : Program} {l : Launch} {e : Env} {s : State} {m : MethodId} {below : List Frame} {meth : Method} {c : Code} {D : va_G} {g : Nat → ClassId} {ev : Nat → Nat} {b L i : Nat} {xs : Nat → Int32} {A : Nat → Prop} {x y : Nat} {H : Heap} {locs : List Loc} {ls : Array Slot} (C0 : lwC p s m meth c b L xs A D g ev) (hi : i + 6 ≤ L) (hR : lR D g A s H locs x y) (hl : lv_has ls 4 [(3, .int (nI i)), (2, .ref y), (1, .ref x), (0, .ref b)]) (kk : ∀ (H : Heap) (locs : List Loc) (ls : Array Slot), lR D g A s H locs x y → lv_has ls 4 [(3, .int (nI i)), (2, .ref y), (1, .ref x), (0, .ref b)] → W p l e room_1 s m #[Value.ref b] below meth c H locs 364 18454 (lw_Z below #[Value.ref b] s) (F0 m 1513 ls [])) : W p l e room_1 s m #[Value.ref b] below meth c H locs 364 18454 (lw_Z below #[Value.ref b] s) (F0 m 760 ls []) := by
  obtain ⟨hx, hb, hr, hml, hown, hts, hX, hbl, hlocks, hA, hAe, hbA, hK, hE, hL⟩ := C0
  have hown : s.vm.findClass RL = some m.cls := hown
  obtain ⟨σx, Mx, Nx, Rx, σy, My, Ny, Ry, wx, tx, gx, hd, wy, ty, gy, hFy, kv, hv, cw, wv, bv, tm, hS⟩ := hR
  have hFx : ∀ q, σx q ≠ none → A q := fun q h => (hd q h).1
  refine lv_aload_n hx hb dL_law_760 rfl (lv_at hl 2 rfl) ?_
  refine lv_aload_n hx hb dL_law_761 rfl (lv_at hl 3 rfl) ?_
  refine lv_iload_n hx hb dL_law_762 rfl (lv_at hl 0 rfl) ?_
  refine lv_iconst (v := 1) hx hb dL_law_763 (by decide) ?_
  refine lv_iadd hx hb dL_law_764 ?_
  refine k_top (v := nI (i + 1)) (nI_add i 1) ?_
  refine va_sld hx hb hX hbl hbA hS (vp_in_nI (n := i + 1) (N := L) (by omega) (by omega)) dL_law_765 ?_
  refine c_goi hS hFx (va_runV (As := [.int (xs (nI (i + 1)).toNatClampNeg)]) (rest := []) ⟨hx, hb, hml, hown, hts⟩ (h_lasts_X8 l D g σx (zE ev σx) zE_ok Mx Nx Rx x gx ((xs (nI (i + 1)).toNatClampNeg))) (cwV 1 hts gL_law_X8_lasts rfl rfl rfl (by decide +kernel) ⟨Nat.le_of_ble_eq_true rfl, Nat.le_of_ble_eq_true rfl⟩) (c_preV hK hE hS hFx wx tx gx (by decide) rfl) rfl rfl hl.1 rfl (lv_room (Nat.le_of_ble_eq_true rfl)) dL_law_766 ⟨Nat.le_of_ble_eq_true rfl, Nat.le_of_ble_eq_true rfl⟩) (fun r1 Mx1 Nx1 Rx1 H locs q1 z1 w1 t1 hk1 hS => ?_)
  obtain ⟨eN1, eR1, -⟩ := q1
  subst eN1
  subst eR1
  have wy1 := HW.y wy hd hk1
  have tm1 : Mx1 x 13 = Mx x 13 := z1 x 8 13 gx rfl
  refine lv_pop hx hb dL_law_769 rfl ?_
  refine lv_aload_n hx hb dL_law_770 rfl (lv_at hl 1 rfl) ?_
  refine lv_aload_n hx hb dL_law_771 rfl (lv_at hl 3 rfl) ?_
  refine lv_iload_n hx hb dL_law_772 rfl (lv_at hl 0 rfl) ?_
  refine lv_iconst (v := 1) hx hb dL_law_773 (by decide) ?_
  refine lv_iadd hx hb dL_law_774 ?_
  refine k_top (v := nI (i + 1)) (nI_add i 1) ?_
  refine va_sld hx hb hX hbl hbA hS (vp_in_nI (n := i + 1) (N := L) (by omega) (by omega)) dL_law_775 ?_
  refine c_goi hS hFy (va_runV (As := [.int (xs (nI (i + 1)).toNatClampNeg)]) (rest := []) ⟨hx, hb, hml, hown, hts⟩ (h_lasts_X9 l D g σy (zE ev σy) zE_ok My Ny Ry y gy ((xs (nI (i + 1)).toNatClampNeg)) kv cw) (cwV 1 hts gL_law_X9_lasts rfl rfl rfl (by decide +kernel) ⟨Nat.le_of_ble_eq_true rfl, Nat.le_of_ble_eq_true rfl⟩) (c_preV hK hE hS hFy wy1 ty gy (by decide) rfl) rfl rfl hl.1 rfl (lv_room (Nat.le_of_ble_eq_true rfl)) dL_law_776 ⟨Nat.le_of_ble_eq_true rfl, Nat.le_of_ble_eq_true rfl⟩) (fun r2 My2 Ny2 Ry2 H locs q2 z2 w2 t2 hk2 hS => ?_)
  obtain ⟨eN2, eR2, -, f2_KV⟩ := q2
  subst eN2
  subst eR2
  have wx2 := HW.x w1 hd hk2
  have g2_HV : HV My2 Ry y := HV_ag t2 gy hv (hAd.ag z2 (by decide))
  have g2_CW : CW My2 Ry y := CW_ag t2 gy cw (hAd.ag z2 (by decide))
  have g2_WV : WV My2 Ry y := WV_ag t2 gy wv (hAd.ag z2 (by decide))
  have g2_BV : BV My2 Ry y := BV_ag t2 gy bv (hAd.ag z2 (by decide))
  have tm2 : My2 y 64 = My y 64 := z2 y 9 64 gy rfl
  refine lv_pop hx hb dL_law_779 rfl ?_
  refine lv_goto (tgt := 1513) hx hb dL_law_780 (by decide) ?_
  exact kk _ _ _ ⟨σx, Mx1, Nx, Rx, σy, My2, Ny, Ry, wx2, t1, gx, hd, w2, t2, gy, hFy, f2_KV, g2_HV, g2_CW, g2_WV, g2_BV, ((tm1.trans tm).trans tm2.symm), hS⟩ hl
set_option maxHeartbeats 4000000 in
set_option maxRecDepth 100000 in
theorem law_case_19 {p : Program} {l : Launch} {e : Env} {s : State} {m : MethodId} {below : List Frame} {meth : Method} {c : Code} {D : va_G} {g : Nat → ClassId} {ev : Nat → Nat} {b L i : Nat} {xs : Nat → Int32} {A : Nat → Prop} {x y : Nat} {H : Heap} {locs : List Loc} {ls : Array Slot} (C0 : lwC p s m meth c b L xs A D g ev) (hi : i + 6 ≤ L) (hR : lR D g A s H locs x y) (hl : lv_has ls 4 [(3, .int (nI i)), (2, .ref y), (1, .ref x), (0, .ref b)]) (kk : ∀ (H : Heap) (locs : List Loc) (ls : Array Slot), lR D g A s H locs x y → lv_has ls 4 [(3, .int (nI i)), (2, .ref y), (1, .ref x), (0, .ref b)] → W p l e room_1 s m #[Value.ref b] below meth c H locs 364 18454 (lw_Z below #[Value.ref b] s) (F0 m 1513 ls [])) : W p l e room_1 s m #[Value.ref b] below meth c H locs 364 18454 (lw_Z below #[Value.ref b] s) (F0 m 783 ls []) := by
  obtain ⟨hx, hb, hr, hml, hown, hts, hX, hbl, hlocks, hA, hAe, hbA, hK, hE, hL⟩ := C0
  have hown : s.vm.findClass RL = some m.cls := hown
  obtain ⟨σx, Mx, Nx, Rx, σy, My, Ny, Ry, wx, tx, gx, hd, wy, ty, gy, hFy, kv, hv, cw, wv, bv, tm, hS⟩ := hR
  have hFx : ∀ q, σx q ≠ none → A q := fun q h => (hd q h).1
  refine lv_aload_n hx hb dL_law_783 rfl (lv_at hl 2 rfl) ?_
  refine c_goi hS hFx (va_runV (As := []) (rest := []) ⟨hx, hb, hml, hown, hts⟩ (h_shaky_X8 l D g σx (zE ev σx) zE_ok Mx Nx Rx x gx) (cwV 0 hts gL_law_X8_shaky rfl rfl rfl (by decide +kernel) ⟨Nat.le_of_ble_eq_true rfl, Nat.le_of_ble_eq_true rfl⟩) (c_preV hK hE hS hFx wx tx gx (by decide) rfl) rfl rfl hl.1 rfl (lv_room (Nat.le_of_ble_eq_true rfl)) dL_law_784 ⟨Nat.le_of_ble_eq_true rfl, Nat.le_of_ble_eq_true rfl⟩) (fun r1 Mx1 Nx1 Rx1 H locs q1 z1 w1 t1 hk1 hS => ?_)
  obtain ⟨eN1, eR1, -⟩ := q1
  subst eN1
  subst eR1
  have wy1 := HW.y wy hd hk1
  have tm1 : Mx1 x 13 = Mx x 13 := z1 x 8 13 gx rfl
  refine lv_pop hx hb dL_law_787 rfl ?_
  refine lv_aload_n hx hb dL_law_788 rfl (lv_at hl 1 rfl) ?_
  refine c_goi hS hFy (va_runV (As := []) (rest := []) ⟨hx, hb, hml, hown, hts⟩ (h_shaky_X9 l D g σy (zE ev σy) zE_ok My Ny Ry y gy cw) (cwV 0 hts gL_law_X9_shaky rfl rfl rfl (by decide +kernel) ⟨Nat.le_of_ble_eq_true rfl, Nat.le_of_ble_eq_true rfl⟩) (c_preV hK hE hS hFy wy1 ty gy (by decide) rfl) rfl rfl hl.1 rfl (lv_room (Nat.le_of_ble_eq_true rfl)) dL_law_789 ⟨Nat.le_of_ble_eq_true rfl, Nat.le_of_ble_eq_true rfl⟩) (fun r2 My2 Ny2 Ry2 H locs q2 z2 w2 t2 hk2 hS => ?_)
  obtain ⟨eN2, eR2, -⟩ := q2
  subst eN2
  subst eR2
  have wx2 := HW.x w1 hd hk2
  have g2_KV : KV My2 Ry y := KV_ag t2 gy kv (hAd.ag z2 (by decide))
  have g2_HV : HV My2 Ry y := HV_ag t2 gy hv (hAd.ag z2 (by decide))
  have g2_CW : CW My2 Ry y := CW_ag t2 gy cw (hAd.ag z2 (by decide))
  have g2_WV : WV My2 Ry y := WV_ag t2 gy wv (hAd.ag z2 (by decide))
  have g2_BV : BV My2 Ry y := BV_ag t2 gy bv (hAd.ag z2 (by decide))
  have tm2 : My2 y 64 = My y 64 := z2 y 9 64 gy rfl
  refine lv_pop hx hb dL_law_792 rfl ?_
  refine lv_goto (tgt := 1513) hx hb dL_law_793 (by decide) ?_
  exact kk _ _ _ ⟨σx, Mx1, Nx, Rx, σy, My2, Ny, Ry, wx2, t1, gx, hd, w2, t2, gy, hFy, g2_KV, g2_HV, g2_CW, g2_WV, g2_BV, ((tm1.trans tm).trans tm2.symm), hS⟩ hl
set_option maxHeartbeats 4000000 in
set_option maxRecDepth 100000 in
theorem law_case_20 {p : Program} {l : Launch} {e : Env} {s : State} {m : MethodId} {below : List Frame} {meth : Method} {c : Code} {D : va_G} {g : Nat → ClassId} {ev : Nat → Nat} {b L i : Nat} {xs : Nat → Int32} {A : Nat → Prop} {x y : Nat} {H : Heap} {locs : List Loc} {ls : Array Slot} (C0 : lwC p s m meth c b L xs A D g ev) (hi : i + 6 ≤ L) (hR : lR D g A s H locs x y) (hl : lv_has ls 4 [(3, .int (nI i)), (2, .ref y), (1, .ref x), (0, .ref b)]) (kk : ∀ (H : Heap) (locs : List Loc) (ls : Array Slot), lR D g A s H locs x y → lv_has ls 4 [(3, .int (nI i)), (2, .ref y), (1, .ref x), (0, .ref b)] → W p l e room_1 s m #[Value.ref b] below meth c H locs 364 18454 (lw_Z below #[Value.ref b] s) (F0 m 1513 ls [])) : W p l e room_1 s m #[Value.ref b] below meth c H locs 364 18454 (lw_Z below #[Value.ref b] s) (F0 m 796 ls []) := by
  obtain ⟨hx, hb, hr, hml, hown, hts, hX, hbl, hlocks, hA, hAe, hbA, hK, hE, hL⟩ := C0
  have hown : s.vm.findClass RL = some m.cls := hown
  obtain ⟨σx, Mx, Nx, Rx, σy, My, Ny, Ry, wx, tx, gx, hd, wy, ty, gy, hFy, kv, hv, cw, wv, bv, tm, hS⟩ := hR
  have hFx : ∀ q, σx q ≠ none → A q := fun q h => (hd q h).1
  refine lv_aload_n hx hb dL_law_796 rfl (lv_at hl 2 rfl) ?_
  refine c_goi hS hFx (va_runV (As := []) (rest := []) ⟨hx, hb, hml, hown, hts⟩ (h_letting_X8 l D g σx (zE ev σx) zE_ok Mx Nx Rx x gx) (cwV 0 hts gL_law_X8_letting rfl rfl rfl (by decide +kernel) ⟨Nat.le_of_ble_eq_true rfl, Nat.le_of_ble_eq_true rfl⟩) (c_preV hK hE hS hFx wx tx gx (by decide) rfl) rfl rfl hl.1 rfl (lv_room (Nat.le_of_ble_eq_true rfl)) dL_law_797 ⟨Nat.le_of_ble_eq_true rfl, Nat.le_of_ble_eq_true rfl⟩) (fun r1 Mx1 Nx1 Rx1 H locs q1 z1 w1 t1 hk1 hS => ?_)
  obtain ⟨eN1, eR1⟩ := q1
  subst eN1
  subst eR1
  have wy1 := HW.y wy hd hk1
  have tm1 : Mx1 x 13 = Mx x 13 := z1 x 8 13 gx rfl
  refine lv_pop hx hb dL_law_800 rfl ?_
  refine lv_aload_n hx hb dL_law_801 rfl (lv_at hl 1 rfl) ?_
  refine c_goi hS hFy (va_runV (As := []) (rest := []) ⟨hx, hb, hml, hown, hts⟩ (h_letting_X9 l D g σy (zE ev σy) zE_ok My Ny Ry y gy cw) (cwV 0 hts gL_law_X9_letting rfl rfl rfl (by decide +kernel) ⟨Nat.le_of_ble_eq_true rfl, Nat.le_of_ble_eq_true rfl⟩) (c_preV hK hE hS hFy wy1 ty gy (by decide) rfl) rfl rfl hl.1 rfl (lv_room (Nat.le_of_ble_eq_true rfl)) dL_law_802 ⟨Nat.le_of_ble_eq_true rfl, Nat.le_of_ble_eq_true rfl⟩) (fun r2 My2 Ny2 Ry2 H locs q2 z2 w2 t2 hk2 hS => ?_)
  obtain ⟨eN2, eR2⟩ := q2
  subst eN2
  subst eR2
  have wx2 := HW.x w1 hd hk2
  have g2_KV : KV My2 Ry y := KV_ag t2 gy kv (hAd.ag z2 (by decide))
  have g2_HV : HV My2 Ry y := HV_ag t2 gy hv (hAd.ag z2 (by decide))
  have g2_CW : CW My2 Ry y := CW_ag t2 gy cw (hAd.ag z2 (by decide))
  have g2_WV : WV My2 Ry y := WV_ag t2 gy wv (hAd.ag z2 (by decide))
  have g2_BV : BV My2 Ry y := BV_ag t2 gy bv (hAd.ag z2 (by decide))
  have tm2 : My2 y 64 = My y 64 := z2 y 9 64 gy rfl
  refine lv_pop hx hb dL_law_805 rfl ?_
  refine lv_goto (tgt := 1513) hx hb dL_law_806 (by decide) ?_
  exact kk _ _ _ ⟨σx, Mx1, Nx, Rx, σy, My2, Ny, Ry, wx2, t1, gx, hd, w2, t2, gy, hFy, g2_KV, g2_HV, g2_CW, g2_WV, g2_BV, ((tm1.trans tm).trans tm2.symm), hS⟩ hl
set_option maxHeartbeats 4000000 in
set_option maxRecDepth 100000 in
theorem law_case_21 {p : Program} {l : Launch} {e : Env} {s : State} {m : MethodId} {below : List Frame} {meth : Method} {c : Code} {D : va_G} {g : Nat → ClassId} {ev : Nat → Nat} {b L i : Nat} {xs : Nat → Int32} {A : Nat → Prop} {x y : Nat} {H : Heap} {locs : List Loc} {ls : Array Slot} (C0 : lwC p s m meth c b L xs A D g ev) (hi : i + 6 ≤ L) (hR : lR D g A s H locs x y) (hl : lv_has ls 4 [(3, .int (nI i)), (2, .ref y), (1, .ref x), (0, .ref b)]) (kk : ∀ (H : Heap) (locs : List Loc) (ls : Array Slot), lR D g A s H locs x y → lv_has ls 4 [(3, .int (nI i)), (2, .ref y), (1, .ref x), (0, .ref b)] → W p l e room_1 s m #[Value.ref b] below meth c H locs 364 18454 (lw_Z below #[Value.ref b] s) (F0 m 1513 ls [])) : W p l e room_1 s m #[Value.ref b] below meth c H locs 364 18454 (lw_Z below #[Value.ref b] s) (F0 m 809 ls []) := by
  obtain ⟨hx, hb, hr, hml, hown, hts, hX, hbl, hlocks, hA, hAe, hbA, hK, hE, hL⟩ := C0
  have hown : s.vm.findClass RL = some m.cls := hown
  obtain ⟨σx, Mx, Nx, Rx, σy, My, Ny, Ry, wx, tx, gx, hd, wy, ty, gy, hFy, kv, hv, cw, wv, bv, tm, hS⟩ := hR
  have hFx : ∀ q, σx q ≠ none → A q := fun q h => (hd q h).1
  refine lv_aload_n hx hb dL_law_809 rfl (lv_at hl 2 rfl) ?_
  refine c_goi hS hFx (va_runV (As := []) (rest := []) ⟨hx, hb, hml, hown, hts⟩ (h_pleasure_X8 l D g σx (zE ev σx) zE_ok Mx Nx Rx x gx) (cwV 0 hts gL_law_X8_pleasure rfl rfl rfl (by decide +kernel) ⟨Nat.le_of_ble_eq_true rfl, Nat.le_of_ble_eq_true rfl⟩) (c_preV hK hE hS hFx wx tx gx (by decide) rfl) rfl rfl hl.1 rfl (lv_room (Nat.le_of_ble_eq_true rfl)) dL_law_810 ⟨Nat.le_of_ble_eq_true rfl, Nat.le_of_ble_eq_true rfl⟩) (fun r1 Mx1 Nx1 Rx1 H locs q1 z1 w1 t1 hk1 hS => ?_)
  obtain ⟨eN1, eR1⟩ := q1
  subst eN1
  subst eR1
  have wy1 := HW.y wy hd hk1
  have tm1 : Mx1 x 13 = Mx x 13 := z1 x 8 13 gx rfl
  refine lv_pop hx hb dL_law_813 rfl ?_
  refine lv_aload_n hx hb dL_law_814 rfl (lv_at hl 1 rfl) ?_
  refine c_goi hS hFy (va_runV (As := []) (rest := []) ⟨hx, hb, hml, hown, hts⟩ (h_pleasure_X9 l D g σy (zE ev σy) zE_ok My Ny Ry y gy cw) (cwV 0 hts gL_law_X9_pleasure rfl rfl rfl (by decide +kernel) ⟨Nat.le_of_ble_eq_true rfl, Nat.le_of_ble_eq_true rfl⟩) (c_preV hK hE hS hFy wy1 ty gy (by decide) rfl) rfl rfl hl.1 rfl (lv_room (Nat.le_of_ble_eq_true rfl)) dL_law_815 ⟨Nat.le_of_ble_eq_true rfl, Nat.le_of_ble_eq_true rfl⟩) (fun r2 My2 Ny2 Ry2 H locs q2 z2 w2 t2 hk2 hS => ?_)
  obtain ⟨eN2, eR2⟩ := q2
  subst eN2
  subst eR2
  have wx2 := HW.x w1 hd hk2
  have g2_KV : KV My2 Ry y := KV_ag t2 gy kv (hAd.ag z2 (by decide))
  have g2_HV : HV My2 Ry y := HV_ag t2 gy hv (hAd.ag z2 (by decide))
  have g2_CW : CW My2 Ry y := CW_ag t2 gy cw (hAd.ag z2 (by decide))
  have g2_WV : WV My2 Ry y := WV_ag t2 gy wv (hAd.ag z2 (by decide))
  have g2_BV : BV My2 Ry y := BV_ag t2 gy bv (hAd.ag z2 (by decide))
  have tm2 : My2 y 64 = My y 64 := z2 y 9 64 gy rfl
  refine lv_pop hx hb dL_law_818 rfl ?_
  refine lv_goto (tgt := 1513) hx hb dL_law_819 (by decide) ?_
  exact kk _ _ _ ⟨σx, Mx1, Nx, Rx, σy, My2, Ny, Ry, wx2, t1, gx, hd, w2, t2, gy, hFy, g2_KV, g2_HV, g2_CW, g2_WV, g2_BV, ((tm1.trans tm).trans tm2.symm), hS⟩ hl
set_option maxHeartbeats 4000000 in
set_option maxRecDepth 100000 in
theorem law_case_22 {p : Program} {l : Launch} {e : Env} {s : State} {m : MethodId} {below : List Frame} {meth : Method} {c : Code} {D : va_G} {g : Nat → ClassId} {ev : Nat → Nat} {b L i : Nat} {xs : Nat → Int32} {A : Nat → Prop} {x y : Nat} {H : Heap} {locs : List Loc} {ls : Array Slot} (C0 : lwC p s m meth c b L xs A D g ev) (hi : i + 6 ≤ L) (hR : lR D g A s H locs x y) (hl : lv_has ls 4 [(3, .int (nI i)), (2, .ref y), (1, .ref x), (0, .ref b)]) (kk : ∀ (H : Heap) (locs : List Loc) (ls : Array Slot), lR D g A s H locs x y → lv_has ls 4 [(3, .int (nI i)), (2, .ref y), (1, .ref x), (0, .ref b)] → W p l e room_1 s m #[Value.ref b] below meth c H locs 364 18454 (lw_Z below #[Value.ref b] s) (F0 m 1513 ls [])) : W p l e room_1 s m #[Value.ref b] below meth c H locs 364 18454 (lw_Z below #[Value.ref b] s) (F0 m 822 ls []) := by
  obtain ⟨hx, hb, hr, hml, hown, hts, hX, hbl, hlocks, hA, hAe, hbA, hK, hE, hL⟩ := C0
  have hown : s.vm.findClass RL = some m.cls := hown
  obtain ⟨σx, Mx, Nx, Rx, σy, My, Ny, Ry, wx, tx, gx, hd, wy, ty, gy, hFy, kv, hv, cw, wv, bv, tm, hS⟩ := hR
  have hFx : ∀ q, σx q ≠ none → A q := fun q h => (hd q h).1
  refine lv_aload_n hx hb dL_law_822 rfl (lv_at hl 2 rfl) ?_
  refine lv_aload_n hx hb dL_law_823 rfl (lv_at hl 3 rfl) ?_
  refine lv_iload_n hx hb dL_law_824 rfl (lv_at hl 0 rfl) ?_
  refine lv_iconst (v := 1) hx hb dL_law_825 (by decide) ?_
  refine lv_iadd hx hb dL_law_826 ?_
  refine k_top (v := nI (i + 1)) (nI_add i 1) ?_
  refine va_sld hx hb hX hbl hbA hS (vp_in_nI (n := i + 1) (N := L) (by omega) (by omega)) dL_law_827 ?_
  refine c_goi hS hFx (va_runV (As := [.int (xs (nI (i + 1)).toNatClampNeg)]) (rest := []) ⟨hx, hb, hml, hown, hts⟩ (h_swaps_X8 l D g σx (zE ev σx) zE_ok Mx Nx Rx x gx ((xs (nI (i + 1)).toNatClampNeg))) (cwV 1 hts gL_law_X8_swaps rfl rfl rfl (by decide +kernel) ⟨Nat.le_of_ble_eq_true rfl, Nat.le_of_ble_eq_true rfl⟩) (c_preV hK hE hS hFx wx tx gx (by decide) rfl) rfl rfl hl.1 rfl (lv_room (Nat.le_of_ble_eq_true rfl)) dL_law_828 ⟨Nat.le_of_ble_eq_true rfl, Nat.le_of_ble_eq_true rfl⟩) (fun r1 Mx1 Nx1 Rx1 H locs q1 z1 w1 t1 hk1 hS => ?_)
  obtain ⟨eN1, eR1⟩ := q1
  subst eN1
  subst eR1
  have wy1 := HW.y wy hd hk1
  have tm1 : Mx1 x 13 = Mx x 13 := z1 x 8 13 gx rfl
  refine lv_pop hx hb dL_law_831 rfl ?_
  refine lv_aload_n hx hb dL_law_832 rfl (lv_at hl 1 rfl) ?_
  refine lv_aload_n hx hb dL_law_833 rfl (lv_at hl 3 rfl) ?_
  refine lv_iload_n hx hb dL_law_834 rfl (lv_at hl 0 rfl) ?_
  refine lv_iconst (v := 1) hx hb dL_law_835 (by decide) ?_
  refine lv_iadd hx hb dL_law_836 ?_
  refine k_top (v := nI (i + 1)) (nI_add i 1) ?_
  refine va_sld hx hb hX hbl hbA hS (vp_in_nI (n := i + 1) (N := L) (by omega) (by omega)) dL_law_837 ?_
  refine c_goi hS hFy (va_runV (As := [.int (xs (nI (i + 1)).toNatClampNeg)]) (rest := []) ⟨hx, hb, hml, hown, hts⟩ (h_swaps_X9 l D g σy (zE ev σy) zE_ok My Ny Ry y gy ((xs (nI (i + 1)).toNatClampNeg)) cw) (cwV 1 hts gL_law_X9_swaps rfl rfl rfl (by decide +kernel) ⟨Nat.le_of_ble_eq_true rfl, Nat.le_of_ble_eq_true rfl⟩) (c_preV hK hE hS hFy wy1 ty gy (by decide) rfl) rfl rfl hl.1 rfl (lv_room (Nat.le_of_ble_eq_true rfl)) dL_law_838 ⟨Nat.le_of_ble_eq_true rfl, Nat.le_of_ble_eq_true rfl⟩) (fun r2 My2 Ny2 Ry2 H locs q2 z2 w2 t2 hk2 hS => ?_)
  obtain ⟨eN2, eR2⟩ := q2
  subst eN2
  subst eR2
  have wx2 := HW.x w1 hd hk2
  have g2_KV : KV My2 Ry y := KV_ag t2 gy kv (hAd.ag z2 (by decide))
  have g2_HV : HV My2 Ry y := HV_ag t2 gy hv (hAd.ag z2 (by decide))
  have g2_CW : CW My2 Ry y := CW_ag t2 gy cw (hAd.ag z2 (by decide))
  have g2_WV : WV My2 Ry y := WV_ag t2 gy wv (hAd.ag z2 (by decide))
  have g2_BV : BV My2 Ry y := BV_ag t2 gy bv (hAd.ag z2 (by decide))
  have tm2 : My2 y 64 = My y 64 := z2 y 9 64 gy rfl
  refine lv_pop hx hb dL_law_841 rfl ?_
  refine lv_goto (tgt := 1513) hx hb dL_law_842 (by decide) ?_
  exact kk _ _ _ ⟨σx, Mx1, Nx, Rx, σy, My2, Ny, Ry, wx2, t1, gx, hd, w2, t2, gy, hFy, g2_KV, g2_HV, g2_CW, g2_WV, g2_BV, ((tm1.trans tm).trans tm2.symm), hS⟩ hl
set_option maxHeartbeats 4000000 in
set_option maxRecDepth 100000 in
theorem law_case_23 {p : Program} {l : Launch} {e : Env} {s : State} {m : MethodId} {below : List Frame} {meth : Method} {c : Code} {D : va_G} {g : Nat → ClassId} {ev : Nat → Nat} {b L i : Nat} {xs : Nat → Int32} {A : Nat → Prop} {x y : Nat} {H : Heap} {locs : List Loc} {ls : Array Slot} (C0 : lwC p s m meth c b L xs A D g ev) (hi : i + 6 ≤ L) (hR : lR D g A s H locs x y) (hl : lv_has ls 4 [(3, .int (nI i)), (2, .ref y), (1, .ref x), (0, .ref b)]) (kk : ∀ (H : Heap) (locs : List Loc) (ls : Array Slot), lR D g A s H locs x y → lv_has ls 4 [(3, .int (nI i)), (2, .ref y), (1, .ref x), (0, .ref b)] → W p l e room_1 s m #[Value.ref b] below meth c H locs 364 18454 (lw_Z below #[Value.ref b] s) (F0 m 1513 ls [])) : W p l e room_1 s m #[Value.ref b] below meth c H locs 364 18454 (lw_Z below #[Value.ref b] s) (F0 m 845 ls []) := by
  obtain ⟨hx, hb, hr, hml, hown, hts, hX, hbl, hlocks, hA, hAe, hbA, hK, hE, hL⟩ := C0
  have hown : s.vm.findClass RL = some m.cls := hown
  obtain ⟨σx, Mx, Nx, Rx, σy, My, Ny, Ry, wx, tx, gx, hd, wy, ty, gy, hFy, kv, hv, cw, wv, bv, tm, hS⟩ := hR
  have hFx : ∀ q, σx q ≠ none → A q := fun q h => (hd q h).1
  refine lv_aload_n hx hb dL_law_845 rfl (lv_at hl 2 rfl) ?_
  refine lv_aload_n hx hb dL_law_846 rfl (lv_at hl 3 rfl) ?_
  refine lv_iload_n hx hb dL_law_847 rfl (lv_at hl 0 rfl) ?_
  refine lv_iconst (v := 1) hx hb dL_law_848 (by decide) ?_
  refine lv_iadd hx hb dL_law_849 ?_
  refine k_top (v := nI (i + 1)) (nI_add i 1) ?_
  refine va_sld hx hb hX hbl hbA hS (vp_in_nI (n := i + 1) (N := L) (by omega) (by omega)) dL_law_850 ?_
  refine c_goi hS hFx (va_runV (As := [.int (xs (nI (i + 1)).toNatClampNeg)]) (rest := []) ⟨hx, hb, hml, hown, hts⟩ (h_pay_X8 l D g σx (zE ev σx) zE_ok Mx Nx Rx x gx ((xs (nI (i + 1)).toNatClampNeg))) (cwV 1 hts gL_law_X8_pay rfl rfl rfl (by decide +kernel) ⟨Nat.le_of_ble_eq_true rfl, Nat.le_of_ble_eq_true rfl⟩) (c_preV hK hE hS hFx wx tx gx (by decide) rfl) rfl rfl hl.1 rfl (lv_room (Nat.le_of_ble_eq_true rfl)) dL_law_851 ⟨Nat.le_of_ble_eq_true rfl, Nat.le_of_ble_eq_true rfl⟩) (fun r1 Mx1 Nx1 Rx1 H locs q1 z1 w1 t1 hk1 hS => ?_)
  obtain ⟨eN1, eR1, -⟩ := q1
  subst eN1
  subst eR1
  have wy1 := HW.y wy hd hk1
  have tm1 : Mx1 x 13 = Mx x 13 := z1 x 8 13 gx rfl
  refine lv_pop hx hb dL_law_854 rfl ?_
  refine lv_aload_n hx hb dL_law_855 rfl (lv_at hl 1 rfl) ?_
  refine lv_aload_n hx hb dL_law_856 rfl (lv_at hl 3 rfl) ?_
  refine lv_iload_n hx hb dL_law_857 rfl (lv_at hl 0 rfl) ?_
  refine lv_iconst (v := 1) hx hb dL_law_858 (by decide) ?_
  refine lv_iadd hx hb dL_law_859 ?_
  refine k_top (v := nI (i + 1)) (nI_add i 1) ?_
  refine va_sld hx hb hX hbl hbA hS (vp_in_nI (n := i + 1) (N := L) (by omega) (by omega)) dL_law_860 ?_
  refine c_goi hS hFy (va_runV (As := [.int (xs (nI (i + 1)).toNatClampNeg)]) (rest := []) ⟨hx, hb, hml, hown, hts⟩ (h_pay_X9 l D g σy (zE ev σy) zE_ok My Ny Ry y gy ((xs (nI (i + 1)).toNatClampNeg)) cw) (cwV 1 hts gL_law_X9_pay rfl rfl rfl (by decide +kernel) ⟨Nat.le_of_ble_eq_true rfl, Nat.le_of_ble_eq_true rfl⟩) (c_preV hK hE hS hFy wy1 ty gy (by decide) rfl) rfl rfl hl.1 rfl (lv_room (Nat.le_of_ble_eq_true rfl)) dL_law_861 ⟨Nat.le_of_ble_eq_true rfl, Nat.le_of_ble_eq_true rfl⟩) (fun r2 My2 Ny2 Ry2 H locs q2 z2 w2 t2 hk2 hS => ?_)
  obtain ⟨eN2, eR2, -, f2_KVI⟩ := q2
  subst eN2
  subst eR2
  have wx2 := HW.x w1 hd hk2
  have g2_HV : HV My2 Ry y := HV_ag t2 gy hv (hAd.ag z2 (by decide))
  have g2_CW : CW My2 Ry y := CW_ag t2 gy cw (hAd.ag z2 (by decide))
  have g2_WV : WV My2 Ry y := WV_ag t2 gy wv (hAd.ag z2 (by decide))
  have g2_BV : BV My2 Ry y := BV_ag t2 gy bv (hAd.ag z2 (by decide))
  have tm2 : My2 y 64 = My y 64 := z2 y 9 64 gy rfl
  refine lv_pop hx hb dL_law_864 rfl ?_
  refine lv_goto (tgt := 1513) hx hb dL_law_865 (by decide) ?_
  exact kk _ _ _ ⟨σx, Mx1, Nx, Rx, σy, My2, Ny, Ry, wx2, t1, gx, hd, w2, t2, gy, hFy, (f2_KVI kv), g2_HV, g2_CW, g2_WV, g2_BV, ((tm1.trans tm).trans tm2.symm), hS⟩ hl
set_option maxHeartbeats 4000000 in
set_option maxRecDepth 100000 in
theorem law_case_24 {p : Program} {l : Launch} {e : Env} {s : State} {m : MethodId} {below : List Frame} {meth : Method} {c : Code} {D : va_G} {g : Nat → ClassId} {ev : Nat → Nat} {b L i : Nat} {xs : Nat → Int32} {A : Nat → Prop} {x y : Nat} {H : Heap} {locs : List Loc} {ls : Array Slot} (C0 : lwC p s m meth c b L xs A D g ev) (hi : i + 6 ≤ L) (hR : lR D g A s H locs x y) (hl : lv_has ls 4 [(3, .int (nI i)), (2, .ref y), (1, .ref x), (0, .ref b)]) (kk : ∀ (H : Heap) (locs : List Loc) (ls : Array Slot), lR D g A s H locs x y → lv_has ls 4 [(3, .int (nI i)), (2, .ref y), (1, .ref x), (0, .ref b)] → W p l e room_1 s m #[Value.ref b] below meth c H locs 364 18454 (lw_Z below #[Value.ref b] s) (F0 m 1513 ls [])) : W p l e room_1 s m #[Value.ref b] below meth c H locs 364 18454 (lw_Z below #[Value.ref b] s) (F0 m 868 ls []) := by
  obtain ⟨hx, hb, hr, hml, hown, hts, hX, hbl, hlocks, hA, hAe, hbA, hK, hE, hL⟩ := C0
  have hown : s.vm.findClass RL = some m.cls := hown
  obtain ⟨σx, Mx, Nx, Rx, σy, My, Ny, Ry, wx, tx, gx, hd, wy, ty, gy, hFy, kv, hv, cw, wv, bv, tm, hS⟩ := hR
  have hFx : ∀ q, σx q ≠ none → A q := fun q h => (hd q h).1
  refine lv_aload_n hx hb dL_law_868 rfl (lv_at hl 2 rfl) ?_
  refine lv_aload_n hx hb dL_law_869 rfl (lv_at hl 3 rfl) ?_
  refine lv_iload_n hx hb dL_law_870 rfl (lv_at hl 0 rfl) ?_
  refine lv_iconst (v := 1) hx hb dL_law_871 (by decide) ?_
  refine lv_iadd hx hb dL_law_872 ?_
  refine k_top (v := nI (i + 1)) (nI_add i 1) ?_
  refine va_sld hx hb hX hbl hbA hS (vp_in_nI (n := i + 1) (N := L) (by omega) (by omega)) dL_law_873 ?_
  refine c_goi hS hFx (va_runV (As := [.int (xs (nI (i + 1)).toNatClampNeg)]) (rest := []) ⟨hx, hb, hml, hown, hts⟩ (h_borne_X8 l D g σx (zE ev σx) zE_ok Mx Nx Rx x gx ((xs (nI (i + 1)).toNatClampNeg))) (cwV 1 hts gL_law_X8_borne rfl rfl rfl (by decide +kernel) ⟨Nat.le_of_ble_eq_true rfl, Nat.le_of_ble_eq_true rfl⟩) (c_preV hK hE hS hFx wx tx gx (by decide) rfl) rfl rfl hl.1 rfl (lv_room (Nat.le_of_ble_eq_true rfl)) dL_law_874 ⟨Nat.le_of_ble_eq_true rfl, Nat.le_of_ble_eq_true rfl⟩) (fun r1 Mx1 Nx1 Rx1 H locs q1 z1 w1 t1 hk1 hS => ?_)
  obtain ⟨eN1, eR1, -⟩ := q1
  subst eN1
  subst eR1
  have wy1 := HW.y wy hd hk1
  have tm1 : Mx1 x 13 = Mx x 13 := z1 x 8 13 gx rfl
  refine lv_pop hx hb dL_law_877 rfl ?_
  refine lv_aload_n hx hb dL_law_878 rfl (lv_at hl 1 rfl) ?_
  refine lv_aload_n hx hb dL_law_879 rfl (lv_at hl 3 rfl) ?_
  refine lv_iload_n hx hb dL_law_880 rfl (lv_at hl 0 rfl) ?_
  refine lv_iconst (v := 1) hx hb dL_law_881 (by decide) ?_
  refine lv_iadd hx hb dL_law_882 ?_
  refine k_top (v := nI (i + 1)) (nI_add i 1) ?_
  refine va_sld hx hb hX hbl hbA hS (vp_in_nI (n := i + 1) (N := L) (by omega) (by omega)) dL_law_883 ?_
  refine c_goi hS hFy (va_runV (As := [.int (xs (nI (i + 1)).toNatClampNeg)]) (rest := []) ⟨hx, hb, hml, hown, hts⟩ (h_borne_X9 l D g σy (zE ev σy) zE_ok My Ny Ry y gy ((xs (nI (i + 1)).toNatClampNeg)) cw) (cwV 1 hts gL_law_X9_borne rfl rfl rfl (by decide +kernel) ⟨Nat.le_of_ble_eq_true rfl, Nat.le_of_ble_eq_true rfl⟩) (c_preV hK hE hS hFy wy1 ty gy (by decide) rfl) rfl rfl hl.1 rfl (lv_room (Nat.le_of_ble_eq_true rfl)) dL_law_884 ⟨Nat.le_of_ble_eq_true rfl, Nat.le_of_ble_eq_true rfl⟩) (fun r2 My2 Ny2 Ry2 H locs q2 z2 w2 t2 hk2 hS => ?_)
  obtain ⟨eN2, eR2, -, f2_KVI⟩ := q2
  subst eN2
  subst eR2
  have wx2 := HW.x w1 hd hk2
  have g2_HV : HV My2 Ry y := HV_ag t2 gy hv (hAd.ag z2 (by decide))
  have g2_CW : CW My2 Ry y := CW_ag t2 gy cw (hAd.ag z2 (by decide))
  have g2_WV : WV My2 Ry y := WV_ag t2 gy wv (hAd.ag z2 (by decide))
  have g2_BV : BV My2 Ry y := BV_ag t2 gy bv (hAd.ag z2 (by decide))
  have tm2 : My2 y 64 = My y 64 := z2 y 9 64 gy rfl
  refine lv_pop hx hb dL_law_887 rfl ?_
  refine lv_goto (tgt := 1513) hx hb dL_law_888 (by decide) ?_
  exact kk _ _ _ ⟨σx, Mx1, Nx, Rx, σy, My2, Ny, Ry, wx2, t1, gx, hd, w2, t2, gy, hFy, (f2_KVI kv), g2_HV, g2_CW, g2_WV, g2_BV, ((tm1.trans tm).trans tm2.symm), hS⟩ hl
set_option maxHeartbeats 4000000 in
set_option maxRecDepth 100000 in
theorem law_case_25 {p : Program} {l : Launch} {e : Env} {s : State} {m : MethodId} {below : List Frame} {meth : Method} {c : Code} {D : va_G} {g : Nat → ClassId} {ev : Nat → Nat} {b L i : Nat} {xs : Nat → Int32} {A : Nat → Prop} {x y : Nat} {H : Heap} {locs : List Loc} {ls : Array Slot} (C0 : lwC p s m meth c b L xs A D g ev) (hi : i + 6 ≤ L) (hR : lR D g A s H locs x y) (hl : lv_has ls 4 [(3, .int (nI i)), (2, .ref y), (1, .ref x), (0, .ref b)]) (kk : ∀ (H : Heap) (locs : List Loc) (ls : Array Slot), lR D g A s H locs x y → lv_has ls 4 [(3, .int (nI i)), (2, .ref y), (1, .ref x), (0, .ref b)] → W p l e room_1 s m #[Value.ref b] below meth c H locs 364 18454 (lw_Z below #[Value.ref b] s) (F0 m 1513 ls [])) : W p l e room_1 s m #[Value.ref b] below meth c H locs 364 18454 (lw_Z below #[Value.ref b] s) (F0 m 891 ls []) := by
  obtain ⟨hx, hb, hr, hml, hown, hts, hX, hbl, hlocks, hA, hAe, hbA, hK, hE, hL⟩ := C0
  have hown : s.vm.findClass RL = some m.cls := hown
  obtain ⟨σx, Mx, Nx, Rx, σy, My, Ny, Ry, wx, tx, gx, hd, wy, ty, gy, hFy, kv, hv, cw, wv, bv, tm, hS⟩ := hR
  have hFx : ∀ q, σx q ≠ none → A q := fun q h => (hd q h).1
  refine lv_aload_n hx hb dL_law_891 rfl (lv_at hl 2 rfl) ?_
  refine lv_aload_n hx hb dL_law_892 rfl (lv_at hl 3 rfl) ?_
  refine lv_iload_n hx hb dL_law_893 rfl (lv_at hl 0 rfl) ?_
  refine lv_iconst (v := 1) hx hb dL_law_894 (by decide) ?_
  refine lv_iadd hx hb dL_law_895 ?_
  refine k_top (v := nI (i + 1)) (nI_add i 1) ?_
  refine va_sld hx hb hX hbl hbA hS (vp_in_nI (n := i + 1) (N := L) (by omega) (by omega)) dL_law_896 ?_
  refine lv_aload_n hx hb dL_law_897 rfl (lv_at hl 3 rfl) ?_
  refine lv_iload_n hx hb dL_law_898 rfl (lv_at hl 0 rfl) ?_
  refine lv_iconst (v := 2) hx hb dL_law_899 (by decide) ?_
  refine lv_iadd hx hb dL_law_900 ?_
  refine k_top (v := nI (i + 2)) (nI_add i 2) ?_
  refine va_sld hx hb hX hbl hbA hS (vp_in_nI (n := i + 2) (N := L) (by omega) (by omega)) dL_law_901 ?_
  refine c_goi hS hFx (va_runV (As := [.int (xs (nI (i + 1)).toNatClampNeg), .int (xs (nI (i + 2)).toNatClampNeg)]) (rest := []) ⟨hx, hb, hml, hown, hts⟩ (h_keeper_X8 l D g σx (zE ev σx) zE_ok Mx Nx Rx x gx ((xs (nI (i + 1)).toNatClampNeg)) ((xs (nI (i + 2)).toNatClampNeg))) (cwV 2 hts gL_law_X8_keeper rfl rfl rfl (by decide +kernel) ⟨Nat.le_of_ble_eq_true rfl, Nat.le_of_ble_eq_true rfl⟩) (c_preV hK hE hS hFx wx tx gx (by decide) rfl) rfl rfl hl.1 rfl (lv_room (Nat.le_of_ble_eq_true rfl)) dL_law_902 ⟨Nat.le_of_ble_eq_true rfl, Nat.le_of_ble_eq_true rfl⟩) (fun r1 Mx1 Nx1 Rx1 H locs q1 z1 w1 t1 hk1 hS => ?_)
  obtain ⟨eM1, eN1, eR1, -⟩ := q1
  subst eM1
  subst eN1
  subst eR1
  have wy1 := HW.y wy hd hk1
  refine lv_pop hx hb dL_law_905 rfl ?_
  refine lv_aload_n hx hb dL_law_906 rfl (lv_at hl 1 rfl) ?_
  refine lv_aload_n hx hb dL_law_907 rfl (lv_at hl 3 rfl) ?_
  refine lv_iload_n hx hb dL_law_908 rfl (lv_at hl 0 rfl) ?_
  refine lv_iconst (v := 1) hx hb dL_law_909 (by decide) ?_
  refine lv_iadd hx hb dL_law_910 ?_
  refine k_top (v := nI (i + 1)) (nI_add i 1) ?_
  refine va_sld hx hb hX hbl hbA hS (vp_in_nI (n := i + 1) (N := L) (by omega) (by omega)) dL_law_911 ?_
  refine lv_aload_n hx hb dL_law_912 rfl (lv_at hl 3 rfl) ?_
  refine lv_iload_n hx hb dL_law_913 rfl (lv_at hl 0 rfl) ?_
  refine lv_iconst (v := 2) hx hb dL_law_914 (by decide) ?_
  refine lv_iadd hx hb dL_law_915 ?_
  refine k_top (v := nI (i + 2)) (nI_add i 2) ?_
  refine va_sld hx hb hX hbl hbA hS (vp_in_nI (n := i + 2) (N := L) (by omega) (by omega)) dL_law_916 ?_
  refine c_goi hS hFy (va_runV (As := [.int (xs (nI (i + 1)).toNatClampNeg), .int (xs (nI (i + 2)).toNatClampNeg)]) (rest := []) ⟨hx, hb, hml, hown, hts⟩ (h_keeper_X9 l D g σy (zE ev σy) zE_ok My Ny Ry y gy ((xs (nI (i + 1)).toNatClampNeg)) ((xs (nI (i + 2)).toNatClampNeg)) kv hv) (cwV 2 hts gL_law_X9_keeper rfl rfl rfl (by decide +kernel) ⟨Nat.le_of_ble_eq_true rfl, Nat.le_of_ble_eq_true rfl⟩) (c_preV hK hE hS hFy wy1 ty gy (by decide) rfl) rfl rfl hl.1 rfl (lv_room (Nat.le_of_ble_eq_true rfl)) dL_law_917 ⟨Nat.le_of_ble_eq_true rfl, Nat.le_of_ble_eq_true rfl⟩) (fun r2 My2 Ny2 Ry2 H locs q2 z2 w2 t2 hk2 hS => ?_)
  obtain ⟨eM2, eN2, eR2, -⟩ := q2
  subst eM2
  subst eN2
  subst eR2
  have wx2 := HW.x w1 hd hk2
  refine lv_pop hx hb dL_law_920 rfl ?_
  refine lv_goto (tgt := 1513) hx hb dL_law_921 (by decide) ?_
  exact kk _ _ _ ⟨σx, Mx, Nx, Rx, σy, My, Ny, Ry, wx2, t1, gx, hd, w2, t2, gy, hFy, kv, hv, cw, wv, bv, tm, hS⟩ hl
set_option maxHeartbeats 4000000 in
set_option maxRecDepth 100000 in
theorem law_case_26 {p : Program} {l : Launch} {e : Env} {s : State} {m : MethodId} {below : List Frame} {meth : Method} {c : Code} {D : va_G} {g : Nat → ClassId} {ev : Nat → Nat} {b L i : Nat} {xs : Nat → Int32} {A : Nat → Prop} {x y : Nat} {H : Heap} {locs : List Loc} {ls : Array Slot} (C0 : lwC p s m meth c b L xs A D g ev) (hi : i + 6 ≤ L) (hR : lR D g A s H locs x y) (hl : lv_has ls 4 [(3, .int (nI i)), (2, .ref y), (1, .ref x), (0, .ref b)]) (kk : ∀ (H : Heap) (locs : List Loc) (ls : Array Slot), lR D g A s H locs x y → lv_has ls 4 [(3, .int (nI i)), (2, .ref y), (1, .ref x), (0, .ref b)] → W p l e room_1 s m #[Value.ref b] below meth c H locs 364 18454 (lw_Z below #[Value.ref b] s) (F0 m 1513 ls [])) : W p l e room_1 s m #[Value.ref b] below meth c H locs 364 18454 (lw_Z below #[Value.ref b] s) (F0 m 924 ls []) := by
  obtain ⟨hx, hb, hr, hml, hown, hts, hX, hbl, hlocks, hA, hAe, hbA, hK, hE, hL⟩ := C0
  have hown : s.vm.findClass RL = some m.cls := hown
  obtain ⟨σx, Mx, Nx, Rx, σy, My, Ny, Ry, wx, tx, gx, hd, wy, ty, gy, hFy, kv, hv, cw, wv, bv, tm, hS⟩ := hR
  have hFx : ∀ q, σx q ≠ none → A q := fun q h => (hd q h).1
  refine lv_aload_n hx hb dL_law_924 rfl (lv_at hl 2 rfl) ?_
  refine lv_aload_n hx hb dL_law_925 rfl (lv_at hl 3 rfl) ?_
  refine lv_iload_n hx hb dL_law_926 rfl (lv_at hl 0 rfl) ?_
  refine lv_iconst (v := 1) hx hb dL_law_927 (by decide) ?_
  refine lv_iadd hx hb dL_law_928 ?_
  refine k_top (v := nI (i + 1)) (nI_add i 1) ?_
  refine va_sld hx hb hX hbl hbA hS (vp_in_nI (n := i + 1) (N := L) (by omega) (by omega)) dL_law_929 ?_
  refine c_goi hS hFx (va_runV (As := [.int (xs (nI (i + 1)).toNatClampNeg)]) (rest := []) ⟨hx, hb, hml, hown, hts⟩ (h_probate_X8 l D g σx (zE ev σx) zE_ok Mx Nx Rx x gx ((xs (nI (i + 1)).toNatClampNeg))) (cwV 1 hts gL_law_X8_probate rfl rfl rfl (by decide +kernel) ⟨Nat.le_of_ble_eq_true rfl, Nat.le_of_ble_eq_true rfl⟩) (c_preV hK hE hS hFx wx tx gx (by decide) rfl) rfl rfl hl.1 rfl (lv_room (Nat.le_of_ble_eq_true rfl)) dL_law_930 ⟨Nat.le_of_ble_eq_true rfl, Nat.le_of_ble_eq_true rfl⟩) (fun r1 Mx1 Nx1 Rx1 H locs q1 z1 w1 t1 hk1 hS => ?_)
  obtain ⟨eM1, eN1, eR1⟩ := q1
  subst eM1
  subst eN1
  subst eR1
  have wy1 := HW.y wy hd hk1
  refine lv_pop hx hb dL_law_933 rfl ?_
  refine lv_aload_n hx hb dL_law_934 rfl (lv_at hl 1 rfl) ?_
  refine lv_aload_n hx hb dL_law_935 rfl (lv_at hl 3 rfl) ?_
  refine lv_iload_n hx hb dL_law_936 rfl (lv_at hl 0 rfl) ?_
  refine lv_iconst (v := 1) hx hb dL_law_937 (by decide) ?_
  refine lv_iadd hx hb dL_law_938 ?_
  refine k_top (v := nI (i + 1)) (nI_add i 1) ?_
  refine va_sld hx hb hX hbl hbA hS (vp_in_nI (n := i + 1) (N := L) (by omega) (by omega)) dL_law_939 ?_
  refine c_goi hS hFy (va_runV (As := [.int (xs (nI (i + 1)).toNatClampNeg)]) (rest := []) ⟨hx, hb, hml, hown, hts⟩ (h_probate_X9 l D g σy (zE ev σy) zE_ok My Ny Ry y gy ((xs (nI (i + 1)).toNatClampNeg)) kv hv) (cwV 1 hts gL_law_X9_probate rfl rfl rfl (by decide +kernel) ⟨Nat.le_of_ble_eq_true rfl, Nat.le_of_ble_eq_true rfl⟩) (c_preV hK hE hS hFy wy1 ty gy (by decide) rfl) rfl rfl hl.1 rfl (lv_room (Nat.le_of_ble_eq_true rfl)) dL_law_940 ⟨Nat.le_of_ble_eq_true rfl, Nat.le_of_ble_eq_true rfl⟩) (fun r2 My2 Ny2 Ry2 H locs q2 z2 w2 t2 hk2 hS => ?_)
  obtain ⟨eM2, eN2, eR2⟩ := q2
  subst eM2
  subst eN2
  subst eR2
  have wx2 := HW.x w1 hd hk2
  refine lv_pop hx hb dL_law_943 rfl ?_
  refine lv_goto (tgt := 1513) hx hb dL_law_944 (by decide) ?_
  exact kk _ _ _ ⟨σx, Mx, Nx, Rx, σy, My, Ny, Ry, wx2, t1, gx, hd, w2, t2, gy, hFy, kv, hv, cw, wv, bv, tm, hS⟩ hl
set_option maxHeartbeats 4000000 in
set_option maxRecDepth 100000 in
theorem law_case_27 {p : Program} {l : Launch} {e : Env} {s : State} {m : MethodId} {below : List Frame} {meth : Method} {c : Code} {D : va_G} {g : Nat → ClassId} {ev : Nat → Nat} {b L i : Nat} {xs : Nat → Int32} {A : Nat → Prop} {x y : Nat} {H : Heap} {locs : List Loc} {ls : Array Slot} (C0 : lwC p s m meth c b L xs A D g ev) (hi : i + 6 ≤ L) (hR : lR D g A s H locs x y) (hl : lv_has ls 4 [(3, .int (nI i)), (2, .ref y), (1, .ref x), (0, .ref b)]) (kk : ∀ (H : Heap) (locs : List Loc) (ls : Array Slot), lR D g A s H locs x y → lv_has ls 4 [(3, .int (nI i)), (2, .ref y), (1, .ref x), (0, .ref b)] → W p l e room_1 s m #[Value.ref b] below meth c H locs 364 18454 (lw_Z below #[Value.ref b] s) (F0 m 1513 ls [])) : W p l e room_1 s m #[Value.ref b] below meth c H locs 364 18454 (lw_Z below #[Value.ref b] s) (F0 m 947 ls []) := by
  obtain ⟨hx, hb, hr, hml, hown, hts, hX, hbl, hlocks, hA, hAe, hbA, hK, hE, hL⟩ := C0
  have hown : s.vm.findClass RL = some m.cls := hown
  obtain ⟨σx, Mx, Nx, Rx, σy, My, Ny, Ry, wx, tx, gx, hd, wy, ty, gy, hFy, kv, hv, cw, wv, bv, tm, hS⟩ := hR
  have hFx : ∀ q, σx q ≠ none → A q := fun q h => (hd q h).1
  refine lv_aload_n hx hb dL_law_947 rfl (lv_at hl 2 rfl) ?_
  refine lv_aload_n hx hb dL_law_948 rfl (lv_at hl 3 rfl) ?_
  refine lv_iload_n hx hb dL_law_949 rfl (lv_at hl 0 rfl) ?_
  refine lv_iconst (v := 1) hx hb dL_law_950 (by decide) ?_
  refine lv_iadd hx hb dL_law_951 ?_
  refine k_top (v := nI (i + 1)) (nI_add i 1) ?_
  refine va_sld hx hb hX hbl hbA hS (vp_in_nI (n := i + 1) (N := L) (by omega) (by omega)) dL_law_952 ?_
  refine lv_aload_n hx hb dL_law_953 rfl (lv_at hl 3 rfl) ?_
  refine lv_iload_n hx hb dL_law_954 rfl (lv_at hl 0 rfl) ?_
  refine lv_iconst (v := 2) hx hb dL_law_955 (by decide) ?_
  refine lv_iadd hx hb dL_law_956 ?_
  refine k_top (v := nI (i + 2)) (nI_add i 2) ?_
  refine va_sld hx hb hX hbl hbA hS (vp_in_nI (n := i + 2) (N := L) (by omega) (by omega)) dL_law_957 ?_
  refine c_goi hS hFx (va_runV (As := [.int (xs (nI (i + 1)).toNatClampNeg), .int (xs (nI (i + 2)).toNatClampNeg)]) (rest := []) ⟨hx, hb, hml, hown, hts⟩ (h_grief_X8 l D g σx (zE ev σx) zE_ok Mx Nx Rx x gx ((xs (nI (i + 1)).toNatClampNeg)) ((xs (nI (i + 2)).toNatClampNeg))) (cwV 2 hts gL_law_X8_grief rfl rfl rfl (by decide +kernel) ⟨Nat.le_of_ble_eq_true rfl, Nat.le_of_ble_eq_true rfl⟩) (c_preV hK hE hS hFx wx tx gx (by decide) rfl) rfl rfl hl.1 rfl (lv_room (Nat.le_of_ble_eq_true rfl)) dL_law_958 ⟨Nat.le_of_ble_eq_true rfl, Nat.le_of_ble_eq_true rfl⟩) (fun r1 Mx1 Nx1 Rx1 H locs q1 z1 w1 t1 hk1 hS => ?_)
  obtain ⟨eN1, eR1⟩ := q1
  subst eN1
  subst eR1
  have wy1 := HW.y wy hd hk1
  have tm1 : Mx1 x 13 = Mx x 13 := z1 x 8 13 gx rfl
  refine lv_pop hx hb dL_law_961 rfl ?_
  refine lv_aload_n hx hb dL_law_962 rfl (lv_at hl 1 rfl) ?_
  refine lv_aload_n hx hb dL_law_963 rfl (lv_at hl 3 rfl) ?_
  refine lv_iload_n hx hb dL_law_964 rfl (lv_at hl 0 rfl) ?_
  refine lv_iconst (v := 1) hx hb dL_law_965 (by decide) ?_
  refine lv_iadd hx hb dL_law_966 ?_
  refine k_top (v := nI (i + 1)) (nI_add i 1) ?_
  refine va_sld hx hb hX hbl hbA hS (vp_in_nI (n := i + 1) (N := L) (by omega) (by omega)) dL_law_967 ?_
  refine lv_aload_n hx hb dL_law_968 rfl (lv_at hl 3 rfl) ?_
  refine lv_iload_n hx hb dL_law_969 rfl (lv_at hl 0 rfl) ?_
  refine lv_iconst (v := 2) hx hb dL_law_970 (by decide) ?_
  refine lv_iadd hx hb dL_law_971 ?_
  refine k_top (v := nI (i + 2)) (nI_add i 2) ?_
  refine va_sld hx hb hX hbl hbA hS (vp_in_nI (n := i + 2) (N := L) (by omega) (by omega)) dL_law_972 ?_
  refine c_goi hS hFy (va_runV (As := [.int (xs (nI (i + 1)).toNatClampNeg), .int (xs (nI (i + 2)).toNatClampNeg)]) (rest := []) ⟨hx, hb, hml, hown, hts⟩ (h_grief_X9 l D g σy (zE ev σy) zE_ok My Ny Ry y gy ((xs (nI (i + 1)).toNatClampNeg)) ((xs (nI (i + 2)).toNatClampNeg)) kv cw hv) (cwV 2 hts gL_law_X9_grief rfl rfl rfl (by decide +kernel) ⟨Nat.le_of_ble_eq_true rfl, Nat.le_of_ble_eq_true rfl⟩) (c_preV hK hE hS hFy wy1 ty gy (by decide) rfl) rfl rfl hl.1 rfl (lv_room (Nat.le_of_ble_eq_true rfl)) dL_law_973 ⟨Nat.le_of_ble_eq_true rfl, Nat.le_of_ble_eq_true rfl⟩) (fun r2 My2 Ny2 Ry2 H locs q2 z2 w2 t2 hk2 hS => ?_)
  obtain ⟨eN2, eR2, f2_KV⟩ := q2
  subst eN2
  subst eR2
  have wx2 := HW.x w1 hd hk2
  have g2_HV : HV My2 Ry y := HV_ag t2 gy hv (hAd.ag z2 (by decide))
  have g2_CW : CW My2 Ry y := CW_ag t2 gy cw (hAd.ag z2 (by decide))
  have g2_WV : WV My2 Ry y := WV_ag t2 gy wv (hAd.ag z2 (by decide))
  have g2_BV : BV My2 Ry y := BV_ag t2 gy bv (hAd.ag z2 (by decide))
  have tm2 : My2 y 64 = My y 64 := z2 y 9 64 gy rfl
  refine lv_pop hx hb dL_law_976 rfl ?_
  refine lv_goto (tgt := 1513) hx hb dL_law_977 (by decide) ?_
  exact kk _ _ _ ⟨σx, Mx1, Nx, Rx, σy, My2, Ny, Ry, wx2, t1, gx, hd, w2, t2, gy, hFy, f2_KV, g2_HV, g2_CW, g2_WV, g2_BV, ((tm1.trans tm).trans tm2.symm), hS⟩ hl
set_option maxHeartbeats 4000000 in
set_option maxRecDepth 100000 in
theorem law_case_28 {p : Program} {l : Launch} {e : Env} {s : State} {m : MethodId} {below : List Frame} {meth : Method} {c : Code} {D : va_G} {g : Nat → ClassId} {ev : Nat → Nat} {b L i : Nat} {xs : Nat → Int32} {A : Nat → Prop} {x y : Nat} {H : Heap} {locs : List Loc} {ls : Array Slot} (C0 : lwC p s m meth c b L xs A D g ev) (hi : i + 6 ≤ L) (hR : lR D g A s H locs x y) (hl : lv_has ls 4 [(3, .int (nI i)), (2, .ref y), (1, .ref x), (0, .ref b)]) (kk : ∀ (H : Heap) (locs : List Loc) (ls : Array Slot), lR D g A s H locs x y → lv_has ls 4 [(3, .int (nI i)), (2, .ref y), (1, .ref x), (0, .ref b)] → W p l e room_1 s m #[Value.ref b] below meth c H locs 364 18454 (lw_Z below #[Value.ref b] s) (F0 m 1513 ls [])) : W p l e room_1 s m #[Value.ref b] below meth c H locs 364 18454 (lw_Z below #[Value.ref b] s) (F0 m 980 ls []) := by
  obtain ⟨hx, hb, hr, hml, hown, hts, hX, hbl, hlocks, hA, hAe, hbA, hK, hE, hL⟩ := C0
  have hown : s.vm.findClass RL = some m.cls := hown
  obtain ⟨σx, Mx, Nx, Rx, σy, My, Ny, Ry, wx, tx, gx, hd, wy, ty, gy, hFy, kv, hv, cw, wv, bv, tm, hS⟩ := hR
  have hFx : ∀ q, σx q ≠ none → A q := fun q h => (hd q h).1
  refine lv_aload_n hx hb dL_law_980 rfl (lv_at hl 2 rfl) ?_
  refine lv_aload_n hx hb dL_law_981 rfl (lv_at hl 3 rfl) ?_
  refine lv_iload_n hx hb dL_law_982 rfl (lv_at hl 0 rfl) ?_
  refine lv_iconst (v := 1) hx hb dL_law_983 (by decide) ?_
  refine lv_iadd hx hb dL_law_984 ?_
  refine k_top (v := nI (i + 1)) (nI_add i 1) ?_
  refine va_sld hx hb hX hbl hbA hS (vp_in_nI (n := i + 1) (N := L) (by omega) (by omega)) dL_law_985 ?_
  refine lv_aload_n hx hb dL_law_986 rfl (lv_at hl 3 rfl) ?_
  refine lv_iload_n hx hb dL_law_987 rfl (lv_at hl 0 rfl) ?_
  refine lv_iconst (v := 2) hx hb dL_law_988 (by decide) ?_
  refine lv_iadd hx hb dL_law_989 ?_
  refine k_top (v := nI (i + 2)) (nI_add i 2) ?_
  refine va_sld hx hb hX hbl hbA hS (vp_in_nI (n := i + 2) (N := L) (by omega) (by omega)) dL_law_990 ?_
  refine lv_aload_n hx hb dL_law_991 rfl (lv_at hl 3 rfl) ?_
  refine lv_iload_n hx hb dL_law_992 rfl (lv_at hl 0 rfl) ?_
  refine lv_iconst (v := 3) hx hb dL_law_993 (by decide) ?_
  refine lv_iadd hx hb dL_law_994 ?_
  refine k_top (v := nI (i + 3)) (nI_add i 3) ?_
  refine va_sld hx hb hX hbl hbA hS (vp_in_nI (n := i + 3) (N := L) (by omega) (by omega)) dL_law_995 ?_
  refine c_goi hS hFx (va_runV (As := [.int (xs (nI (i + 1)).toNatClampNeg), .int (xs (nI (i + 2)).toNatClampNeg), .int (xs (nI (i + 3)).toNatClampNeg)]) (rest := []) ⟨hx, hb, hml, hown, hts⟩ (h_bid_X8 l D g σx (zE ev σx) zE_ok Mx Nx Rx x gx ((xs (nI (i + 1)).toNatClampNeg)) ((xs (nI (i + 2)).toNatClampNeg)) ((xs (nI (i + 3)).toNatClampNeg))) (cwV 3 hts gL_law_X8_bid rfl rfl rfl (by decide +kernel) ⟨Nat.le_of_ble_eq_true rfl, Nat.le_of_ble_eq_true rfl⟩) (c_preV hK hE hS hFx wx tx gx (by decide) rfl) rfl rfl hl.1 rfl (lv_room (Nat.le_of_ble_eq_true rfl)) dL_law_996 ⟨Nat.le_of_ble_eq_true rfl, Nat.le_of_ble_eq_true rfl⟩) (fun r1 Mx1 Nx1 Rx1 H locs q1 z1 w1 t1 hk1 hS => ?_)
  obtain ⟨eN1, eR1⟩ := q1
  subst eN1
  subst eR1
  have wy1 := HW.y wy hd hk1
  have tm1 : Mx1 x 13 = Mx x 13 := z1 x 8 13 gx rfl
  refine lv_pop hx hb dL_law_999 rfl ?_
  refine lv_aload_n hx hb dL_law_1000 rfl (lv_at hl 1 rfl) ?_
  refine lv_aload_n hx hb dL_law_1001 rfl (lv_at hl 3 rfl) ?_
  refine lv_iload_n hx hb dL_law_1002 rfl (lv_at hl 0 rfl) ?_
  refine lv_iconst (v := 1) hx hb dL_law_1003 (by decide) ?_
  refine lv_iadd hx hb dL_law_1004 ?_
  refine k_top (v := nI (i + 1)) (nI_add i 1) ?_
  refine va_sld hx hb hX hbl hbA hS (vp_in_nI (n := i + 1) (N := L) (by omega) (by omega)) dL_law_1005 ?_
  refine lv_aload_n hx hb dL_law_1006 rfl (lv_at hl 3 rfl) ?_
  refine lv_iload_n hx hb dL_law_1007 rfl (lv_at hl 0 rfl) ?_
  refine lv_iconst (v := 2) hx hb dL_law_1008 (by decide) ?_
  refine lv_iadd hx hb dL_law_1009 ?_
  refine k_top (v := nI (i + 2)) (nI_add i 2) ?_
  refine va_sld hx hb hX hbl hbA hS (vp_in_nI (n := i + 2) (N := L) (by omega) (by omega)) dL_law_1010 ?_
  refine lv_aload_n hx hb dL_law_1011 rfl (lv_at hl 3 rfl) ?_
  refine lv_iload_n hx hb dL_law_1012 rfl (lv_at hl 0 rfl) ?_
  refine lv_iconst (v := 3) hx hb dL_law_1013 (by decide) ?_
  refine lv_iadd hx hb dL_law_1014 ?_
  refine k_top (v := nI (i + 3)) (nI_add i 3) ?_
  refine va_sld hx hb hX hbl hbA hS (vp_in_nI (n := i + 3) (N := L) (by omega) (by omega)) dL_law_1015 ?_
  refine c_goi hS hFy (va_runV (As := [.int (xs (nI (i + 1)).toNatClampNeg), .int (xs (nI (i + 2)).toNatClampNeg), .int (xs (nI (i + 3)).toNatClampNeg)]) (rest := []) ⟨hx, hb, hml, hown, hts⟩ (h_bid_X9 l D g σy (zE ev σy) zE_ok My Ny Ry y gy ((xs (nI (i + 1)).toNatClampNeg)) ((xs (nI (i + 2)).toNatClampNeg)) ((xs (nI (i + 3)).toNatClampNeg)) cw) (cwV 3 hts gL_law_X9_bid rfl rfl rfl (by decide +kernel) ⟨Nat.le_of_ble_eq_true rfl, Nat.le_of_ble_eq_true rfl⟩) (c_preV hK hE hS hFy wy1 ty gy (by decide) rfl) rfl rfl hl.1 rfl (lv_room (Nat.le_of_ble_eq_true rfl)) dL_law_1016 ⟨Nat.le_of_ble_eq_true rfl, Nat.le_of_ble_eq_true rfl⟩) (fun r2 My2 Ny2 Ry2 H locs q2 z2 w2 t2 hk2 hS => ?_)
  obtain ⟨eN2, eR2, f2_KVI⟩ := q2
  subst eN2
  subst eR2
  have wx2 := HW.x w1 hd hk2
  have g2_HV : HV My2 Ry y := HV_ag t2 gy hv (hAd.ag z2 (by decide))
  have g2_CW : CW My2 Ry y := CW_ag t2 gy cw (hAd.ag z2 (by decide))
  have g2_WV : WV My2 Ry y := WV_ag t2 gy wv (hAd.ag z2 (by decide))
  have g2_BV : BV My2 Ry y := BV_ag t2 gy bv (hAd.ag z2 (by decide))
  have tm2 : My2 y 64 = My y 64 := z2 y 9 64 gy rfl
  refine lv_pop hx hb dL_law_1019 rfl ?_
  refine lv_goto (tgt := 1513) hx hb dL_law_1020 (by decide) ?_
  exact kk _ _ _ ⟨σx, Mx1, Nx, Rx, σy, My2, Ny, Ry, wx2, t1, gx, hd, w2, t2, gy, hFy, (f2_KVI kv), g2_HV, g2_CW, g2_WV, g2_BV, ((tm1.trans tm).trans tm2.symm), hS⟩ hl
set_option maxHeartbeats 4000000 in
set_option maxRecDepth 100000 in
theorem law_case_29 {p : Program} {l : Launch} {e : Env} {s : State} {m : MethodId} {below : List Frame} {meth : Method} {c : Code} {D : va_G} {g : Nat → ClassId} {ev : Nat → Nat} {b L i : Nat} {xs : Nat → Int32} {A : Nat → Prop} {x y : Nat} {H : Heap} {locs : List Loc} {ls : Array Slot} (C0 : lwC p s m meth c b L xs A D g ev) (hi : i + 6 ≤ L) (hR : lR D g A s H locs x y) (hl : lv_has ls 4 [(3, .int (nI i)), (2, .ref y), (1, .ref x), (0, .ref b)]) (kk : ∀ (H : Heap) (locs : List Loc) (ls : Array Slot), lR D g A s H locs x y → lv_has ls 4 [(3, .int (nI i)), (2, .ref y), (1, .ref x), (0, .ref b)] → W p l e room_1 s m #[Value.ref b] below meth c H locs 364 18454 (lw_Z below #[Value.ref b] s) (F0 m 1513 ls [])) : W p l e room_1 s m #[Value.ref b] below meth c H locs 364 18454 (lw_Z below #[Value.ref b] s) (F0 m 1023 ls []) := by
  obtain ⟨hx, hb, hr, hml, hown, hts, hX, hbl, hlocks, hA, hAe, hbA, hK, hE, hL⟩ := C0
  have hown : s.vm.findClass RL = some m.cls := hown
  obtain ⟨σx, Mx, Nx, Rx, σy, My, Ny, Ry, wx, tx, gx, hd, wy, ty, gy, hFy, kv, hv, cw, wv, bv, tm, hS⟩ := hR
  have hFx : ∀ q, σx q ≠ none → A q := fun q h => (hd q h).1
  refine lv_aload_n hx hb dL_law_1023 rfl (lv_at hl 2 rfl) ?_
  refine lv_aload_n hx hb dL_law_1024 rfl (lv_at hl 3 rfl) ?_
  refine lv_iload_n hx hb dL_law_1025 rfl (lv_at hl 0 rfl) ?_
  refine lv_iconst (v := 1) hx hb dL_law_1026 (by decide) ?_
  refine lv_iadd hx hb dL_law_1027 ?_
  refine k_top (v := nI (i + 1)) (nI_add i 1) ?_
  refine va_sld hx hb hX hbl hbA hS (vp_in_nI (n := i + 1) (N := L) (by omega) (by omega)) dL_law_1028 ?_
  refine lv_aload_n hx hb dL_law_1029 rfl (lv_at hl 3 rfl) ?_
  refine lv_iload_n hx hb dL_law_1030 rfl (lv_at hl 0 rfl) ?_
  refine lv_iconst (v := 2) hx hb dL_law_1031 (by decide) ?_
  refine lv_iadd hx hb dL_law_1032 ?_
  refine k_top (v := nI (i + 2)) (nI_add i 2) ?_
  refine va_sld hx hb hX hbl hbA hS (vp_in_nI (n := i + 2) (N := L) (by omega) (by omega)) dL_law_1033 ?_
  refine c_goi hS hFx (va_runV (As := [.int (xs (nI (i + 1)).toNatClampNeg), .int (xs (nI (i + 2)).toNatClampNeg)]) (rest := []) ⟨hx, hb, hml, hown, hts⟩ (h_haven_X8 l D g σx (zE ev σx) zE_ok Mx Nx Rx x gx ((xs (nI (i + 1)).toNatClampNeg)) ((xs (nI (i + 2)).toNatClampNeg))) (cwV 2 hts gL_law_X8_haven rfl rfl rfl (by decide +kernel) ⟨Nat.le_of_ble_eq_true rfl, Nat.le_of_ble_eq_true rfl⟩) (c_preV hK hE hS hFx wx tx gx (by decide) rfl) rfl rfl hl.1 rfl (lv_room (Nat.le_of_ble_eq_true rfl)) dL_law_1034 ⟨Nat.le_of_ble_eq_true rfl, Nat.le_of_ble_eq_true rfl⟩) (fun r1 Mx1 Nx1 Rx1 H locs q1 z1 w1 t1 hk1 hS => ?_)
  obtain ⟨eN1, eR1, -⟩ := q1
  subst eN1
  subst eR1
  have wy1 := HW.y wy hd hk1
  have tm1 : Mx1 x 13 = Mx x 13 := z1 x 8 13 gx rfl
  refine lv_pop hx hb dL_law_1037 rfl ?_
  refine lv_aload_n hx hb dL_law_1038 rfl (lv_at hl 1 rfl) ?_
  refine lv_aload_n hx hb dL_law_1039 rfl (lv_at hl 3 rfl) ?_
  refine lv_iload_n hx hb dL_law_1040 rfl (lv_at hl 0 rfl) ?_
  refine lv_iconst (v := 1) hx hb dL_law_1041 (by decide) ?_
  refine lv_iadd hx hb dL_law_1042 ?_
  refine k_top (v := nI (i + 1)) (nI_add i 1) ?_
  refine va_sld hx hb hX hbl hbA hS (vp_in_nI (n := i + 1) (N := L) (by omega) (by omega)) dL_law_1043 ?_
  refine lv_aload_n hx hb dL_law_1044 rfl (lv_at hl 3 rfl) ?_
  refine lv_iload_n hx hb dL_law_1045 rfl (lv_at hl 0 rfl) ?_
  refine lv_iconst (v := 2) hx hb dL_law_1046 (by decide) ?_
  refine lv_iadd hx hb dL_law_1047 ?_
  refine k_top (v := nI (i + 2)) (nI_add i 2) ?_
  refine va_sld hx hb hX hbl hbA hS (vp_in_nI (n := i + 2) (N := L) (by omega) (by omega)) dL_law_1048 ?_
  refine c_goi hS hFy (va_runV (As := [.int (xs (nI (i + 1)).toNatClampNeg), .int (xs (nI (i + 2)).toNatClampNeg)]) (rest := []) ⟨hx, hb, hml, hown, hts⟩ (h_haven_X9 l D g σy (zE ev σy) zE_ok My Ny Ry y gy ((xs (nI (i + 1)).toNatClampNeg)) ((xs (nI (i + 2)).toNatClampNeg)) kv cw) (cwV 2 hts gL_law_X9_haven rfl rfl rfl (by decide +kernel) ⟨Nat.le_of_ble_eq_true rfl, Nat.le_of_ble_eq_true rfl⟩) (c_preV hK hE hS hFy wy1 ty gy (by decide) rfl) rfl rfl hl.1 rfl (lv_room (Nat.le_of_ble_eq_true rfl)) dL_law_1049 ⟨Nat.le_of_ble_eq_true rfl, Nat.le_of_ble_eq_true rfl⟩) (fun r2 My2 Ny2 Ry2 H locs q2 z2 w2 t2 hk2 hS => ?_)
  obtain ⟨eN2, eR2, -, f2_KV⟩ := q2
  subst eN2
  subst eR2
  have wx2 := HW.x w1 hd hk2
  have g2_HV : HV My2 Ry y := HV_ag t2 gy hv (hAd.ag z2 (by decide))
  have g2_CW : CW My2 Ry y := CW_ag t2 gy cw (hAd.ag z2 (by decide))
  have g2_WV : WV My2 Ry y := WV_ag t2 gy wv (hAd.ag z2 (by decide))
  have g2_BV : BV My2 Ry y := BV_ag t2 gy bv (hAd.ag z2 (by decide))
  have tm2 : My2 y 64 = My y 64 := z2 y 9 64 gy rfl
  refine lv_pop hx hb dL_law_1052 rfl ?_
  refine lv_goto (tgt := 1513) hx hb dL_law_1053 (by decide) ?_
  exact kk _ _ _ ⟨σx, Mx1, Nx, Rx, σy, My2, Ny, Ry, wx2, t1, gx, hd, w2, t2, gy, hFy, f2_KV, g2_HV, g2_CW, g2_WV, g2_BV, ((tm1.trans tm).trans tm2.symm), hS⟩ hl
set_option maxHeartbeats 4000000 in
set_option maxRecDepth 100000 in
theorem law_case_30 {p : Program} {l : Launch} {e : Env} {s : State} {m : MethodId} {below : List Frame} {meth : Method} {c : Code} {D : va_G} {g : Nat → ClassId} {ev : Nat → Nat} {b L i : Nat} {xs : Nat → Int32} {A : Nat → Prop} {x y : Nat} {H : Heap} {locs : List Loc} {ls : Array Slot} (C0 : lwC p s m meth c b L xs A D g ev) (hi : i + 6 ≤ L) (hR : lR D g A s H locs x y) (hl : lv_has ls 4 [(3, .int (nI i)), (2, .ref y), (1, .ref x), (0, .ref b)]) (kk : ∀ (H : Heap) (locs : List Loc) (ls : Array Slot), lR D g A s H locs x y → lv_has ls 4 [(3, .int (nI i)), (2, .ref y), (1, .ref x), (0, .ref b)] → W p l e room_1 s m #[Value.ref b] below meth c H locs 364 18454 (lw_Z below #[Value.ref b] s) (F0 m 1513 ls [])) : W p l e room_1 s m #[Value.ref b] below meth c H locs 364 18454 (lw_Z below #[Value.ref b] s) (F0 m 1056 ls []) := by
  obtain ⟨hx, hb, hr, hml, hown, hts, hX, hbl, hlocks, hA, hAe, hbA, hK, hE, hL⟩ := C0
  have hown : s.vm.findClass RL = some m.cls := hown
  obtain ⟨σx, Mx, Nx, Rx, σy, My, Ny, Ry, wx, tx, gx, hd, wy, ty, gy, hFy, kv, hv, cw, wv, bv, tm, hS⟩ := hR
  have hFx : ∀ q, σx q ≠ none → A q := fun q h => (hd q h).1
  refine lv_aload_n hx hb dL_law_1056 rfl (lv_at hl 2 rfl) ?_
  refine lv_aload_n hx hb dL_law_1057 rfl (lv_at hl 3 rfl) ?_
  refine lv_iload_n hx hb dL_law_1058 rfl (lv_at hl 0 rfl) ?_
  refine lv_iconst (v := 1) hx hb dL_law_1059 (by decide) ?_
  refine lv_iadd hx hb dL_law_1060 ?_
  refine k_top (v := nI (i + 1)) (nI_add i 1) ?_
  refine va_sld hx hb hX hbl hbA hS (vp_in_nI (n := i + 1) (N := L) (by omega) (by omega)) dL_law_1061 ?_
  refine c_goi hS hFx (va_runV (As := [.int (xs (nI (i + 1)).toNatClampNeg)]) (rest := []) ⟨hx, hb, hml, hown, hts⟩ (h_crowd_X8 l D g σx (zE ev σx) zE_ok Mx Nx Rx x gx ((xs (nI (i + 1)).toNatClampNeg))) (cwV 1 hts gL_law_X8_crowd rfl rfl rfl (by decide +kernel) ⟨Nat.le_of_ble_eq_true rfl, Nat.le_of_ble_eq_true rfl⟩) (c_preV hK hE hS hFx wx tx gx (by decide) rfl) rfl rfl hl.1 rfl (lv_room (Nat.le_of_ble_eq_true rfl)) dL_law_1062 ⟨Nat.le_of_ble_eq_true rfl, Nat.le_of_ble_eq_true rfl⟩) (fun r1 Mx1 Nx1 Rx1 H locs q1 z1 w1 t1 hk1 hS => ?_)
  obtain ⟨eN1, eR1, -⟩ := q1
  subst eN1
  subst eR1
  have wy1 := HW.y wy hd hk1
  have tm1 : Mx1 x 13 = Mx x 13 := z1 x 8 13 gx rfl
  refine lv_pop hx hb dL_law_1065 rfl ?_
  refine lv_aload_n hx hb dL_law_1066 rfl (lv_at hl 1 rfl) ?_
  refine lv_aload_n hx hb dL_law_1067 rfl (lv_at hl 3 rfl) ?_
  refine lv_iload_n hx hb dL_law_1068 rfl (lv_at hl 0 rfl) ?_
  refine lv_iconst (v := 1) hx hb dL_law_1069 (by decide) ?_
  refine lv_iadd hx hb dL_law_1070 ?_
  refine k_top (v := nI (i + 1)) (nI_add i 1) ?_
  refine va_sld hx hb hX hbl hbA hS (vp_in_nI (n := i + 1) (N := L) (by omega) (by omega)) dL_law_1071 ?_
  refine c_goi hS hFy (va_runV (As := [.int (xs (nI (i + 1)).toNatClampNeg)]) (rest := []) ⟨hx, hb, hml, hown, hts⟩ (h_crowd_X9 l D g σy (zE ev σy) zE_ok My Ny Ry y gy ((xs (nI (i + 1)).toNatClampNeg)) cw) (cwV 1 hts gL_law_X9_crowd rfl rfl rfl (by decide +kernel) ⟨Nat.le_of_ble_eq_true rfl, Nat.le_of_ble_eq_true rfl⟩) (c_preV hK hE hS hFy wy1 ty gy (by decide) rfl) rfl rfl hl.1 rfl (lv_room (Nat.le_of_ble_eq_true rfl)) dL_law_1072 ⟨Nat.le_of_ble_eq_true rfl, Nat.le_of_ble_eq_true rfl⟩) (fun r2 My2 Ny2 Ry2 H locs q2 z2 w2 t2 hk2 hS => ?_)
  obtain ⟨eN2, eR2, -⟩ := q2
  subst eN2
  subst eR2
  have wx2 := HW.x w1 hd hk2
  have g2_KV : KV My2 Ry y := KV_ag t2 gy kv (hAd.ag z2 (by decide))
  have g2_HV : HV My2 Ry y := HV_ag t2 gy hv (hAd.ag z2 (by decide))
  have g2_CW : CW My2 Ry y := CW_ag t2 gy cw (hAd.ag z2 (by decide))
  have g2_WV : WV My2 Ry y := WV_ag t2 gy wv (hAd.ag z2 (by decide))
  have g2_BV : BV My2 Ry y := BV_ag t2 gy bv (hAd.ag z2 (by decide))
  have tm2 : My2 y 64 = My y 64 := z2 y 9 64 gy rfl
  refine lv_pop hx hb dL_law_1075 rfl ?_
  refine lv_goto (tgt := 1513) hx hb dL_law_1076 (by decide) ?_
  exact kk _ _ _ ⟨σx, Mx1, Nx, Rx, σy, My2, Ny, Ry, wx2, t1, gx, hd, w2, t2, gy, hFy, g2_KV, g2_HV, g2_CW, g2_WV, g2_BV, ((tm1.trans tm).trans tm2.symm), hS⟩ hl
set_option maxHeartbeats 4000000 in
set_option maxRecDepth 100000 in
theorem law_case_31 {p : Program} {l : Launch} {e : Env} {s : State} {m : MethodId} {below : List Frame} {meth : Method} {c : Code} {D : va_G} {g : Nat → ClassId} {ev : Nat → Nat} {b L i : Nat} {xs : Nat → Int32} {A : Nat → Prop} {x y : Nat} {H : Heap} {locs : List Loc} {ls : Array Slot} (C0 : lwC p s m meth c b L xs A D g ev) (hi : i + 6 ≤ L) (hR : lR D g A s H locs x y) (hl : lv_has ls 4 [(3, .int (nI i)), (2, .ref y), (1, .ref x), (0, .ref b)]) (kk : ∀ (H : Heap) (locs : List Loc) (ls : Array Slot), lR D g A s H locs x y → lv_has ls 4 [(3, .int (nI i)), (2, .ref y), (1, .ref x), (0, .ref b)] → W p l e room_1 s m #[Value.ref b] below meth c H locs 364 18454 (lw_Z below #[Value.ref b] s) (F0 m 1513 ls [])) : W p l e room_1 s m #[Value.ref b] below meth c H locs 364 18454 (lw_Z below #[Value.ref b] s) (F0 m 1079 ls []) := by
  obtain ⟨hx, hb, hr, hml, hown, hts, hX, hbl, hlocks, hA, hAe, hbA, hK, hE, hL⟩ := C0
  have hown : s.vm.findClass RL = some m.cls := hown
  obtain ⟨σx, Mx, Nx, Rx, σy, My, Ny, Ry, wx, tx, gx, hd, wy, ty, gy, hFy, kv, hv, cw, wv, bv, tm, hS⟩ := hR
  have hFx : ∀ q, σx q ≠ none → A q := fun q h => (hd q h).1
  refine lv_aload_n hx hb dL_law_1079 rfl (lv_at hl 2 rfl) ?_
  refine c_goi hS hFx (va_runV (As := []) (rest := []) ⟨hx, hb, hml, hown, hts⟩ (h_fondest_X8 l D g σx (zE ev σx) zE_ok Mx Nx Rx x gx) (cwV 0 hts gL_law_X8_fondest rfl rfl rfl (by decide +kernel) ⟨Nat.le_of_ble_eq_true rfl, Nat.le_of_ble_eq_true rfl⟩) (c_preV hK hE hS hFx wx tx gx (by decide) rfl) rfl rfl hl.1 rfl (lv_room (Nat.le_of_ble_eq_true rfl)) dL_law_1080 ⟨Nat.le_of_ble_eq_true rfl, Nat.le_of_ble_eq_true rfl⟩) (fun r1 Mx1 Nx1 Rx1 H locs q1 z1 w1 t1 hk1 hS => ?_)
  obtain ⟨eN1, eR1, -⟩ := q1
  subst eN1
  subst eR1
  have wy1 := HW.y wy hd hk1
  have tm1 : Mx1 x 13 = Mx x 13 := z1 x 8 13 gx rfl
  refine lv_pop hx hb dL_law_1083 rfl ?_
  refine lv_aload_n hx hb dL_law_1084 rfl (lv_at hl 1 rfl) ?_
  refine c_goi hS hFy (va_runV (As := []) (rest := []) ⟨hx, hb, hml, hown, hts⟩ (h_fondest_X9 l D g σy (zE ev σy) zE_ok My Ny Ry y gy cw) (cwV 0 hts gL_law_X9_fondest rfl rfl rfl (by decide +kernel) ⟨Nat.le_of_ble_eq_true rfl, Nat.le_of_ble_eq_true rfl⟩) (c_preV hK hE hS hFy wy1 ty gy (by decide) rfl) rfl rfl hl.1 rfl (lv_room (Nat.le_of_ble_eq_true rfl)) dL_law_1085 ⟨Nat.le_of_ble_eq_true rfl, Nat.le_of_ble_eq_true rfl⟩) (fun r2 My2 Ny2 Ry2 H locs q2 z2 w2 t2 hk2 hS => ?_)
  obtain ⟨eN2, eR2, -⟩ := q2
  subst eN2
  subst eR2
  have wx2 := HW.x w1 hd hk2
  have g2_KV : KV My2 Ry y := KV_ag t2 gy kv (hAd.ag z2 (by decide))
  have g2_HV : HV My2 Ry y := HV_ag t2 gy hv (hAd.ag z2 (by decide))
  have g2_CW : CW My2 Ry y := CW_ag t2 gy cw (hAd.ag z2 (by decide))
  have g2_WV : WV My2 Ry y := WV_ag t2 gy wv (hAd.ag z2 (by decide))
  have g2_BV : BV My2 Ry y := BV_ag t2 gy bv (hAd.ag z2 (by decide))
  have tm2 : My2 y 64 = My y 64 := z2 y 9 64 gy rfl
  refine lv_pop hx hb dL_law_1088 rfl ?_
  refine lv_goto (tgt := 1513) hx hb dL_law_1089 (by decide) ?_
  exact kk _ _ _ ⟨σx, Mx1, Nx, Rx, σy, My2, Ny, Ry, wx2, t1, gx, hd, w2, t2, gy, hFy, g2_KV, g2_HV, g2_CW, g2_WV, g2_BV, ((tm1.trans tm).trans tm2.symm), hS⟩ hl
