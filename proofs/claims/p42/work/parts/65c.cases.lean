set_option maxHeartbeats 4000000 in
set_option maxRecDepth 100000 in
theorem law_case_32 {p : Program} {l : Launch} {e : Env} {s : State} {m : MethodId} {below : List Frame} {meth : Method} {c : Code} {D : va_G} {g : Nat → ClassId} {ev : Nat → Nat} {b L i : Nat} {xs : Nat → Int32} {A : Nat → Prop} {x y : Nat} {H : Heap} {locs : List Loc} {ls : Array Slot} (C0 : lwC p s m meth c b L xs A D g ev) (hi : i + 6 ≤ L) (hR : lR D g A s H locs x y) (hl : lv_has ls 4 [(3, .int (nI i)), (2, .ref y), (1, .ref x), (0, .ref b)]) (kk : ∀ (H : Heap) (locs : List Loc) (ls : Array Slot), lR D g A s H locs x y → lv_has ls 4 [(3, .int (nI i)), (2, .ref y), (1, .ref x), (0, .ref b)] → W p l e room_1 s m #[Value.ref b] below meth c H locs 364 18454 (lw_Z below #[Value.ref b] s) (F0 m 1513 ls [])) : W p l e room_1 s m #[Value.ref b] below meth c H locs 364 18454 (lw_Z below #[Value.ref b] s) (F0 m 1092 ls []) := by
  obtain ⟨hx, hb, hr, hml, hown, hts, hX, hbl, hlocks, hA, hAe, hbA, hK, hE, hL⟩ := C0
  have hown : s.vm.findClass RL = some m.cls := hown
  obtain ⟨σx, Mx, Nx, Rx, σy, My, Ny, Ry, wx, tx, gx, hd, wy, ty, gy, hFy, kv, hv, cw, wv, bv, tm, hS⟩ := hR
  have hFx : ∀ q, σx q ≠ none → A q := fun q h => (hd q h).1
  refine lv_aload_n hx hb dL_law_1092 rfl (lv_at hl 2 rfl) ?_
  refine c_goi hS hFx (va_runV (As := []) (rest := []) ⟨hx, hb, hml, hown, hts⟩ (h_nobodys_X8 l D g σx (zE ev σx) zE_ok Mx Nx Rx x gx) (cwV 0 hts gL_law_X8_nobodys rfl rfl rfl (by decide +kernel) ⟨Nat.le_of_ble_eq_true rfl, Nat.le_of_ble_eq_true rfl⟩) (c_preV hK hE hS hFx wx tx gx (by decide) rfl) rfl rfl hl.1 rfl (lv_room (Nat.le_of_ble_eq_true rfl)) dL_law_1093 ⟨Nat.le_of_ble_eq_true rfl, Nat.le_of_ble_eq_true rfl⟩) (fun r1 Mx1 Nx1 Rx1 H locs q1 z1 w1 t1 hk1 hS => ?_)
  obtain ⟨eN1, eR1, -⟩ := q1
  subst eN1
  subst eR1
  have wy1 := HW.y wy hd hk1
  have tm1 : Mx1 x 13 = Mx x 13 := z1 x 8 13 gx rfl
  refine lv_pop hx hb dL_law_1096 rfl ?_
  refine lv_aload_n hx hb dL_law_1097 rfl (lv_at hl 1 rfl) ?_
  refine c_goi hS hFy (va_runV (As := []) (rest := []) ⟨hx, hb, hml, hown, hts⟩ (h_nobodys_X9 l D g σy (zE ev σy) zE_ok My Ny Ry y gy cw) (cwV 0 hts gL_law_X9_nobodys rfl rfl rfl (by decide +kernel) ⟨Nat.le_of_ble_eq_true rfl, Nat.le_of_ble_eq_true rfl⟩) (c_preV hK hE hS hFy wy1 ty gy (by decide) rfl) rfl rfl hl.1 rfl (lv_room (Nat.le_of_ble_eq_true rfl)) dL_law_1098 ⟨Nat.le_of_ble_eq_true rfl, Nat.le_of_ble_eq_true rfl⟩) (fun r2 My2 Ny2 Ry2 H locs q2 z2 w2 t2 hk2 hS => ?_)
  obtain ⟨eN2, eR2, -⟩ := q2
  subst eN2
  subst eR2
  have wx2 := HW.x w1 hd hk2
  have g2_KV : KV My2 Ry y := KV_ag t2 gy kv (hAd.ag z2 (by decide))
  have g2_HV : HV My2 Ry y := HV_ag t2 gy hv (hAd.ag z2 (by decide))
  have g2_CW : CW My2 Ry y := CW_ag t2 gy cw (hAd.ag z2 (by decide))
  have g2_WV : WV My2 Ry y := WV_ag t2 gy wv (hAd.ag z2 (by decide))
  have g2_BV : BV My2 Ry y := BV_ag t2 gy bv (hAd.ag z2 (by decide))
  have tm2 : My2 y 64 = My y 64 := z2 y 9 64 gy rfl
  refine lv_pop hx hb dL_law_1101 rfl ?_
  refine lv_goto (tgt := 1513) hx hb dL_law_1102 (by decide) ?_
  exact kk _ _ _ ⟨σx, Mx1, Nx, Rx, σy, My2, Ny, Ry, wx2, t1, gx, hd, w2, t2, gy, hFy, g2_KV, g2_HV, g2_CW, g2_WV, g2_BV, ((tm1.trans tm).trans tm2.symm), hS⟩ hl
set_option maxHeartbeats 4000000 in
set_option maxRecDepth 100000 in
theorem law_case_33 {p : Program} {l : Launch} {e : Env} {s : State} {m : MethodId} {below : List Frame} {meth : Method} {c : Code} {D : va_G} {g : Nat → ClassId} {ev : Nat → Nat} {b L i : Nat} {xs : Nat → Int32} {A : Nat → Prop} {x y : Nat} {H : Heap} {locs : List Loc} {ls : Array Slot} (C0 : lwC p s m meth c b L xs A D g ev) (hi : i + 6 ≤ L) (hR : lR D g A s H locs x y) (hl : lv_has ls 4 [(3, .int (nI i)), (2, .ref y), (1, .ref x), (0, .ref b)]) (kk : ∀ (H : Heap) (locs : List Loc) (ls : Array Slot), lR D g A s H locs x y → lv_has ls 4 [(3, .int (nI i)), (2, .ref y), (1, .ref x), (0, .ref b)] → W p l e room_1 s m #[Value.ref b] below meth c H locs 364 18454 (lw_Z below #[Value.ref b] s) (F0 m 1513 ls [])) : W p l e room_1 s m #[Value.ref b] below meth c H locs 364 18454 (lw_Z below #[Value.ref b] s) (F0 m 1105 ls []) := by
  obtain ⟨hx, hb, hr, hml, hown, hts, hX, hbl, hlocks, hA, hAe, hbA, hK, hE, hL⟩ := C0
  have hown : s.vm.findClass RL = some m.cls := hown
  obtain ⟨σx, Mx, Nx, Rx, σy, My, Ny, Ry, wx, tx, gx, hd, wy, ty, gy, hFy, kv, hv, cw, wv, bv, tm, hS⟩ := hR
  have hFx : ∀ q, σx q ≠ none → A q := fun q h => (hd q h).1
  refine lv_aload_n hx hb dL_law_1105 rfl (lv_at hl 2 rfl) ?_
  refine lv_aload_n hx hb dL_law_1106 rfl (lv_at hl 3 rfl) ?_
  refine lv_iload_n hx hb dL_law_1107 rfl (lv_at hl 0 rfl) ?_
  refine lv_iconst (v := 1) hx hb dL_law_1108 (by decide) ?_
  refine lv_iadd hx hb dL_law_1109 ?_
  refine k_top (v := nI (i + 1)) (nI_add i 1) ?_
  refine va_sld hx hb hX hbl hbA hS (vp_in_nI (n := i + 1) (N := L) (by omega) (by omega)) dL_law_1110 ?_
  refine c_goi hS hFx (va_runV (As := [.int (xs (nI (i + 1)).toNatClampNeg)]) (rest := []) ⟨hx, hb, hml, hown, hts⟩ (h_housed_X8 l D g σx (zE ev σx) zE_ok Mx Nx Rx x gx ((xs (nI (i + 1)).toNatClampNeg))) (cwV 1 hts gL_law_X8_housed rfl rfl rfl (by decide +kernel) ⟨Nat.le_of_ble_eq_true rfl, Nat.le_of_ble_eq_true rfl⟩) (c_preV hK hE hS hFx wx tx gx (by decide) rfl) rfl rfl hl.1 rfl (lv_room (Nat.le_of_ble_eq_true rfl)) dL_law_1111 ⟨Nat.le_of_ble_eq_true rfl, Nat.le_of_ble_eq_true rfl⟩) (fun r1 Mx1 Nx1 Rx1 H locs q1 z1 w1 t1 hk1 hS => ?_)
  obtain ⟨eN1, eR1⟩ := q1
  subst eN1
  subst eR1
  have wy1 := HW.y wy hd hk1
  have tm1 : Mx1 x 13 = Mx x 13 := z1 x 8 13 gx rfl
  refine lv_pop hx hb dL_law_1114 rfl ?_
  refine lv_aload_n hx hb dL_law_1115 rfl (lv_at hl 1 rfl) ?_
  refine lv_aload_n hx hb dL_law_1116 rfl (lv_at hl 3 rfl) ?_
  refine lv_iload_n hx hb dL_law_1117 rfl (lv_at hl 0 rfl) ?_
  refine lv_iconst (v := 1) hx hb dL_law_1118 (by decide) ?_
  refine lv_iadd hx hb dL_law_1119 ?_
  refine k_top (v := nI (i + 1)) (nI_add i 1) ?_
  refine va_sld hx hb hX hbl hbA hS (vp_in_nI (n := i + 1) (N := L) (by omega) (by omega)) dL_law_1120 ?_
  refine c_goi hS hFy (va_runV (As := [.int (xs (nI (i + 1)).toNatClampNeg)]) (rest := []) ⟨hx, hb, hml, hown, hts⟩ (h_housed_X9 l D g σy (zE ev σy) zE_ok My Ny Ry y gy ((xs (nI (i + 1)).toNatClampNeg)) kv cw) (cwV 1 hts gL_law_X9_housed rfl rfl rfl (by decide +kernel) ⟨Nat.le_of_ble_eq_true rfl, Nat.le_of_ble_eq_true rfl⟩) (c_preV hK hE hS hFy wy1 ty gy (by decide) rfl) rfl rfl hl.1 rfl (lv_room (Nat.le_of_ble_eq_true rfl)) dL_law_1121 ⟨Nat.le_of_ble_eq_true rfl, Nat.le_of_ble_eq_true rfl⟩) (fun r2 My2 Ny2 Ry2 H locs q2 z2 w2 t2 hk2 hS => ?_)
  obtain ⟨eN2, eR2, f2_KV⟩ := q2
  subst eN2
  subst eR2
  have wx2 := HW.x w1 hd hk2
  have g2_HV : HV My2 Ry y := HV_ag t2 gy hv (hAd.ag z2 (by decide))
  have g2_CW : CW My2 Ry y := CW_ag t2 gy cw (hAd.ag z2 (by decide))
  have g2_WV : WV My2 Ry y := WV_ag t2 gy wv (hAd.ag z2 (by decide))
  have g2_BV : BV My2 Ry y := BV_ag t2 gy bv (hAd.ag z2 (by decide))
  have tm2 : My2 y 64 = My y 64 := z2 y 9 64 gy rfl
  refine lv_pop hx hb dL_law_1124 rfl ?_
  refine lv_goto (tgt := 1513) hx hb dL_law_1125 (by decide) ?_
  exact kk _ _ _ ⟨σx, Mx1, Nx, Rx, σy, My2, Ny, Ry, wx2, t1, gx, hd, w2, t2, gy, hFy, f2_KV, g2_HV, g2_CW, g2_WV, g2_BV, ((tm1.trans tm).trans tm2.symm), hS⟩ hl
set_option maxHeartbeats 4000000 in
set_option maxRecDepth 100000 in
theorem law_case_34 {p : Program} {l : Launch} {e : Env} {s : State} {m : MethodId} {below : List Frame} {meth : Method} {c : Code} {D : va_G} {g : Nat → ClassId} {ev : Nat → Nat} {b L i : Nat} {xs : Nat → Int32} {A : Nat → Prop} {x y : Nat} {H : Heap} {locs : List Loc} {ls : Array Slot} (C0 : lwC p s m meth c b L xs A D g ev) (hi : i + 6 ≤ L) (hR : lR D g A s H locs x y) (hl : lv_has ls 4 [(3, .int (nI i)), (2, .ref y), (1, .ref x), (0, .ref b)]) (kk : ∀ (H : Heap) (locs : List Loc) (ls : Array Slot), lR D g A s H locs x y → lv_has ls 4 [(3, .int (nI i)), (2, .ref y), (1, .ref x), (0, .ref b)] → W p l e room_1 s m #[Value.ref b] below meth c H locs 364 18454 (lw_Z below #[Value.ref b] s) (F0 m 1513 ls [])) : W p l e room_1 s m #[Value.ref b] below meth c H locs 364 18454 (lw_Z below #[Value.ref b] s) (F0 m 1128 ls []) := by
  obtain ⟨hx, hb, hr, hml, hown, hts, hX, hbl, hlocks, hA, hAe, hbA, hK, hE, hL⟩ := C0
  have hown : s.vm.findClass RL = some m.cls := hown
  obtain ⟨σx, Mx, Nx, Rx, σy, My, Ny, Ry, wx, tx, gx, hd, wy, ty, gy, hFy, kv, hv, cw, wv, bv, tm, hS⟩ := hR
  have hFx : ∀ q, σx q ≠ none → A q := fun q h => (hd q h).1
  refine lv_aload_n hx hb dL_law_1128 rfl (lv_at hl 2 rfl) ?_
  refine lv_aload_n hx hb dL_law_1129 rfl (lv_at hl 3 rfl) ?_
  refine lv_iload_n hx hb dL_law_1130 rfl (lv_at hl 0 rfl) ?_
  refine lv_iconst (v := 1) hx hb dL_law_1131 (by decide) ?_
  refine lv_iadd hx hb dL_law_1132 ?_
  refine k_top (v := nI (i + 1)) (nI_add i 1) ?_
  refine va_sld hx hb hX hbl hbA hS (vp_in_nI (n := i + 1) (N := L) (by omega) (by omega)) dL_law_1133 ?_
  refine c_goi hS hFx (va_runV (As := [.int (xs (nI (i + 1)).toNatClampNeg)]) (rest := []) ⟨hx, hb, hml, hown, hts⟩ (h_law_X8 l D g σx (zE ev σx) zE_ok Mx Nx Rx x gx ((xs (nI (i + 1)).toNatClampNeg))) (cwV 1 hts gL_law_X8_law rfl rfl rfl (by decide +kernel) ⟨Nat.le_of_ble_eq_true rfl, Nat.le_of_ble_eq_true rfl⟩) (c_preV hK hE hS hFx wx tx gx (by decide) rfl) rfl rfl hl.1 rfl (lv_room (Nat.le_of_ble_eq_true rfl)) dL_law_1134 ⟨Nat.le_of_ble_eq_true rfl, Nat.le_of_ble_eq_true rfl⟩) (fun r1 Mx1 Nx1 Rx1 H locs q1 z1 w1 t1 hk1 hS => ?_)
  obtain ⟨eN1, eR1, -⟩ := q1
  subst eN1
  subst eR1
  have wy1 := HW.y wy hd hk1
  have tm1 : Mx1 x 13 = Mx x 13 := z1 x 8 13 gx rfl
  refine lv_pop hx hb dL_law_1137 rfl ?_
  refine lv_aload_n hx hb dL_law_1138 rfl (lv_at hl 1 rfl) ?_
  refine lv_aload_n hx hb dL_law_1139 rfl (lv_at hl 3 rfl) ?_
  refine lv_iload_n hx hb dL_law_1140 rfl (lv_at hl 0 rfl) ?_
  refine lv_iconst (v := 1) hx hb dL_law_1141 (by decide) ?_
  refine lv_iadd hx hb dL_law_1142 ?_
  refine k_top (v := nI (i + 1)) (nI_add i 1) ?_
  refine va_sld hx hb hX hbl hbA hS (vp_in_nI (n := i + 1) (N := L) (by omega) (by omega)) dL_law_1143 ?_
  refine c_goi hS hFy (va_runV (As := [.int (xs (nI (i + 1)).toNatClampNeg)]) (rest := []) ⟨hx, hb, hml, hown, hts⟩ (h_law_X9 l D g σy (zE ev σy) zE_ok My Ny Ry y gy ((xs (nI (i + 1)).toNatClampNeg)) cw) (cwV 1 hts gL_law_X9_law rfl rfl rfl (by decide +kernel) ⟨Nat.le_of_ble_eq_true rfl, Nat.le_of_ble_eq_true rfl⟩) (c_preV hK hE hS hFy wy1 ty gy (by decide) rfl) rfl rfl hl.1 rfl (lv_room (Nat.le_of_ble_eq_true rfl)) dL_law_1144 ⟨Nat.le_of_ble_eq_true rfl, Nat.le_of_ble_eq_true rfl⟩) (fun r2 My2 Ny2 Ry2 H locs q2 z2 w2 t2 hk2 hS => ?_)
  obtain ⟨eN2, eR2⟩ := q2
  subst eN2
  subst eR2
  have wx2 := HW.x w1 hd hk2
  have g2_KV : KV My2 Ry y := KV_ag t2 gy kv (hAd.ag z2 (by decide))
  have g2_HV : HV My2 Ry y := HV_ag t2 gy hv (hAd.ag z2 (by decide))
  have g2_CW : CW My2 Ry y := CW_ag t2 gy cw (hAd.ag z2 (by decide))
  have g2_WV : WV My2 Ry y := WV_ag t2 gy wv (hAd.ag z2 (by decide))
  have g2_BV : BV My2 Ry y := BV_ag t2 gy bv (hAd.ag z2 (by decide))
  have tm2 : My2 y 64 = My y 64 := z2 y 9 64 gy rfl
  refine lv_pop hx hb dL_law_1147 rfl ?_
  refine lv_goto (tgt := 1513) hx hb dL_law_1148 (by decide) ?_
  exact kk _ _ _ ⟨σx, Mx1, Nx, Rx, σy, My2, Ny, Ry, wx2, t1, gx, hd, w2, t2, gy, hFy, g2_KV, g2_HV, g2_CW, g2_WV, g2_BV, ((tm1.trans tm).trans tm2.symm), hS⟩ hl
set_option maxHeartbeats 4000000 in
set_option maxRecDepth 100000 in
theorem law_case_35 {p : Program} {l : Launch} {e : Env} {s : State} {m : MethodId} {below : List Frame} {meth : Method} {c : Code} {D : va_G} {g : Nat → ClassId} {ev : Nat → Nat} {b L i : Nat} {xs : Nat → Int32} {A : Nat → Prop} {x y : Nat} {H : Heap} {locs : List Loc} {ls : Array Slot} (C0 : lwC p s m meth c b L xs A D g ev) (hi : i + 6 ≤ L) (hR : lR D g A s H locs x y) (hl : lv_has ls 4 [(3, .int (nI i)), (2, .ref y), (1, .ref x), (0, .ref b)]) (kk : ∀ (H : Heap) (locs : List Loc) (ls : Array Slot), lR D g A s H locs x y → lv_has ls 4 [(3, .int (nI i)), (2, .ref y), (1, .ref x), (0, .ref b)] → W p l e room_1 s m #[Value.ref b] below meth c H locs 364 18454 (lw_Z below #[Value.ref b] s) (F0 m 1513 ls [])) : W p l e room_1 s m #[Value.ref b] below meth c H locs 364 18454 (lw_Z below #[Value.ref b] s) (F0 m 1151 ls []) := by
  obtain ⟨hx, hb, hr, hml, hown, hts, hX, hbl, hlocks, hA, hAe, hbA, hK, hE, hL⟩ := C0
  have hown : s.vm.findClass RL = some m.cls := hown
  obtain ⟨σx, Mx, Nx, Rx, σy, My, Ny, Ry, wx, tx, gx, hd, wy, ty, gy, hFy, kv, hv, cw, wv, bv, tm, hS⟩ := hR
  have hFx : ∀ q, σx q ≠ none → A q := fun q h => (hd q h).1
  refine lv_aload_n hx hb dL_law_1151 rfl (lv_at hl 2 rfl) ?_
  refine lv_aload_n hx hb dL_law_1152 rfl (lv_at hl 3 rfl) ?_
  refine lv_iload_n hx hb dL_law_1153 rfl (lv_at hl 0 rfl) ?_
  refine lv_iconst (v := 1) hx hb dL_law_1154 (by decide) ?_
  refine lv_iadd hx hb dL_law_1155 ?_
  refine k_top (v := nI (i + 1)) (nI_add i 1) ?_
  refine va_sld hx hb hX hbl hbA hS (vp_in_nI (n := i + 1) (N := L) (by omega) (by omega)) dL_law_1156 ?_
  refine c_goi hS hFx (va_runV (As := [.int (xs (nI (i + 1)).toNatClampNeg)]) (rest := []) ⟨hx, hb, hml, hown, hts⟩ (h_purse_X8 l D g σx (zE ev σx) zE_ok Mx Nx Rx x gx ((xs (nI (i + 1)).toNatClampNeg))) (cwV 1 hts gL_law_X8_purse rfl rfl rfl (by decide +kernel) ⟨Nat.le_of_ble_eq_true rfl, Nat.le_of_ble_eq_true rfl⟩) (c_preV hK hE hS hFx wx tx gx (by decide) rfl) rfl rfl hl.1 rfl (lv_room (Nat.le_of_ble_eq_true rfl)) dL_law_1157 ⟨Nat.le_of_ble_eq_true rfl, Nat.le_of_ble_eq_true rfl⟩) (fun r1 Mx1 Nx1 Rx1 H locs q1 z1 w1 t1 hk1 hS => ?_)
  obtain ⟨eM1, eN1, eR1⟩ := q1
  subst eM1
  subst eN1
  subst eR1
  have wy1 := HW.y wy hd hk1
  refine lv_pop hx hb dL_law_1160 rfl ?_
  refine lv_aload_n hx hb dL_law_1161 rfl (lv_at hl 1 rfl) ?_
  refine lv_aload_n hx hb dL_law_1162 rfl (lv_at hl 3 rfl) ?_
  refine lv_iload_n hx hb dL_law_1163 rfl (lv_at hl 0 rfl) ?_
  refine lv_iconst (v := 1) hx hb dL_law_1164 (by decide) ?_
  refine lv_iadd hx hb dL_law_1165 ?_
  refine k_top (v := nI (i + 1)) (nI_add i 1) ?_
  refine va_sld hx hb hX hbl hbA hS (vp_in_nI (n := i + 1) (N := L) (by omega) (by omega)) dL_law_1166 ?_
  refine c_goi hS hFy (va_runV (As := [.int (xs (nI (i + 1)).toNatClampNeg)]) (rest := []) ⟨hx, hb, hml, hown, hts⟩ (h_purse_X9 l D g σy (zE ev σy) zE_ok My Ny Ry y gy ((xs (nI (i + 1)).toNatClampNeg))) (cwV 1 hts gL_law_X9_purse rfl rfl rfl (by decide +kernel) ⟨Nat.le_of_ble_eq_true rfl, Nat.le_of_ble_eq_true rfl⟩) (c_preV hK hE hS hFy wy1 ty gy (by decide) rfl) rfl rfl hl.1 rfl (lv_room (Nat.le_of_ble_eq_true rfl)) dL_law_1167 ⟨Nat.le_of_ble_eq_true rfl, Nat.le_of_ble_eq_true rfl⟩) (fun r2 My2 Ny2 Ry2 H locs q2 z2 w2 t2 hk2 hS => ?_)
  obtain ⟨eM2, eN2, eR2⟩ := q2
  subst eM2
  subst eN2
  subst eR2
  have wx2 := HW.x w1 hd hk2
  refine lv_pop hx hb dL_law_1170 rfl ?_
  refine lv_goto (tgt := 1513) hx hb dL_law_1171 (by decide) ?_
  exact kk _ _ _ ⟨σx, Mx, Nx, Rx, σy, My, Ny, Ry, wx2, t1, gx, hd, w2, t2, gy, hFy, kv, hv, cw, wv, bv, tm, hS⟩ hl
set_option maxHeartbeats 4000000 in
set_option maxRecDepth 100000 in
theorem law_case_36 {p : Program} {l : Launch} {e : Env} {s : State} {m : MethodId} {below : List Frame} {meth : Method} {c : Code} {D : va_G} {g : Nat → ClassId} {ev : Nat → Nat} {b L i : Nat} {xs : Nat → Int32} {A : Nat → Prop} {x y : Nat} {H : Heap} {locs : List Loc} {ls : Array Slot} (C0 : lwC p s m meth c b L xs A D g ev) (hi : i + 6 ≤ L) (hR : lR D g A s H locs x y) (hl : lv_has ls 4 [(3, .int (nI i)), (2, .ref y), (1, .ref x), (0, .ref b)]) (kk : ∀ (H : Heap) (locs : List Loc) (ls : Array Slot), lR D g A s H locs x y → lv_has ls 4 [(3, .int (nI i)), (2, .ref y), (1, .ref x), (0, .ref b)] → W p l e room_1 s m #[Value.ref b] below meth c H locs 364 18454 (lw_Z below #[Value.ref b] s) (F0 m 1513 ls [])) : W p l e room_1 s m #[Value.ref b] below meth c H locs 364 18454 (lw_Z below #[Value.ref b] s) (F0 m 1174 ls []) := by
  obtain ⟨hx, hb, hr, hml, hown, hts, hX, hbl, hlocks, hA, hAe, hbA, hK, hE, hL⟩ := C0
  have hown : s.vm.findClass RL = some m.cls := hown
  obtain ⟨σx, Mx, Nx, Rx, σy, My, Ny, Ry, wx, tx, gx, hd, wy, ty, gy, hFy, kv, hv, cw, wv, bv, tm, hS⟩ := hR
  have hFx : ∀ q, σx q ≠ none → A q := fun q h => (hd q h).1
  refine lv_aload_n hx hb dL_law_1174 rfl (lv_at hl 2 rfl) ?_
  refine lv_aload_n hx hb dL_law_1175 rfl (lv_at hl 3 rfl) ?_
  refine lv_iload_n hx hb dL_law_1176 rfl (lv_at hl 0 rfl) ?_
  refine lv_iconst (v := 1) hx hb dL_law_1177 (by decide) ?_
  refine lv_iadd hx hb dL_law_1178 ?_
  refine k_top (v := nI (i + 1)) (nI_add i 1) ?_
  refine va_sld hx hb hX hbl hbA hS (vp_in_nI (n := i + 1) (N := L) (by omega) (by omega)) dL_law_1179 ?_
  refine lv_aload_n hx hb dL_law_1180 rfl (lv_at hl 3 rfl) ?_
  refine lv_iload_n hx hb dL_law_1181 rfl (lv_at hl 0 rfl) ?_
  refine lv_iconst (v := 2) hx hb dL_law_1182 (by decide) ?_
  refine lv_iadd hx hb dL_law_1183 ?_
  refine k_top (v := nI (i + 2)) (nI_add i 2) ?_
  refine va_sld hx hb hX hbl hbA hS (vp_in_nI (n := i + 2) (N := L) (by omega) (by omega)) dL_law_1184 ?_
  refine lv_aload_n hx hb dL_law_1185 rfl (lv_at hl 3 rfl) ?_
  refine lv_iload_n hx hb dL_law_1186 rfl (lv_at hl 0 rfl) ?_
  refine lv_iconst (v := 3) hx hb dL_law_1187 (by decide) ?_
  refine lv_iadd hx hb dL_law_1188 ?_
  refine k_top (v := nI (i + 3)) (nI_add i 3) ?_
  refine va_sld hx hb hX hbl hbA hS (vp_in_nI (n := i + 3) (N := L) (by omega) (by omega)) dL_law_1189 ?_
  refine c_goi hS hFx (va_runV (As := [.int (xs (nI (i + 1)).toNatClampNeg), .int (xs (nI (i + 2)).toNatClampNeg), .int (xs (nI (i + 3)).toNatClampNeg)]) (rest := []) ⟨hx, hb, hml, hown, hts⟩ (h_odds_X8 l D g σx (zE ev σx) zE_ok Mx Nx Rx x gx ((xs (nI (i + 1)).toNatClampNeg)) ((xs (nI (i + 2)).toNatClampNeg)) ((xs (nI (i + 3)).toNatClampNeg))) (cwV 3 hts gL_law_X8_odds rfl rfl rfl (by decide +kernel) ⟨Nat.le_of_ble_eq_true rfl, Nat.le_of_ble_eq_true rfl⟩) (c_preV hK hE hS hFx wx tx gx (by decide) rfl) rfl rfl hl.1 rfl (lv_room (Nat.le_of_ble_eq_true rfl)) dL_law_1190 ⟨Nat.le_of_ble_eq_true rfl, Nat.le_of_ble_eq_true rfl⟩) (fun r1 Mx1 Nx1 Rx1 H locs q1 z1 w1 t1 hk1 hS => ?_)
  obtain ⟨eM1, eN1, eR1⟩ := q1
  subst eM1
  subst eN1
  subst eR1
  have wy1 := HW.y wy hd hk1
  refine lv_pop hx hb dL_law_1193 rfl ?_
  refine lv_aload_n hx hb dL_law_1194 rfl (lv_at hl 1 rfl) ?_
  refine lv_aload_n hx hb dL_law_1195 rfl (lv_at hl 3 rfl) ?_
  refine lv_iload_n hx hb dL_law_1196 rfl (lv_at hl 0 rfl) ?_
  refine lv_iconst (v := 1) hx hb dL_law_1197 (by decide) ?_
  refine lv_iadd hx hb dL_law_1198 ?_
  refine k_top (v := nI (i + 1)) (nI_add i 1) ?_
  refine va_sld hx hb hX hbl hbA hS (vp_in_nI (n := i + 1) (N := L) (by omega) (by omega)) dL_law_1199 ?_
  refine lv_aload_n hx hb dL_law_1200 rfl (lv_at hl 3 rfl) ?_
  refine lv_iload_n hx hb dL_law_1201 rfl (lv_at hl 0 rfl) ?_
  refine lv_iconst (v := 2) hx hb dL_law_1202 (by decide) ?_
  refine lv_iadd hx hb dL_law_1203 ?_
  refine k_top (v := nI (i + 2)) (nI_add i 2) ?_
  refine va_sld hx hb hX hbl hbA hS (vp_in_nI (n := i + 2) (N := L) (by omega) (by omega)) dL_law_1204 ?_
  refine lv_aload_n hx hb dL_law_1205 rfl (lv_at hl 3 rfl) ?_
  refine lv_iload_n hx hb dL_law_1206 rfl (lv_at hl 0 rfl) ?_
  refine lv_iconst (v := 3) hx hb dL_law_1207 (by decide) ?_
  refine lv_iadd hx hb dL_law_1208 ?_
  refine k_top (v := nI (i + 3)) (nI_add i 3) ?_
  refine va_sld hx hb hX hbl hbA hS (vp_in_nI (n := i + 3) (N := L) (by omega) (by omega)) dL_law_1209 ?_
  refine c_goi hS hFy (va_runV (As := [.int (xs (nI (i + 1)).toNatClampNeg), .int (xs (nI (i + 2)).toNatClampNeg), .int (xs (nI (i + 3)).toNatClampNeg)]) (rest := []) ⟨hx, hb, hml, hown, hts⟩ (h_odds_X9 l D g σy (zE ev σy) zE_ok My Ny Ry y gy ((xs (nI (i + 1)).toNatClampNeg)) ((xs (nI (i + 2)).toNatClampNeg)) ((xs (nI (i + 3)).toNatClampNeg))) (cwV 3 hts gL_law_X9_odds rfl rfl rfl (by decide +kernel) ⟨Nat.le_of_ble_eq_true rfl, Nat.le_of_ble_eq_true rfl⟩) (c_preV hK hE hS hFy wy1 ty gy (by decide) rfl) rfl rfl hl.1 rfl (lv_room (Nat.le_of_ble_eq_true rfl)) dL_law_1210 ⟨Nat.le_of_ble_eq_true rfl, Nat.le_of_ble_eq_true rfl⟩) (fun r2 My2 Ny2 Ry2 H locs q2 z2 w2 t2 hk2 hS => ?_)
  obtain ⟨eM2, eN2, eR2⟩ := q2
  subst eM2
  subst eN2
  subst eR2
  have wx2 := HW.x w1 hd hk2
  refine lv_pop hx hb dL_law_1213 rfl ?_
  refine lv_goto (tgt := 1513) hx hb dL_law_1214 (by decide) ?_
  exact kk _ _ _ ⟨σx, Mx, Nx, Rx, σy, My, Ny, Ry, wx2, t1, gx, hd, w2, t2, gy, hFy, kv, hv, cw, wv, bv, tm, hS⟩ hl
set_option maxHeartbeats 4000000 in
set_option maxRecDepth 100000 in
theorem law_case_37 {p : Program} {l : Launch} {e : Env} {s : State} {m : MethodId} {below : List Frame} {meth : Method} {c : Code} {D : va_G} {g : Nat → ClassId} {ev : Nat → Nat} {b L i : Nat} {xs : Nat → Int32} {A : Nat → Prop} {x y : Nat} {H : Heap} {locs : List Loc} {ls : Array Slot} (C0 : lwC p s m meth c b L xs A D g ev) (hi : i + 6 ≤ L) (hR : lR D g A s H locs x y) (hl : lv_has ls 4 [(3, .int (nI i)), (2, .ref y), (1, .ref x), (0, .ref b)]) (kk : ∀ (H : Heap) (locs : List Loc) (ls : Array Slot), lR D g A s H locs x y → lv_has ls 4 [(3, .int (nI i)), (2, .ref y), (1, .ref x), (0, .ref b)] → W p l e room_1 s m #[Value.ref b] below meth c H locs 364 18454 (lw_Z below #[Value.ref b] s) (F0 m 1513 ls [])) : W p l e room_1 s m #[Value.ref b] below meth c H locs 364 18454 (lw_Z below #[Value.ref b] s) (F0 m 1217 ls []) := by
  obtain ⟨hx, hb, hr, hml, hown, hts, hX, hbl, hlocks, hA, hAe, hbA, hK, hE, hL⟩ := C0
  have hown : s.vm.findClass RL = some m.cls := hown
  obtain ⟨σx, Mx, Nx, Rx, σy, My, Ny, Ry, wx, tx, gx, hd, wy, ty, gy, hFy, kv, hv, cw, wv, bv, tm, hS⟩ := hR
  have hFx : ∀ q, σx q ≠ none → A q := fun q h => (hd q h).1
  refine lv_aload_n hx hb dL_law_1217 rfl (lv_at hl 2 rfl) ?_
  refine lv_aload_n hx hb dL_law_1218 rfl (lv_at hl 3 rfl) ?_
  refine lv_iload_n hx hb dL_law_1219 rfl (lv_at hl 0 rfl) ?_
  refine lv_iconst (v := 1) hx hb dL_law_1220 (by decide) ?_
  refine lv_iadd hx hb dL_law_1221 ?_
  refine k_top (v := nI (i + 1)) (nI_add i 1) ?_
  refine va_sld hx hb hX hbl hbA hS (vp_in_nI (n := i + 1) (N := L) (by omega) (by omega)) dL_law_1222 ?_
  refine c_goi hS hFx (va_runV (As := [.int (xs (nI (i + 1)).toNatClampNeg)]) (rest := []) ⟨hx, hb, hml, hown, hts⟩ (h_lies_X8 l D g σx (zE ev σx) zE_ok Mx Nx Rx x gx ((xs (nI (i + 1)).toNatClampNeg))) (cwV 1 hts gL_law_X8_lies rfl rfl rfl (by decide +kernel) ⟨Nat.le_of_ble_eq_true rfl, Nat.le_of_ble_eq_true rfl⟩) (c_preV hK hE hS hFx wx tx gx (by decide) rfl) rfl rfl hl.1 rfl (lv_room (Nat.le_of_ble_eq_true rfl)) dL_law_1223 ⟨Nat.le_of_ble_eq_true rfl, Nat.le_of_ble_eq_true rfl⟩) (fun r1 Mx1 Nx1 Rx1 H locs q1 z1 w1 t1 hk1 hS => ?_)
  obtain ⟨eM1, eN1, eR1, -⟩ := q1
  subst eM1
  subst eN1
  subst eR1
  have wy1 := HW.y wy hd hk1
  refine lv_pop hx hb dL_law_1226 rfl ?_
  refine lv_aload_n hx hb dL_law_1227 rfl (lv_at hl 1 rfl) ?_
  refine lv_aload_n hx hb dL_law_1228 rfl (lv_at hl 3 rfl) ?_
  refine lv_iload_n hx hb dL_law_1229 rfl (lv_at hl 0 rfl) ?_
  refine lv_iconst (v := 1) hx hb dL_law_1230 (by decide) ?_
  refine lv_iadd hx hb dL_law_1231 ?_
  refine k_top (v := nI (i + 1)) (nI_add i 1) ?_
  refine va_sld hx hb hX hbl hbA hS (vp_in_nI (n := i + 1) (N := L) (by omega) (by omega)) dL_law_1232 ?_
  refine c_goi hS hFy (va_runV (As := [.int (xs (nI (i + 1)).toNatClampNeg)]) (rest := []) ⟨hx, hb, hml, hown, hts⟩ (h_lies_X9 l D g σy (zE ev σy) zE_ok My Ny Ry y gy ((xs (nI (i + 1)).toNatClampNeg))) (cwV 1 hts gL_law_X9_lies rfl rfl rfl (by decide +kernel) ⟨Nat.le_of_ble_eq_true rfl, Nat.le_of_ble_eq_true rfl⟩) (c_preV hK hE hS hFy wy1 ty gy (by decide) rfl) rfl rfl hl.1 rfl (lv_room (Nat.le_of_ble_eq_true rfl)) dL_law_1233 ⟨Nat.le_of_ble_eq_true rfl, Nat.le_of_ble_eq_true rfl⟩) (fun r2 My2 Ny2 Ry2 H locs q2 z2 w2 t2 hk2 hS => ?_)
  obtain ⟨eM2, eN2, eR2⟩ := q2
  subst eM2
  subst eN2
  subst eR2
  have wx2 := HW.x w1 hd hk2
  refine lv_pop hx hb dL_law_1236 rfl ?_
  refine lv_goto (tgt := 1513) hx hb dL_law_1237 (by decide) ?_
  exact kk _ _ _ ⟨σx, Mx, Nx, Rx, σy, My, Ny, Ry, wx2, t1, gx, hd, w2, t2, gy, hFy, kv, hv, cw, wv, bv, tm, hS⟩ hl
set_option maxHeartbeats 4000000 in
set_option maxRecDepth 100000 in
theorem law_case_38 {p : Program} {l : Launch} {e : Env} {s : State} {m : MethodId} {below : List Frame} {meth : Method} {c : Code} {D : va_G} {g : Nat → ClassId} {ev : Nat → Nat} {b L i : Nat} {xs : Nat → Int32} {A : Nat → Prop} {x y : Nat} {H : Heap} {locs : List Loc} {ls : Array Slot} (C0 : lwC p s m meth c b L xs A D g ev) (hi : i + 6 ≤ L) (hR : lR D g A s H locs x y) (hl : lv_has ls 4 [(3, .int (nI i)), (2, .ref y), (1, .ref x), (0, .ref b)]) (kk : ∀ (H : Heap) (locs : List Loc) (ls : Array Slot), lR D g A s H locs x y → lv_has ls 4 [(3, .int (nI i)), (2, .ref y), (1, .ref x), (0, .ref b)] → W p l e room_1 s m #[Value.ref b] below meth c H locs 364 18454 (lw_Z below #[Value.ref b] s) (F0 m 1513 ls [])) : W p l e room_1 s m #[Value.ref b] below meth c H locs 364 18454 (lw_Z below #[Value.ref b] s) (F0 m 1240 ls []) := by
  obtain ⟨hx, hb, hr, hml, hown, hts, hX, hbl, hlocks, hA, hAe, hbA, hK, hE, hL⟩ := C0
  have hown : s.vm.findClass RL = some m.cls := hown
  obtain ⟨σx, Mx, Nx, Rx, σy, My, Ny, Ry, wx, tx, gx, hd, wy, ty, gy, hFy, kv, hv, cw, wv, bv, tm, hS⟩ := hR
  have hFx : ∀ q, σx q ≠ none → A q := fun q h => (hd q h).1
  refine lv_aload_n hx hb dL_law_1240 rfl (lv_at hl 2 rfl) ?_
  refine lv_aload_n hx hb dL_law_1241 rfl (lv_at hl 3 rfl) ?_
  refine lv_iload_n hx hb dL_law_1242 rfl (lv_at hl 0 rfl) ?_
  refine lv_iconst (v := 1) hx hb dL_law_1243 (by decide) ?_
  refine lv_iadd hx hb dL_law_1244 ?_
  refine k_top (v := nI (i + 1)) (nI_add i 1) ?_
  refine va_sld hx hb hX hbl hbA hS (vp_in_nI (n := i + 1) (N := L) (by omega) (by omega)) dL_law_1245 ?_
  refine lv_aload_n hx hb dL_law_1246 rfl (lv_at hl 3 rfl) ?_
  refine lv_iload_n hx hb dL_law_1247 rfl (lv_at hl 0 rfl) ?_
  refine lv_iconst (v := 2) hx hb dL_law_1248 (by decide) ?_
  refine lv_iadd hx hb dL_law_1249 ?_
  refine k_top (v := nI (i + 2)) (nI_add i 2) ?_
  refine va_sld hx hb hX hbl hbA hS (vp_in_nI (n := i + 2) (N := L) (by omega) (by omega)) dL_law_1250 ?_
  refine lv_aload_n hx hb dL_law_1251 rfl (lv_at hl 3 rfl) ?_
  refine lv_iload_n hx hb dL_law_1252 rfl (lv_at hl 0 rfl) ?_
  refine lv_iconst (v := 3) hx hb dL_law_1253 (by decide) ?_
  refine lv_iadd hx hb dL_law_1254 ?_
  refine k_top (v := nI (i + 3)) (nI_add i 3) ?_
  refine va_sld hx hb hX hbl hbA hS (vp_in_nI (n := i + 3) (N := L) (by omega) (by omega)) dL_law_1255 ?_
  refine lv_if_eq (tgt := 1263) hx hb dL_law_1256 (by decide) (fun _ => ?_) (fun _ => ?_)
  · refine lv_iconst (v := 0) hx hb dL_law_1263 (by decide) ?_
    refine c_goi hS hFx (va_runV (As := [.int (xs (nI (i + 1)).toNatClampNeg), .int (xs (nI (i + 2)).toNatClampNeg), .int 0]) (rest := []) ⟨hx, hb, hml, hown, hts⟩ (h_seen_X8 l D g σx (zE ev σx) zE_ok Mx Nx Rx x gx ((xs (nI (i + 1)).toNatClampNeg)) ((xs (nI (i + 2)).toNatClampNeg)) (0) ⟨by decide, by decide⟩) (cwV 3 hts gL_law_X8_seen rfl rfl rfl (by decide +kernel) ⟨Nat.le_of_ble_eq_true rfl, Nat.le_of_ble_eq_true rfl⟩) (c_preV hK hE hS hFx wx tx gx (by decide) rfl) rfl rfl hl.1 rfl (lv_room (Nat.le_of_ble_eq_true rfl)) dL_law_1264 ⟨Nat.le_of_ble_eq_true rfl, Nat.le_of_ble_eq_true rfl⟩) (fun r1 Mx1 Nx1 Rx1 H locs q1 z1 w1 t1 hk1 hS => ?_)
    obtain ⟨eN1, eR1, -⟩ := q1
    subst eN1
    subst eR1
    have wy1 := HW.y wy hd hk1
    have tm1 : Mx1 x 13 = Mx x 13 := z1 x 8 13 gx rfl
    refine lv_pop hx hb dL_law_1267 rfl ?_
    refine lv_aload_n hx hb dL_law_1268 rfl (lv_at hl 1 rfl) ?_
    refine lv_aload_n hx hb dL_law_1269 rfl (lv_at hl 3 rfl) ?_
    refine lv_iload_n hx hb dL_law_1270 rfl (lv_at hl 0 rfl) ?_
    refine lv_iconst (v := 1) hx hb dL_law_1271 (by decide) ?_
    refine lv_iadd hx hb dL_law_1272 ?_
    refine k_top (v := nI (i + 1)) (nI_add i 1) ?_
    refine va_sld hx hb hX hbl hbA hS (vp_in_nI (n := i + 1) (N := L) (by omega) (by omega)) dL_law_1273 ?_
    refine lv_aload_n hx hb dL_law_1274 rfl (lv_at hl 3 rfl) ?_
    refine lv_iload_n hx hb dL_law_1275 rfl (lv_at hl 0 rfl) ?_
    refine lv_iconst (v := 2) hx hb dL_law_1276 (by decide) ?_
    refine lv_iadd hx hb dL_law_1277 ?_
    refine k_top (v := nI (i + 2)) (nI_add i 2) ?_
    refine va_sld hx hb hX hbl hbA hS (vp_in_nI (n := i + 2) (N := L) (by omega) (by omega)) dL_law_1278 ?_
    refine lv_aload_n hx hb dL_law_1279 rfl (lv_at hl 3 rfl) ?_
    refine lv_iload_n hx hb dL_law_1280 rfl (lv_at hl 0 rfl) ?_
    refine lv_iconst (v := 3) hx hb dL_law_1281 (by decide) ?_
    refine lv_iadd hx hb dL_law_1282 ?_
    refine k_top (v := nI (i + 3)) (nI_add i 3) ?_
    refine va_sld hx hb hX hbl hbA hS (vp_in_nI (n := i + 3) (N := L) (by omega) (by omega)) dL_law_1283 ?_
    refine lv_if_eq (tgt := 1291) hx hb dL_law_1284 (by decide) (fun _ => ?_) (fun _ => ?_)
    · refine lv_iconst (v := 0) hx hb dL_law_1291 (by decide) ?_
      refine c_goi hS hFy (va_runV (As := [.int (xs (nI (i + 1)).toNatClampNeg), .int (xs (nI (i + 2)).toNatClampNeg), .int 0]) (rest := []) ⟨hx, hb, hml, hown, hts⟩ (h_seen_X9 l D g σy (zE ev σy) zE_ok My Ny Ry y gy ((xs (nI (i + 1)).toNatClampNeg)) ((xs (nI (i + 2)).toNatClampNeg)) (0) ⟨by decide, by decide⟩) (cwV 3 hts gL_law_X9_seen rfl rfl rfl (by decide +kernel) ⟨Nat.le_of_ble_eq_true rfl, Nat.le_of_ble_eq_true rfl⟩) (c_preV hK hE hS hFy wy1 ty gy (by decide) rfl) rfl rfl hl.1 rfl (lv_room (Nat.le_of_ble_eq_true rfl)) dL_law_1292 ⟨Nat.le_of_ble_eq_true rfl, Nat.le_of_ble_eq_true rfl⟩) (fun r2 My2 Ny2 Ry2 H locs q2 z2 w2 t2 hk2 hS => ?_)
      obtain ⟨eN2, eR2, -⟩ := q2
      subst eN2
      subst eR2
      have wx2 := HW.x w1 hd hk2
      have g2_KV : KV My2 Ry y := KV_ag t2 gy kv (hAd.ag z2 (by decide))
      have g2_HV : HV My2 Ry y := HV_ag t2 gy hv (hAd.ag z2 (by decide))
      have g2_CW : CW My2 Ry y := CW_ag t2 gy cw (hAd.ag z2 (by decide))
      have g2_WV : WV My2 Ry y := WV_ag t2 gy wv (hAd.ag z2 (by decide))
      have g2_BV : BV My2 Ry y := BV_ag t2 gy bv (hAd.ag z2 (by decide))
      have tm2 : My2 y 64 = My y 64 := z2 y 9 64 gy rfl
      refine lv_pop hx hb dL_law_1295 rfl ?_
      refine lv_goto (tgt := 1513) hx hb dL_law_1296 (by decide) ?_
      exact kk _ _ _ ⟨σx, Mx1, Nx, Rx, σy, My2, Ny, Ry, wx2, t1, gx, hd, w2, t2, gy, hFy, g2_KV, g2_HV, g2_CW, g2_WV, g2_BV, ((tm1.trans tm).trans tm2.symm), hS⟩ hl
    · refine lv_iconst (v := 1) hx hb dL_law_1287 (by decide) ?_
      refine lv_goto (tgt := 1292) hx hb dL_law_1288 (by decide) ?_
      refine c_goi hS hFy (va_runV (As := [.int (xs (nI (i + 1)).toNatClampNeg), .int (xs (nI (i + 2)).toNatClampNeg), .int 1]) (rest := []) ⟨hx, hb, hml, hown, hts⟩ (h_seen_X9 l D g σy (zE ev σy) zE_ok My Ny Ry y gy ((xs (nI (i + 1)).toNatClampNeg)) ((xs (nI (i + 2)).toNatClampNeg)) (1) ⟨by decide, by decide⟩) (cwV 3 hts gL_law_X9_seen rfl rfl rfl (by decide +kernel) ⟨Nat.le_of_ble_eq_true rfl, Nat.le_of_ble_eq_true rfl⟩) (c_preV hK hE hS hFy wy1 ty gy (by decide) rfl) rfl rfl hl.1 rfl (lv_room (Nat.le_of_ble_eq_true rfl)) dL_law_1292 ⟨Nat.le_of_ble_eq_true rfl, Nat.le_of_ble_eq_true rfl⟩) (fun r3 My3 Ny3 Ry3 H locs q3 z3 w3 t3 hk3 hS => ?_)
      obtain ⟨eN3, eR3, -⟩ := q3
      subst eN3
      subst eR3
      have wx3 := HW.x w1 hd hk3
      have g3_KV : KV My3 Ry y := KV_ag t3 gy kv (hAd.ag z3 (by decide))
      have g3_HV : HV My3 Ry y := HV_ag t3 gy hv (hAd.ag z3 (by decide))
      have g3_CW : CW My3 Ry y := CW_ag t3 gy cw (hAd.ag z3 (by decide))
      have g3_WV : WV My3 Ry y := WV_ag t3 gy wv (hAd.ag z3 (by decide))
      have g3_BV : BV My3 Ry y := BV_ag t3 gy bv (hAd.ag z3 (by decide))
      have tm3 : My3 y 64 = My y 64 := z3 y 9 64 gy rfl
      refine lv_pop hx hb dL_law_1295 rfl ?_
      refine lv_goto (tgt := 1513) hx hb dL_law_1296 (by decide) ?_
      exact kk _ _ _ ⟨σx, Mx1, Nx, Rx, σy, My3, Ny, Ry, wx3, t1, gx, hd, w3, t3, gy, hFy, g3_KV, g3_HV, g3_CW, g3_WV, g3_BV, ((tm1.trans tm).trans tm3.symm), hS⟩ hl
  · refine lv_iconst (v := 1) hx hb dL_law_1259 (by decide) ?_
    refine lv_goto (tgt := 1264) hx hb dL_law_1260 (by decide) ?_
    refine c_goi hS hFx (va_runV (As := [.int (xs (nI (i + 1)).toNatClampNeg), .int (xs (nI (i + 2)).toNatClampNeg), .int 1]) (rest := []) ⟨hx, hb, hml, hown, hts⟩ (h_seen_X8 l D g σx (zE ev σx) zE_ok Mx Nx Rx x gx ((xs (nI (i + 1)).toNatClampNeg)) ((xs (nI (i + 2)).toNatClampNeg)) (1) ⟨by decide, by decide⟩) (cwV 3 hts gL_law_X8_seen rfl rfl rfl (by decide +kernel) ⟨Nat.le_of_ble_eq_true rfl, Nat.le_of_ble_eq_true rfl⟩) (c_preV hK hE hS hFx wx tx gx (by decide) rfl) rfl rfl hl.1 rfl (lv_room (Nat.le_of_ble_eq_true rfl)) dL_law_1264 ⟨Nat.le_of_ble_eq_true rfl, Nat.le_of_ble_eq_true rfl⟩) (fun r4 Mx4 Nx4 Rx4 H locs q4 z4 w4 t4 hk4 hS => ?_)
    obtain ⟨eN4, eR4, -⟩ := q4
    subst eN4
    subst eR4
    have wy4 := HW.y wy hd hk4
    have tm4 : Mx4 x 13 = Mx x 13 := z4 x 8 13 gx rfl
    refine lv_pop hx hb dL_law_1267 rfl ?_
    refine lv_aload_n hx hb dL_law_1268 rfl (lv_at hl 1 rfl) ?_
    refine lv_aload_n hx hb dL_law_1269 rfl (lv_at hl 3 rfl) ?_
    refine lv_iload_n hx hb dL_law_1270 rfl (lv_at hl 0 rfl) ?_
    refine lv_iconst (v := 1) hx hb dL_law_1271 (by decide) ?_
    refine lv_iadd hx hb dL_law_1272 ?_
    refine k_top (v := nI (i + 1)) (nI_add i 1) ?_
    refine va_sld hx hb hX hbl hbA hS (vp_in_nI (n := i + 1) (N := L) (by omega) (by omega)) dL_law_1273 ?_
    refine lv_aload_n hx hb dL_law_1274 rfl (lv_at hl 3 rfl) ?_
    refine lv_iload_n hx hb dL_law_1275 rfl (lv_at hl 0 rfl) ?_
    refine lv_iconst (v := 2) hx hb dL_law_1276 (by decide) ?_
    refine lv_iadd hx hb dL_law_1277 ?_
    refine k_top (v := nI (i + 2)) (nI_add i 2) ?_
    refine va_sld hx hb hX hbl hbA hS (vp_in_nI (n := i + 2) (N := L) (by omega) (by omega)) dL_law_1278 ?_
    refine lv_aload_n hx hb dL_law_1279 rfl (lv_at hl 3 rfl) ?_
    refine lv_iload_n hx hb dL_law_1280 rfl (lv_at hl 0 rfl) ?_
    refine lv_iconst (v := 3) hx hb dL_law_1281 (by decide) ?_
    refine lv_iadd hx hb dL_law_1282 ?_
    refine k_top (v := nI (i + 3)) (nI_add i 3) ?_
    refine va_sld hx hb hX hbl hbA hS (vp_in_nI (n := i + 3) (N := L) (by omega) (by omega)) dL_law_1283 ?_
    refine lv_if_eq (tgt := 1291) hx hb dL_law_1284 (by decide) (fun _ => ?_) (fun _ => ?_)
    · refine lv_iconst (v := 0) hx hb dL_law_1291 (by decide) ?_
      refine c_goi hS hFy (va_runV (As := [.int (xs (nI (i + 1)).toNatClampNeg), .int (xs (nI (i + 2)).toNatClampNeg), .int 0]) (rest := []) ⟨hx, hb, hml, hown, hts⟩ (h_seen_X9 l D g σy (zE ev σy) zE_ok My Ny Ry y gy ((xs (nI (i + 1)).toNatClampNeg)) ((xs (nI (i + 2)).toNatClampNeg)) (0) ⟨by decide, by decide⟩) (cwV 3 hts gL_law_X9_seen rfl rfl rfl (by decide +kernel) ⟨Nat.le_of_ble_eq_true rfl, Nat.le_of_ble_eq_true rfl⟩) (c_preV hK hE hS hFy wy4 ty gy (by decide) rfl) rfl rfl hl.1 rfl (lv_room (Nat.le_of_ble_eq_true rfl)) dL_law_1292 ⟨Nat.le_of_ble_eq_true rfl, Nat.le_of_ble_eq_true rfl⟩) (fun r5 My5 Ny5 Ry5 H locs q5 z5 w5 t5 hk5 hS => ?_)
      obtain ⟨eN5, eR5, -⟩ := q5
      subst eN5
      subst eR5
      have wx5 := HW.x w4 hd hk5
      have g5_KV : KV My5 Ry y := KV_ag t5 gy kv (hAd.ag z5 (by decide))
      have g5_HV : HV My5 Ry y := HV_ag t5 gy hv (hAd.ag z5 (by decide))
      have g5_CW : CW My5 Ry y := CW_ag t5 gy cw (hAd.ag z5 (by decide))
      have g5_WV : WV My5 Ry y := WV_ag t5 gy wv (hAd.ag z5 (by decide))
      have g5_BV : BV My5 Ry y := BV_ag t5 gy bv (hAd.ag z5 (by decide))
      have tm5 : My5 y 64 = My y 64 := z5 y 9 64 gy rfl
      refine lv_pop hx hb dL_law_1295 rfl ?_
      refine lv_goto (tgt := 1513) hx hb dL_law_1296 (by decide) ?_
      exact kk _ _ _ ⟨σx, Mx4, Nx, Rx, σy, My5, Ny, Ry, wx5, t4, gx, hd, w5, t5, gy, hFy, g5_KV, g5_HV, g5_CW, g5_WV, g5_BV, ((tm4.trans tm).trans tm5.symm), hS⟩ hl
    · refine lv_iconst (v := 1) hx hb dL_law_1287 (by decide) ?_
      refine lv_goto (tgt := 1292) hx hb dL_law_1288 (by decide) ?_
      refine c_goi hS hFy (va_runV (As := [.int (xs (nI (i + 1)).toNatClampNeg), .int (xs (nI (i + 2)).toNatClampNeg), .int 1]) (rest := []) ⟨hx, hb, hml, hown, hts⟩ (h_seen_X9 l D g σy (zE ev σy) zE_ok My Ny Ry y gy ((xs (nI (i + 1)).toNatClampNeg)) ((xs (nI (i + 2)).toNatClampNeg)) (1) ⟨by decide, by decide⟩) (cwV 3 hts gL_law_X9_seen rfl rfl rfl (by decide +kernel) ⟨Nat.le_of_ble_eq_true rfl, Nat.le_of_ble_eq_true rfl⟩) (c_preV hK hE hS hFy wy4 ty gy (by decide) rfl) rfl rfl hl.1 rfl (lv_room (Nat.le_of_ble_eq_true rfl)) dL_law_1292 ⟨Nat.le_of_ble_eq_true rfl, Nat.le_of_ble_eq_true rfl⟩) (fun r6 My6 Ny6 Ry6 H locs q6 z6 w6 t6 hk6 hS => ?_)
      obtain ⟨eN6, eR6, -⟩ := q6
      subst eN6
      subst eR6
      have wx6 := HW.x w4 hd hk6
      have g6_KV : KV My6 Ry y := KV_ag t6 gy kv (hAd.ag z6 (by decide))
      have g6_HV : HV My6 Ry y := HV_ag t6 gy hv (hAd.ag z6 (by decide))
      have g6_CW : CW My6 Ry y := CW_ag t6 gy cw (hAd.ag z6 (by decide))
      have g6_WV : WV My6 Ry y := WV_ag t6 gy wv (hAd.ag z6 (by decide))
      have g6_BV : BV My6 Ry y := BV_ag t6 gy bv (hAd.ag z6 (by decide))
      have tm6 : My6 y 64 = My y 64 := z6 y 9 64 gy rfl
      refine lv_pop hx hb dL_law_1295 rfl ?_
      refine lv_goto (tgt := 1513) hx hb dL_law_1296 (by decide) ?_
      exact kk _ _ _ ⟨σx, Mx4, Nx, Rx, σy, My6, Ny, Ry, wx6, t4, gx, hd, w6, t6, gy, hFy, g6_KV, g6_HV, g6_CW, g6_WV, g6_BV, ((tm4.trans tm).trans tm6.symm), hS⟩ hl
set_option maxHeartbeats 4000000 in
set_option maxRecDepth 100000 in
theorem law_case_39 {p : Program} {l : Launch} {e : Env} {s : State} {m : MethodId} {below : List Frame} {meth : Method} {c : Code} {D : va_G} {g : Nat → ClassId} {ev : Nat → Nat} {b L i : Nat} {xs : Nat → Int32} {A : Nat → Prop} {x y : Nat} {H : Heap} {locs : List Loc} {ls : Array Slot} (C0 : lwC p s m meth c b L xs A D g ev) (hi : i + 6 ≤ L) (hR : lR D g A s H locs x y) (hl : lv_has ls 4 [(3, .int (nI i)), (2, .ref y), (1, .ref x), (0, .ref b)]) (kk : ∀ (H : Heap) (locs : List Loc) (ls : Array Slot), lR D g A s H locs x y → lv_has ls 4 [(3, .int (nI i)), (2, .ref y), (1, .ref x), (0, .ref b)] → W p l e room_1 s m #[Value.ref b] below meth c H locs 364 18454 (lw_Z below #[Value.ref b] s) (F0 m 1513 ls [])) : W p l e room_1 s m #[Value.ref b] below meth c H locs 364 18454 (lw_Z below #[Value.ref b] s) (F0 m 1299 ls []) := by
  obtain ⟨hx, hb, hr, hml, hown, hts, hX, hbl, hlocks, hA, hAe, hbA, hK, hE, hL⟩ := C0
  have hown : s.vm.findClass RL = some m.cls := hown
  obtain ⟨σx, Mx, Nx, Rx, σy, My, Ny, Ry, wx, tx, gx, hd, wy, ty, gy, hFy, kv, hv, cw, wv, bv, tm, hS⟩ := hR
  have hFx : ∀ q, σx q ≠ none → A q := fun q h => (hd q h).1
  refine lv_aload_n hx hb dL_law_1299 rfl (lv_at hl 2 rfl) ?_
  refine lv_aload_n hx hb dL_law_1300 rfl (lv_at hl 3 rfl) ?_
  refine lv_iload_n hx hb dL_law_1301 rfl (lv_at hl 0 rfl) ?_
  refine lv_iconst (v := 1) hx hb dL_law_1302 (by decide) ?_
  refine lv_iadd hx hb dL_law_1303 ?_
  refine k_top (v := nI (i + 1)) (nI_add i 1) ?_
  refine va_sld hx hb hX hbl hbA hS (vp_in_nI (n := i + 1) (N := L) (by omega) (by omega)) dL_law_1304 ?_
  refine c_goi hS hFx (va_runV (As := [.int (xs (nI (i + 1)).toNatClampNeg)]) (rest := []) ⟨hx, hb, hml, hown, hts⟩ (h_untell_X8 l D g σx (zE ev σx) zE_ok Mx Nx Rx x gx ((xs (nI (i + 1)).toNatClampNeg))) (cwV 1 hts gL_law_X8_untell rfl rfl rfl (by decide +kernel) ⟨Nat.le_of_ble_eq_true rfl, Nat.le_of_ble_eq_true rfl⟩) (c_preV hK hE hS hFx wx tx gx (by decide) rfl) rfl rfl hl.1 rfl (lv_room (Nat.le_of_ble_eq_true rfl)) dL_law_1305 ⟨Nat.le_of_ble_eq_true rfl, Nat.le_of_ble_eq_true rfl⟩) (fun r1 Mx1 Nx1 Rx1 H locs q1 z1 w1 t1 hk1 hS => ?_)
  obtain ⟨eN1, eR1, -, -⟩ := q1
  subst eN1
  subst eR1
  have wy1 := HW.y wy hd hk1
  have tm1 : Mx1 x 13 = Mx x 13 := z1 x 8 13 gx rfl
  refine lv_pop hx hb dL_law_1308 rfl ?_
  refine lv_aload_n hx hb dL_law_1309 rfl (lv_at hl 1 rfl) ?_
  refine lv_aload_n hx hb dL_law_1310 rfl (lv_at hl 3 rfl) ?_
  refine lv_iload_n hx hb dL_law_1311 rfl (lv_at hl 0 rfl) ?_
  refine lv_iconst (v := 1) hx hb dL_law_1312 (by decide) ?_
  refine lv_iadd hx hb dL_law_1313 ?_
  refine k_top (v := nI (i + 1)) (nI_add i 1) ?_
  refine va_sld hx hb hX hbl hbA hS (vp_in_nI (n := i + 1) (N := L) (by omega) (by omega)) dL_law_1314 ?_
  refine c_goi hS hFy (va_runV (As := [.int (xs (nI (i + 1)).toNatClampNeg)]) (rest := []) ⟨hx, hb, hml, hown, hts⟩ (h_untell_X9 l D g σy (zE ev σy) zE_ok My Ny Ry y gy ((xs (nI (i + 1)).toNatClampNeg))) (cwV 1 hts gL_law_X9_untell rfl rfl rfl (by decide +kernel) ⟨Nat.le_of_ble_eq_true rfl, Nat.le_of_ble_eq_true rfl⟩) (c_preV hK hE hS hFy wy1 ty gy (by decide) rfl) rfl rfl hl.1 rfl (lv_room (Nat.le_of_ble_eq_true rfl)) dL_law_1315 ⟨Nat.le_of_ble_eq_true rfl, Nat.le_of_ble_eq_true rfl⟩) (fun r2 My2 Ny2 Ry2 H locs q2 z2 w2 t2 hk2 hS => ?_)
  obtain ⟨eN2, eR2, -, -⟩ := q2
  subst eN2
  subst eR2
  have wx2 := HW.x w1 hd hk2
  have g2_KV : KV My2 Ry y := KV_ag t2 gy kv (hAd.ag z2 (by decide))
  have g2_HV : HV My2 Ry y := HV_ag t2 gy hv (hAd.ag z2 (by decide))
  have g2_CW : CW My2 Ry y := CW_ag t2 gy cw (hAd.ag z2 (by decide))
  have g2_WV : WV My2 Ry y := WV_ag t2 gy wv (hAd.ag z2 (by decide))
  have g2_BV : BV My2 Ry y := BV_ag t2 gy bv (hAd.ag z2 (by decide))
  have tm2 : My2 y 64 = My y 64 := z2 y 9 64 gy rfl
  refine lv_pop hx hb dL_law_1318 rfl ?_
  refine lv_goto (tgt := 1513) hx hb dL_law_1319 (by decide) ?_
  exact kk _ _ _ ⟨σx, Mx1, Nx, Rx, σy, My2, Ny, Ry, wx2, t1, gx, hd, w2, t2, gy, hFy, g2_KV, g2_HV, g2_CW, g2_WV, g2_BV, ((tm1.trans tm).trans tm2.symm), hS⟩ hl
set_option maxHeartbeats 4000000 in
set_option maxRecDepth 100000 in
theorem law_case_40 {p : Program} {l : Launch} {e : Env} {s : State} {m : MethodId} {below : List Frame} {meth : Method} {c : Code} {D : va_G} {g : Nat → ClassId} {ev : Nat → Nat} {b L i : Nat} {xs : Nat → Int32} {A : Nat → Prop} {x y : Nat} {H : Heap} {locs : List Loc} {ls : Array Slot} (C0 : lwC p s m meth c b L xs A D g ev) (hi : i + 6 ≤ L) (hR : lR D g A s H locs x y) (hl : lv_has ls 4 [(3, .int (nI i)), (2, .ref y), (1, .ref x), (0, .ref b)]) (kk : ∀ (H : Heap) (locs : List Loc) (ls : Array Slot), lR D g A s H locs x y → lv_has ls 4 [(3, .int (nI i)), (2, .ref y), (1, .ref x), (0, .ref b)] → W p l e room_1 s m #[Value.ref b] below meth c H locs 364 18454 (lw_Z below #[Value.ref b] s) (F0 m 1513 ls [])) : W p l e room_1 s m #[Value.ref b] below meth c H locs 364 18454 (lw_Z below #[Value.ref b] s) (F0 m 1322 ls []) := by
  obtain ⟨hx, hb, hr, hml, hown, hts, hX, hbl, hlocks, hA, hAe, hbA, hK, hE, hL⟩ := C0
  have hown : s.vm.findClass RL = some m.cls := hown
  obtain ⟨σx, Mx, Nx, Rx, σy, My, Ny, Ry, wx, tx, gx, hd, wy, ty, gy, hFy, kv, hv, cw, wv, bv, tm, hS⟩ := hR
  have hFx : ∀ q, σx q ≠ none → A q := fun q h => (hd q h).1
  refine lv_aload_n hx hb dL_law_1322 rfl (lv_at hl 2 rfl) ?_
  refine lv_aload_n hx hb dL_law_1323 rfl (lv_at hl 3 rfl) ?_
  refine lv_iload_n hx hb dL_law_1324 rfl (lv_at hl 0 rfl) ?_
  refine lv_iconst (v := 1) hx hb dL_law_1325 (by decide) ?_
  refine lv_iadd hx hb dL_law_1326 ?_
  refine k_top (v := nI (i + 1)) (nI_add i 1) ?_
  refine va_sld hx hb hX hbl hbA hS (vp_in_nI (n := i + 1) (N := L) (by omega) (by omega)) dL_law_1327 ?_
  refine c_goi hS hFx (va_runV (As := [.int (xs (nI (i + 1)).toNatClampNeg)]) (rest := []) ⟨hx, hb, hml, hown, hts⟩ (h_laterV_X8 l D g σx (zE ev σx) zE_ok Mx Nx Rx x gx ((xs (nI (i + 1)).toNatClampNeg))) (cwV 1 hts gL_law_X8_later rfl rfl rfl (by decide +kernel) ⟨Nat.le_of_ble_eq_true rfl, Nat.le_of_ble_eq_true rfl⟩) (c_preV hK hE hS hFx wx tx gx (by decide) rfl) rfl rfl hl.1 rfl (lv_room (Nat.le_of_ble_eq_true rfl)) dL_law_1328 ⟨Nat.le_of_ble_eq_true rfl, Nat.le_of_ble_eq_true rfl⟩) (fun r1 Mx1 Nx1 Rx1 H locs q1 z1 w1 t1 hk1 hS => ?_)
  obtain ⟨eN1, eR1, -, lt1⟩ := q1
  subst eN1
  subst eR1
  have wy1 := HW.y wy hd hk1
  refine lv_aload_n hx hb dL_law_1331 rfl (lv_at hl 1 rfl) ?_
  refine lv_aload_n hx hb dL_law_1332 rfl (lv_at hl 3 rfl) ?_
  refine lv_iload_n hx hb dL_law_1333 rfl (lv_at hl 0 rfl) ?_
  refine lv_iconst (v := 1) hx hb dL_law_1334 (by decide) ?_
  refine lv_iadd hx hb dL_law_1335 ?_
  refine k_top (v := nI (i + 1)) (nI_add i 1) ?_
  refine va_sld hx hb hX hbl hbA hS (vp_in_nI (n := i + 1) (N := L) (by omega) (by omega)) dL_law_1336 ?_
  refine c_goi hS hFy (va_runV (As := [.int (xs (nI (i + 1)).toNatClampNeg)]) (rest := [.int r1]) ⟨hx, hb, hml, hown, hts⟩ (h_laterV_X9 l D g σy (zE ev σy) zE_ok My Ny Ry y gy ((xs (nI (i + 1)).toNatClampNeg))) (cwV 1 hts gL_law_X9_later rfl rfl rfl (by decide +kernel) ⟨Nat.le_of_ble_eq_true rfl, Nat.le_of_ble_eq_true rfl⟩) (c_preV hK hE hS hFy wy1 ty gy (by decide) rfl) rfl rfl hl.1 rfl (lv_room (Nat.le_of_ble_eq_true rfl)) dL_law_1337 ⟨Nat.le_of_ble_eq_true rfl, Nat.le_of_ble_eq_true rfl⟩) (fun r2 My2 Ny2 Ry2 H locs q2 z2 w2 t2 hk2 hS => ?_)
  obtain ⟨eN2, eR2, -, lt2⟩ := q2
  subst eN2
  subst eR2
  have wx2 := HW.x w1 hd hk2
  have g2_KV : KV My2 Ry y := KV_ag t2 gy kv (hAd.ag z2 (by decide))
  have g2_HV : HV My2 Ry y := HV_ag t2 gy hv (hAd.ag z2 (by decide))
  have g2_CW : CW My2 Ry y := CW_ag t2 gy cw (hAd.ag z2 (by decide))
  have g2_WV : WV My2 Ry y := WV_ag t2 gy wv (hAd.ag z2 (by decide))
  have g2_BV : BV My2 Ry y := BV_ag t2 gy bv (hAd.ag z2 (by decide))
  have lt9 := LT_fn lt1 (by rw [tm]; exact lt2)
  refine lv_icmp_eq (tgt := 1513) hx hb dL_law_1340 (by decide) (fun c9 => ?_) (fun c9 => ?_)
  · exact kk _ _ _ ⟨σx, Mx1, Nx, Rx, σy, My2, Ny, Ry, wx2, t1, gx, hd, w2, t2, gy, hFy, g2_KV, g2_HV, g2_CW, g2_WV, g2_BV, lt9.2, hS⟩ hl
  · exact absurd lt9.1 c9
set_option maxHeartbeats 4000000 in
set_option maxRecDepth 100000 in
theorem law_case_41 {p : Program} {l : Launch} {e : Env} {s : State} {m : MethodId} {below : List Frame} {meth : Method} {c : Code} {D : va_G} {g : Nat → ClassId} {ev : Nat → Nat} {b L i : Nat} {xs : Nat → Int32} {A : Nat → Prop} {x y : Nat} {H : Heap} {locs : List Loc} {ls : Array Slot} (C0 : lwC p s m meth c b L xs A D g ev) (hi : i + 6 ≤ L) (hR : lR D g A s H locs x y) (hl : lv_has ls 4 [(3, .int (nI i)), (2, .ref y), (1, .ref x), (0, .ref b)]) (kk : ∀ (H : Heap) (locs : List Loc) (ls : Array Slot), lR D g A s H locs x y → lv_has ls 4 [(3, .int (nI i)), (2, .ref y), (1, .ref x), (0, .ref b)] → W p l e room_1 s m #[Value.ref b] below meth c H locs 364 18454 (lw_Z below #[Value.ref b] s) (F0 m 1513 ls [])) : W p l e room_1 s m #[Value.ref b] below meth c H locs 364 18454 (lw_Z below #[Value.ref b] s) (F0 m 1345 ls []) := by
  obtain ⟨hx, hb, hr, hml, hown, hts, hX, hbl, hlocks, hA, hAe, hbA, hK, hE, hL⟩ := C0
  have hown : s.vm.findClass RL = some m.cls := hown
  obtain ⟨σx, Mx, Nx, Rx, σy, My, Ny, Ry, wx, tx, gx, hd, wy, ty, gy, hFy, kv, hv, cw, wv, bv, tm, hS⟩ := hR
  have hFx : ∀ q, σx q ≠ none → A q := fun q h => (hd q h).1
  refine lv_aload_n hx hb dL_law_1345 rfl (lv_at hl 2 rfl) ?_
  refine lv_aload_n hx hb dL_law_1346 rfl (lv_at hl 3 rfl) ?_
  refine lv_iload_n hx hb dL_law_1347 rfl (lv_at hl 0 rfl) ?_
  refine lv_iconst (v := 1) hx hb dL_law_1348 (by decide) ?_
  refine lv_iadd hx hb dL_law_1349 ?_
  refine k_top (v := nI (i + 1)) (nI_add i 1) ?_
  refine va_sld hx hb hX hbl hbA hS (vp_in_nI (n := i + 1) (N := L) (by omega) (by omega)) dL_law_1350 ?_
  refine c_goi hS hFx (va_runV (As := [.int (xs (nI (i + 1)).toNatClampNeg)]) (rest := []) ⟨hx, hb, hml, hown, hts⟩ (h_fits_X8 l D g σx (zE ev σx) zE_ok Mx Nx Rx x gx ((xs (nI (i + 1)).toNatClampNeg))) (cwV 1 hts gL_law_X8_fits rfl rfl rfl (by decide +kernel) ⟨Nat.le_of_ble_eq_true rfl, Nat.le_of_ble_eq_true rfl⟩) (c_preV hK hE hS hFx wx tx gx (by decide) rfl) rfl rfl hl.1 rfl (lv_room (Nat.le_of_ble_eq_true rfl)) dL_law_1351 ⟨Nat.le_of_ble_eq_true rfl, Nat.le_of_ble_eq_true rfl⟩) (fun r1 Mx1 Nx1 Rx1 H locs q1 z1 w1 t1 hk1 hS => ?_)
  obtain ⟨eN1, eR1⟩ := q1
  subst eN1
  subst eR1
  have wy1 := HW.y wy hd hk1
  have tm1 : Mx1 x 13 = Mx x 13 := z1 x 8 13 gx rfl
  refine lv_pop hx hb dL_law_1354 rfl ?_
  refine lv_aload_n hx hb dL_law_1355 rfl (lv_at hl 1 rfl) ?_
  refine lv_aload_n hx hb dL_law_1356 rfl (lv_at hl 3 rfl) ?_
  refine lv_iload_n hx hb dL_law_1357 rfl (lv_at hl 0 rfl) ?_
  refine lv_iconst (v := 1) hx hb dL_law_1358 (by decide) ?_
  refine lv_iadd hx hb dL_law_1359 ?_
  refine k_top (v := nI (i + 1)) (nI_add i 1) ?_
  refine va_sld hx hb hX hbl hbA hS (vp_in_nI (n := i + 1) (N := L) (by omega) (by omega)) dL_law_1360 ?_
  refine c_goi hS hFy (va_runV (As := [.int (xs (nI (i + 1)).toNatClampNeg)]) (rest := []) ⟨hx, hb, hml, hown, hts⟩ (h_fits_X9 l D g σy (zE ev σy) zE_ok My Ny Ry y gy ((xs (nI (i + 1)).toNatClampNeg)) kv cw) (cwV 1 hts gL_law_X9_fits rfl rfl rfl (by decide +kernel) ⟨Nat.le_of_ble_eq_true rfl, Nat.le_of_ble_eq_true rfl⟩) (c_preV hK hE hS hFy wy1 ty gy (by decide) rfl) rfl rfl hl.1 rfl (lv_room (Nat.le_of_ble_eq_true rfl)) dL_law_1361 ⟨Nat.le_of_ble_eq_true rfl, Nat.le_of_ble_eq_true rfl⟩) (fun r2 My2 Ny2 Ry2 H locs q2 z2 w2 t2 hk2 hS => ?_)
  obtain ⟨eN2, eR2, f2_KV, -⟩ := q2
  subst eN2
  subst eR2
  have wx2 := HW.x w1 hd hk2
  have g2_HV : HV My2 Ry y := HV_ag t2 gy hv (hAd.ag z2 (by decide))
  have g2_CW : CW My2 Ry y := CW_ag t2 gy cw (hAd.ag z2 (by decide))
  have g2_WV : WV My2 Ry y := WV_ag t2 gy wv (hAd.ag z2 (by decide))
  have g2_BV : BV My2 Ry y := BV_ag t2 gy bv (hAd.ag z2 (by decide))
  have tm2 : My2 y 64 = My y 64 := z2 y 9 64 gy rfl
  refine lv_pop hx hb dL_law_1364 rfl ?_
  refine lv_goto (tgt := 1513) hx hb dL_law_1365 (by decide) ?_
  exact kk _ _ _ ⟨σx, Mx1, Nx, Rx, σy, My2, Ny, Ry, wx2, t1, gx, hd, w2, t2, gy, hFy, f2_KV, g2_HV, g2_CW, g2_WV, g2_BV, ((tm1.trans tm).trans tm2.symm), hS⟩ hl
set_option maxHeartbeats 4000000 in
set_option maxRecDepth 100000 in
theorem law_case_42 {p : Program} {l : Launch} {e : Env} {s : State} {m : MethodId} {below : List Frame} {meth : Method} {c : Code} {D : va_G} {g : Nat → ClassId} {ev : Nat → Nat} {b L i : Nat} {xs : Nat → Int32} {A : Nat → Prop} {x y : Nat} {H : Heap} {locs : List Loc} {ls : Array Slot} (C0 : lwC p s m meth c b L xs A D g ev) (hi : i + 6 ≤ L) (hR : lR D g A s H locs x y) (hl : lv_has ls 4 [(3, .int (nI i)), (2, .ref y), (1, .ref x), (0, .ref b)]) (kk : ∀ (H : Heap) (locs : List Loc) (ls : Array Slot), lR D g A s H locs x y → lv_has ls 4 [(3, .int (nI i)), (2, .ref y), (1, .ref x), (0, .ref b)] → W p l e room_1 s m #[Value.ref b] below meth c H locs 364 18454 (lw_Z below #[Value.ref b] s) (F0 m 1513 ls [])) : W p l e room_1 s m #[Value.ref b] below meth c H locs 364 18454 (lw_Z below #[Value.ref b] s) (F0 m 1368 ls []) := by
  obtain ⟨hx, hb, hr, hml, hown, hts, hX, hbl, hlocks, hA, hAe, hbA, hK, hE, hL⟩ := C0
  have hown : s.vm.findClass RL = some m.cls := hown
  obtain ⟨σx, Mx, Nx, Rx, σy, My, Ny, Ry, wx, tx, gx, hd, wy, ty, gy, hFy, kv, hv, cw, wv, bv, tm, hS⟩ := hR
  have hFx : ∀ q, σx q ≠ none → A q := fun q h => (hd q h).1
  refine lv_aload_n hx hb dL_law_1368 rfl (lv_at hl 2 rfl) ?_
  refine lv_aload_n hx hb dL_law_1369 rfl (lv_at hl 3 rfl) ?_
  refine lv_iload_n hx hb dL_law_1370 rfl (lv_at hl 0 rfl) ?_
  refine lv_iconst (v := 1) hx hb dL_law_1371 (by decide) ?_
  refine lv_iadd hx hb dL_law_1372 ?_
  refine k_top (v := nI (i + 1)) (nI_add i 1) ?_
  refine va_sld hx hb hX hbl hbA hS (vp_in_nI (n := i + 1) (N := L) (by omega) (by omega)) dL_law_1373 ?_
  refine lv_aload_n hx hb dL_law_1374 rfl (lv_at hl 3 rfl) ?_
  refine lv_iload_n hx hb dL_law_1375 rfl (lv_at hl 0 rfl) ?_
  refine lv_iconst (v := 2) hx hb dL_law_1376 (by decide) ?_
  refine lv_iadd hx hb dL_law_1377 ?_
  refine k_top (v := nI (i + 2)) (nI_add i 2) ?_
  refine va_sld hx hb hX hbl hbA hS (vp_in_nI (n := i + 2) (N := L) (by omega) (by omega)) dL_law_1378 ?_
  refine c_goi hS hFx (va_runV (As := [.int (xs (nI (i + 1)).toNatClampNeg), .int (xs (nI (i + 2)).toNatClampNeg)]) (rest := []) ⟨hx, hb, hml, hown, hts⟩ (h_sure_X8 l D g σx (zE ev σx) zE_ok Mx Nx Rx x gx ((xs (nI (i + 1)).toNatClampNeg)) ((xs (nI (i + 2)).toNatClampNeg))) (cwV 2 hts gL_law_X8_sure rfl rfl rfl (by decide +kernel) ⟨Nat.le_of_ble_eq_true rfl, Nat.le_of_ble_eq_true rfl⟩) (c_preV hK hE hS hFx wx tx gx (by decide) rfl) rfl rfl hl.1 rfl (lv_room (Nat.le_of_ble_eq_true rfl)) dL_law_1379 ⟨Nat.le_of_ble_eq_true rfl, Nat.le_of_ble_eq_true rfl⟩) (fun r1 Mx1 Nx1 Rx1 H locs q1 z1 w1 t1 hk1 hS => ?_)
  obtain ⟨eN1, eR1, -⟩ := q1
  subst eN1
  subst eR1
  have wy1 := HW.y wy hd hk1
  have tm1 : Mx1 x 13 = Mx x 13 := z1 x 8 13 gx rfl
  refine lv_pop hx hb dL_law_1382 rfl ?_
  refine lv_aload_n hx hb dL_law_1383 rfl (lv_at hl 1 rfl) ?_
  refine lv_aload_n hx hb dL_law_1384 rfl (lv_at hl 3 rfl) ?_
  refine lv_iload_n hx hb dL_law_1385 rfl (lv_at hl 0 rfl) ?_
  refine lv_iconst (v := 1) hx hb dL_law_1386 (by decide) ?_
  refine lv_iadd hx hb dL_law_1387 ?_
  refine k_top (v := nI (i + 1)) (nI_add i 1) ?_
  refine va_sld hx hb hX hbl hbA hS (vp_in_nI (n := i + 1) (N := L) (by omega) (by omega)) dL_law_1388 ?_
  refine lv_aload_n hx hb dL_law_1389 rfl (lv_at hl 3 rfl) ?_
  refine lv_iload_n hx hb dL_law_1390 rfl (lv_at hl 0 rfl) ?_
  refine lv_iconst (v := 2) hx hb dL_law_1391 (by decide) ?_
  refine lv_iadd hx hb dL_law_1392 ?_
  refine k_top (v := nI (i + 2)) (nI_add i 2) ?_
  refine va_sld hx hb hX hbl hbA hS (vp_in_nI (n := i + 2) (N := L) (by omega) (by omega)) dL_law_1393 ?_
  refine c_goi hS hFy (va_runV (As := [.int (xs (nI (i + 1)).toNatClampNeg), .int (xs (nI (i + 2)).toNatClampNeg)]) (rest := []) ⟨hx, hb, hml, hown, hts⟩ (h_sure_X9 l D g σy (zE ev σy) zE_ok My Ny Ry y gy ((xs (nI (i + 1)).toNatClampNeg)) ((xs (nI (i + 2)).toNatClampNeg)) kv cw) (cwV 2 hts gL_law_X9_sure rfl rfl rfl (by decide +kernel) ⟨Nat.le_of_ble_eq_true rfl, Nat.le_of_ble_eq_true rfl⟩) (c_preV hK hE hS hFy wy1 ty gy (by decide) rfl) rfl rfl hl.1 rfl (lv_room (Nat.le_of_ble_eq_true rfl)) dL_law_1394 ⟨Nat.le_of_ble_eq_true rfl, Nat.le_of_ble_eq_true rfl⟩) (fun r2 My2 Ny2 Ry2 H locs q2 z2 w2 t2 hk2 hS => ?_)
  obtain ⟨eN2, eR2, -, f2_KV⟩ := q2
  subst eN2
  subst eR2
  have wx2 := HW.x w1 hd hk2
  have g2_HV : HV My2 Ry y := HV_ag t2 gy hv (hAd.ag z2 (by decide))
  have g2_CW : CW My2 Ry y := CW_ag t2 gy cw (hAd.ag z2 (by decide))
  have g2_WV : WV My2 Ry y := WV_ag t2 gy wv (hAd.ag z2 (by decide))
  have g2_BV : BV My2 Ry y := BV_ag t2 gy bv (hAd.ag z2 (by decide))
  have tm2 : My2 y 64 = My y 64 := z2 y 9 64 gy rfl
  refine lv_pop hx hb dL_law_1397 rfl ?_
  refine lv_goto (tgt := 1513) hx hb dL_law_1398 (by decide) ?_
  exact kk _ _ _ ⟨σx, Mx1, Nx, Rx, σy, My2, Ny, Ry, wx2, t1, gx, hd, w2, t2, gy, hFy, f2_KV, g2_HV, g2_CW, g2_WV, g2_BV, ((tm1.trans tm).trans tm2.symm), hS⟩ hl
set_option maxHeartbeats 4000000 in
set_option maxRecDepth 100000 in
theorem law_case_43 {p : Program} {l : Launch} {e : Env} {s : State} {m : MethodId} {below : List Frame} {meth : Method} {c : Code} {D : va_G} {g : Nat → ClassId} {ev : Nat → Nat} {b L i : Nat} {xs : Nat → Int32} {A : Nat → Prop} {x y : Nat} {H : Heap} {locs : List Loc} {ls : Array Slot} (C0 : lwC p s m meth c b L xs A D g ev) (hi : i + 6 ≤ L) (hR : lR D g A s H locs x y) (hl : lv_has ls 4 [(3, .int (nI i)), (2, .ref y), (1, .ref x), (0, .ref b)]) (kk : ∀ (H : Heap) (locs : List Loc) (ls : Array Slot), lR D g A s H locs x y → lv_has ls 4 [(3, .int (nI i)), (2, .ref y), (1, .ref x), (0, .ref b)] → W p l e room_1 s m #[Value.ref b] below meth c H locs 364 18454 (lw_Z below #[Value.ref b] s) (F0 m 1513 ls [])) : W p l e room_1 s m #[Value.ref b] below meth c H locs 364 18454 (lw_Z below #[Value.ref b] s) (F0 m 1401 ls []) := by
  obtain ⟨hx, hb, hr, hml, hown, hts, hX, hbl, hlocks, hA, hAe, hbA, hK, hE, hL⟩ := C0
  have hown : s.vm.findClass RL = some m.cls := hown
  obtain ⟨σx, Mx, Nx, Rx, σy, My, Ny, Ry, wx, tx, gx, hd, wy, ty, gy, hFy, kv, hv, cw, wv, bv, tm, hS⟩ := hR
  have hFx : ∀ q, σx q ≠ none → A q := fun q h => (hd q h).1
  refine lv_aload_n hx hb dL_law_1401 rfl (lv_at hl 2 rfl) ?_
  refine lv_aload_n hx hb dL_law_1402 rfl (lv_at hl 3 rfl) ?_
  refine lv_iload_n hx hb dL_law_1403 rfl (lv_at hl 0 rfl) ?_
  refine lv_iconst (v := 1) hx hb dL_law_1404 (by decide) ?_
  refine lv_iadd hx hb dL_law_1405 ?_
  refine k_top (v := nI (i + 1)) (nI_add i 1) ?_
  refine va_sld hx hb hX hbl hbA hS (vp_in_nI (n := i + 1) (N := L) (by omega) (by omega)) dL_law_1406 ?_
  refine lv_aload_n hx hb dL_law_1407 rfl (lv_at hl 3 rfl) ?_
  refine lv_iload_n hx hb dL_law_1408 rfl (lv_at hl 0 rfl) ?_
  refine lv_iconst (v := 2) hx hb dL_law_1409 (by decide) ?_
  refine lv_iadd hx hb dL_law_1410 ?_
  refine k_top (v := nI (i + 2)) (nI_add i 2) ?_
  refine va_sld hx hb hX hbl hbA hS (vp_in_nI (n := i + 2) (N := L) (by omega) (by omega)) dL_law_1411 ?_
  refine lv_aload_n hx hb dL_law_1412 rfl (lv_at hl 3 rfl) ?_
  refine lv_iload_n hx hb dL_law_1413 rfl (lv_at hl 0 rfl) ?_
  refine lv_iconst (v := 3) hx hb dL_law_1414 (by decide) ?_
  refine lv_iadd hx hb dL_law_1415 ?_
  refine k_top (v := nI (i + 3)) (nI_add i 3) ?_
  refine va_sld hx hb hX hbl hbA hS (vp_in_nI (n := i + 3) (N := L) (by omega) (by omega)) dL_law_1416 ?_
  refine c_goi hS hFx (va_runV (As := [.int (xs (nI (i + 1)).toNatClampNeg), .int (xs (nI (i + 2)).toNatClampNeg), .int (xs (nI (i + 3)).toNatClampNeg)]) (rest := []) ⟨hx, hb, hml, hown, hts⟩ (h_ask_X8 l D g σx (zE ev σx) zE_ok Mx Nx Rx x gx ((xs (nI (i + 1)).toNatClampNeg)) ((xs (nI (i + 2)).toNatClampNeg)) ((xs (nI (i + 3)).toNatClampNeg))) (cwV 3 hts gL_law_X8_ask rfl rfl rfl (by decide +kernel) ⟨Nat.le_of_ble_eq_true rfl, Nat.le_of_ble_eq_true rfl⟩) (c_preV hK hE hS hFx wx tx gx (by decide) rfl) rfl rfl hl.1 rfl (lv_room (Nat.le_of_ble_eq_true rfl)) dL_law_1417 ⟨Nat.le_of_ble_eq_true rfl, Nat.le_of_ble_eq_true rfl⟩) (fun r1 Mx1 Nx1 Rx1 H locs q1 z1 w1 t1 hk1 hS => ?_)
  obtain ⟨eN1, eR1⟩ := q1
  subst eN1
  subst eR1
  have wy1 := HW.y wy hd hk1
  have tm1 : Mx1 x 13 = Mx x 13 := z1 x 8 13 gx rfl
  refine lv_pop hx hb dL_law_1420 rfl ?_
  refine lv_aload_n hx hb dL_law_1421 rfl (lv_at hl 1 rfl) ?_
  refine lv_aload_n hx hb dL_law_1422 rfl (lv_at hl 3 rfl) ?_
  refine lv_iload_n hx hb dL_law_1423 rfl (lv_at hl 0 rfl) ?_
  refine lv_iconst (v := 1) hx hb dL_law_1424 (by decide) ?_
  refine lv_iadd hx hb dL_law_1425 ?_
  refine k_top (v := nI (i + 1)) (nI_add i 1) ?_
  refine va_sld hx hb hX hbl hbA hS (vp_in_nI (n := i + 1) (N := L) (by omega) (by omega)) dL_law_1426 ?_
  refine lv_aload_n hx hb dL_law_1427 rfl (lv_at hl 3 rfl) ?_
  refine lv_iload_n hx hb dL_law_1428 rfl (lv_at hl 0 rfl) ?_
  refine lv_iconst (v := 2) hx hb dL_law_1429 (by decide) ?_
  refine lv_iadd hx hb dL_law_1430 ?_
  refine k_top (v := nI (i + 2)) (nI_add i 2) ?_
  refine va_sld hx hb hX hbl hbA hS (vp_in_nI (n := i + 2) (N := L) (by omega) (by omega)) dL_law_1431 ?_
  refine lv_aload_n hx hb dL_law_1432 rfl (lv_at hl 3 rfl) ?_
  refine lv_iload_n hx hb dL_law_1433 rfl (lv_at hl 0 rfl) ?_
  refine lv_iconst (v := 3) hx hb dL_law_1434 (by decide) ?_
  refine lv_iadd hx hb dL_law_1435 ?_
  refine k_top (v := nI (i + 3)) (nI_add i 3) ?_
  refine va_sld hx hb hX hbl hbA hS (vp_in_nI (n := i + 3) (N := L) (by omega) (by omega)) dL_law_1436 ?_
  refine c_goi hS hFy (va_runV (As := [.int (xs (nI (i + 1)).toNatClampNeg), .int (xs (nI (i + 2)).toNatClampNeg), .int (xs (nI (i + 3)).toNatClampNeg)]) (rest := []) ⟨hx, hb, hml, hown, hts⟩ (h_ask_X9 l D g σy (zE ev σy) zE_ok My Ny Ry y gy ((xs (nI (i + 1)).toNatClampNeg)) ((xs (nI (i + 2)).toNatClampNeg)) ((xs (nI (i + 3)).toNatClampNeg)) kv cw) (cwV 3 hts gL_law_X9_ask rfl rfl rfl (by decide +kernel) ⟨Nat.le_of_ble_eq_true rfl, Nat.le_of_ble_eq_true rfl⟩) (c_preV hK hE hS hFy wy1 ty gy (by decide) rfl) rfl rfl hl.1 rfl (lv_room (Nat.le_of_ble_eq_true rfl)) dL_law_1437 ⟨Nat.le_of_ble_eq_true rfl, Nat.le_of_ble_eq_true rfl⟩) (fun r2 My2 Ny2 Ry2 H locs q2 z2 w2 t2 hk2 hS => ?_)
  obtain ⟨eN2, eR2, f2_KV⟩ := q2
  subst eN2
  subst eR2
  have wx2 := HW.x w1 hd hk2
  have g2_HV : HV My2 Ry y := HV_ag t2 gy hv (hAd.ag z2 (by decide))
  have g2_CW : CW My2 Ry y := CW_ag t2 gy cw (hAd.ag z2 (by decide))
  have g2_WV : WV My2 Ry y := WV_ag t2 gy wv (hAd.ag z2 (by decide))
  have g2_BV : BV My2 Ry y := BV_ag t2 gy bv (hAd.ag z2 (by decide))
  have tm2 : My2 y 64 = My y 64 := z2 y 9 64 gy rfl
  refine lv_pop hx hb dL_law_1440 rfl ?_
  refine lv_goto (tgt := 1513) hx hb dL_law_1441 (by decide) ?_
  exact kk _ _ _ ⟨σx, Mx1, Nx, Rx, σy, My2, Ny, Ry, wx2, t1, gx, hd, w2, t2, gy, hFy, f2_KV, g2_HV, g2_CW, g2_WV, g2_BV, ((tm1.trans tm).trans tm2.symm), hS⟩ hl
set_option maxHeartbeats 4000000 in
set_option maxRecDepth 100000 in
theorem law_case_44 {p : Program} {l : Launch} {e : Env} {s : State} {m : MethodId} {below : List Frame} {meth : Method} {c : Code} {D : va_G} {g : Nat → ClassId} {ev : Nat → Nat} {b L i : Nat} {xs : Nat → Int32} {A : Nat → Prop} {x y : Nat} {H : Heap} {locs : List Loc} {ls : Array Slot} (C0 : lwC p s m meth c b L xs A D g ev) (hi : i + 6 ≤ L) (hR : lR D g A s H locs x y) (hl : lv_has ls 4 [(3, .int (nI i)), (2, .ref y), (1, .ref x), (0, .ref b)]) (kk : ∀ (H : Heap) (locs : List Loc) (ls : Array Slot), lR D g A s H locs x y → lv_has ls 4 [(3, .int (nI i)), (2, .ref y), (1, .ref x), (0, .ref b)] → W p l e room_1 s m #[Value.ref b] below meth c H locs 364 18454 (lw_Z below #[Value.ref b] s) (F0 m 1513 ls [])) : W p l e room_1 s m #[Value.ref b] below meth c H locs 364 18454 (lw_Z below #[Value.ref b] s) (F0 m 1444 ls []) := by
  obtain ⟨hx, hb, hr, hml, hown, hts, hX, hbl, hlocks, hA, hAe, hbA, hK, hE, hL⟩ := C0
  have hown : s.vm.findClass RL = some m.cls := hown
  obtain ⟨σx, Mx, Nx, Rx, σy, My, Ny, Ry, wx, tx, gx, hd, wy, ty, gy, hFy, kv, hv, cw, wv, bv, tm, hS⟩ := hR
  have hFx : ∀ q, σx q ≠ none → A q := fun q h => (hd q h).1
  refine lv_aload_n hx hb dL_law_1444 rfl (lv_at hl 2 rfl) ?_
  refine lv_aload_n hx hb dL_law_1445 rfl (lv_at hl 3 rfl) ?_
  refine lv_iload_n hx hb dL_law_1446 rfl (lv_at hl 0 rfl) ?_
  refine lv_iconst (v := 1) hx hb dL_law_1447 (by decide) ?_
  refine lv_iadd hx hb dL_law_1448 ?_
  refine k_top (v := nI (i + 1)) (nI_add i 1) ?_
  refine va_sld hx hb hX hbl hbA hS (vp_in_nI (n := i + 1) (N := L) (by omega) (by omega)) dL_law_1449 ?_
  refine c_goi hS hFx (va_runV (As := [.int (xs (nI (i + 1)).toNatClampNeg)]) (rest := []) ⟨hx, hb, hml, hown, hts⟩ (h_image_X8 l D g σx (zE ev σx) zE_ok Mx Nx Rx x gx ((xs (nI (i + 1)).toNatClampNeg))) (cwV 1 hts gL_law_X8_image rfl rfl rfl (by decide +kernel) ⟨Nat.le_of_ble_eq_true rfl, Nat.le_of_ble_eq_true rfl⟩) (c_preV hK hE hS hFx wx tx gx (by decide) rfl) rfl rfl hl.1 rfl (lv_room (Nat.le_of_ble_eq_true rfl)) dL_law_1450 ⟨Nat.le_of_ble_eq_true rfl, Nat.le_of_ble_eq_true rfl⟩) (fun r1 Mx1 Nx1 Rx1 H locs q1 z1 w1 t1 hk1 hS => ?_)
  obtain ⟨eN1, eR1⟩ := q1
  subst eN1
  subst eR1
  have wy1 := HW.y wy hd hk1
  have tm1 : Mx1 x 13 = Mx x 13 := z1 x 8 13 gx rfl
  refine lv_pop hx hb dL_law_1453 rfl ?_
  refine lv_aload_n hx hb dL_law_1454 rfl (lv_at hl 1 rfl) ?_
  refine lv_aload_n hx hb dL_law_1455 rfl (lv_at hl 3 rfl) ?_
  refine lv_iload_n hx hb dL_law_1456 rfl (lv_at hl 0 rfl) ?_
  refine lv_iconst (v := 1) hx hb dL_law_1457 (by decide) ?_
  refine lv_iadd hx hb dL_law_1458 ?_
  refine k_top (v := nI (i + 1)) (nI_add i 1) ?_
  refine va_sld hx hb hX hbl hbA hS (vp_in_nI (n := i + 1) (N := L) (by omega) (by omega)) dL_law_1459 ?_
  refine c_goi hS hFy (va_runV (As := [.int (xs (nI (i + 1)).toNatClampNeg)]) (rest := []) ⟨hx, hb, hml, hown, hts⟩ (h_image_X9 l D g σy (zE ev σy) zE_ok My Ny Ry y gy ((xs (nI (i + 1)).toNatClampNeg)) kv bv) (cwV 1 hts gL_law_X9_image rfl rfl rfl (by decide +kernel) ⟨Nat.le_of_ble_eq_true rfl, Nat.le_of_ble_eq_true rfl⟩) (c_preV hK hE hS hFy wy1 ty gy (by decide) rfl) rfl rfl hl.1 rfl (lv_room (Nat.le_of_ble_eq_true rfl)) dL_law_1460 ⟨Nat.le_of_ble_eq_true rfl, Nat.le_of_ble_eq_true rfl⟩) (fun r2 My2 Ny2 Ry2 H locs q2 z2 w2 t2 hk2 hS => ?_)
  obtain ⟨eN2, eR2, f2_BV⟩ := q2
  subst eN2
  subst eR2
  have wx2 := HW.x w1 hd hk2
  have g2_KV : KV My2 Ry y := KV_ag t2 gy kv (hAd.ag z2 (by decide))
  have g2_HV : HV My2 Ry y := HV_ag t2 gy hv (hAd.ag z2 (by decide))
  have g2_CW : CW My2 Ry y := CW_ag t2 gy cw (hAd.ag z2 (by decide))
  have g2_WV : WV My2 Ry y := WV_ag t2 gy wv (hAd.ag z2 (by decide))
  have tm2 : My2 y 64 = My y 64 := z2 y 9 64 gy rfl
  refine lv_pop hx hb dL_law_1463 rfl ?_
  refine lv_goto (tgt := 1513) hx hb dL_law_1464 (by decide) ?_
  exact kk _ _ _ ⟨σx, Mx1, Nx, Rx, σy, My2, Ny, Ry, wx2, t1, gx, hd, w2, t2, gy, hFy, g2_KV, g2_HV, g2_CW, g2_WV, f2_BV, ((tm1.trans tm).trans tm2.symm), hS⟩ hl
set_option maxHeartbeats 4000000 in
set_option maxRecDepth 100000 in
theorem law_case_45 {p : Program} {l : Launch} {e : Env} {s : State} {m : MethodId} {below : List Frame} {meth : Method} {c : Code} {D : va_G} {g : Nat → ClassId} {ev : Nat → Nat} {b L i : Nat} {xs : Nat → Int32} {A : Nat → Prop} {x y : Nat} {H : Heap} {locs : List Loc} {ls : Array Slot} (C0 : lwC p s m meth c b L xs A D g ev) (hi : i + 6 ≤ L) (hR : lR D g A s H locs x y) (hl : lv_has ls 4 [(3, .int (nI i)), (2, .ref y), (1, .ref x), (0, .ref b)]) (kk : ∀ (H : Heap) (locs : List Loc) (ls : Array Slot), lR D g A s H locs x y → lv_has ls 4 [(3, .int (nI i)), (2, .ref y), (1, .ref x), (0, .ref b)] → W p l e room_1 s m #[Value.ref b] below meth c H locs 364 18454 (lw_Z below #[Value.ref b] s) (F0 m 1513 ls [])) : W p l e room_1 s m #[Value.ref b] below meth c H locs 364 18454 (lw_Z below #[Value.ref b] s) (F0 m 1467 ls []) := by
  obtain ⟨hx, hb, hr, hml, hown, hts, hX, hbl, hlocks, hA, hAe, hbA, hK, hE, hL⟩ := C0
  have hown : s.vm.findClass RL = some m.cls := hown
  obtain ⟨σx, Mx, Nx, Rx, σy, My, Ny, Ry, wx, tx, gx, hd, wy, ty, gy, hFy, kv, hv, cw, wv, bv, tm, hS⟩ := hR
  have hFx : ∀ q, σx q ≠ none → A q := fun q h => (hd q h).1
  refine lv_aload_n hx hb dL_law_1467 rfl (lv_at hl 2 rfl) ?_
  refine lv_aload_n hx hb dL_law_1468 rfl (lv_at hl 3 rfl) ?_
  refine lv_iload_n hx hb dL_law_1469 rfl (lv_at hl 0 rfl) ?_
  refine lv_iconst (v := 1) hx hb dL_law_1470 (by decide) ?_
  refine lv_iadd hx hb dL_law_1471 ?_
  refine k_top (v := nI (i + 1)) (nI_add i 1) ?_
  refine va_sld hx hb hX hbl hbA hS (vp_in_nI (n := i + 1) (N := L) (by omega) (by omega)) dL_law_1472 ?_
  refine c_goi hS hFx (va_runV (As := [.int (xs (nI (i + 1)).toNatClampNeg)]) (rest := []) ⟨hx, hb, hml, hown, hts⟩ (h_back_X8 l D g σx (zE ev σx) zE_ok Mx Nx Rx x gx ((xs (nI (i + 1)).toNatClampNeg))) (cwV 1 hts gL_law_X8_back rfl rfl rfl (by decide +kernel) ⟨Nat.le_of_ble_eq_true rfl, Nat.le_of_ble_eq_true rfl⟩) (c_preV hK hE hS hFx wx tx gx (by decide) rfl) rfl rfl hl.1 rfl (lv_room (Nat.le_of_ble_eq_true rfl)) dL_law_1473 ⟨Nat.le_of_ble_eq_true rfl, Nat.le_of_ble_eq_true rfl⟩) (fun r1 Mx1 Nx1 Rx1 H locs q1 z1 w1 t1 hk1 hS => ?_)
  obtain ⟨eN1, eR1⟩ := q1
  subst eN1
  subst eR1
  have wy1 := HW.y wy hd hk1
  have tm1 : Mx1 x 13 = Mx x 13 := z1 x 8 13 gx rfl
  refine lv_pop hx hb dL_law_1476 rfl ?_
  refine lv_aload_n hx hb dL_law_1477 rfl (lv_at hl 1 rfl) ?_
  refine lv_aload_n hx hb dL_law_1478 rfl (lv_at hl 3 rfl) ?_
  refine lv_iload_n hx hb dL_law_1479 rfl (lv_at hl 0 rfl) ?_
  refine lv_iconst (v := 1) hx hb dL_law_1480 (by decide) ?_
  refine lv_iadd hx hb dL_law_1481 ?_
  refine k_top (v := nI (i + 1)) (nI_add i 1) ?_
  refine va_sld hx hb hX hbl hbA hS (vp_in_nI (n := i + 1) (N := L) (by omega) (by omega)) dL_law_1482 ?_
  refine c_goi hS hFy (va_runV (As := [.int (xs (nI (i + 1)).toNatClampNeg)]) (rest := []) ⟨hx, hb, hml, hown, hts⟩ (h_back_X9 l D g σy (zE ev σy) zE_ok My Ny Ry y gy ((xs (nI (i + 1)).toNatClampNeg)) kv wv bv) (cwV 1 hts gL_law_X9_back rfl rfl rfl (by decide +kernel) ⟨Nat.le_of_ble_eq_true rfl, Nat.le_of_ble_eq_true rfl⟩) (c_preV hK hE hS hFy wy1 ty gy (by decide) rfl) rfl rfl hl.1 rfl (lv_room (Nat.le_of_ble_eq_true rfl)) dL_law_1483 ⟨Nat.le_of_ble_eq_true rfl, Nat.le_of_ble_eq_true rfl⟩) (fun r2 My2 Ny2 Ry2 H locs q2 z2 w2 t2 hk2 hS => ?_)
  obtain ⟨eN2, eR2, f2_KV, f2_WV⟩ := q2
  subst eN2
  subst eR2
  have wx2 := HW.x w1 hd hk2
  have g2_HV : HV My2 Ry y := HV_ag t2 gy hv (hAd.ag z2 (by decide))
  have g2_CW : CW My2 Ry y := CW_ag t2 gy cw (hAd.ag z2 (by decide))
  have g2_BV : BV My2 Ry y := BV_ag t2 gy bv (hAd.ag z2 (by decide))
  have tm2 : My2 y 64 = My y 64 := z2 y 9 64 gy rfl
  refine lv_pop hx hb dL_law_1486 rfl ?_
  refine lv_goto (tgt := 1513) hx hb dL_law_1487 (by decide) ?_
  exact kk _ _ _ ⟨σx, Mx1, Nx, Rx, σy, My2, Ny, Ry, wx2, t1, gx, hd, w2, t2, gy, hFy, f2_KV, g2_HV, g2_CW, f2_WV, g2_BV, ((tm1.trans tm).trans tm2.symm), hS⟩ hl
set_option maxHeartbeats 4000000 in
set_option maxRecDepth 100000 in
theorem law_case_46 {p : Program} {l : Launch} {e : Env} {s : State} {m : MethodId} {below : List Frame} {meth : Method} {c : Code} {D : va_G} {g : Nat → ClassId} {ev : Nat → Nat} {b L i : Nat} {xs : Nat → Int32} {A : Nat → Prop} {x y : Nat} {H : Heap} {locs : List Loc} {ls : Array Slot} (C0 : lwC p s m meth c b L xs A D g ev) (hi : i + 6 ≤ L) (hR : lR D g A s H locs x y) (hl : lv_has ls 4 [(3, .int (nI i)), (2, .ref y), (1, .ref x), (0, .ref b)]) (kk : ∀ (H : Heap) (locs : List Loc) (ls : Array Slot), lR D g A s H locs x y → lv_has ls 4 [(3, .int (nI i)), (2, .ref y), (1, .ref x), (0, .ref b)] → W p l e room_1 s m #[Value.ref b] below meth c H locs 364 18454 (lw_Z below #[Value.ref b] s) (F0 m 1513 ls [])) : W p l e room_1 s m #[Value.ref b] below meth c H locs 364 18454 (lw_Z below #[Value.ref b] s) (F0 m 1490 ls []) := by
  obtain ⟨hx, hb, hr, hml, hown, hts, hX, hbl, hlocks, hA, hAe, hbA, hK, hE, hL⟩ := C0
  have hown : s.vm.findClass RL = some m.cls := hown
  obtain ⟨σx, Mx, Nx, Rx, σy, My, Ny, Ry, wx, tx, gx, hd, wy, ty, gy, hFy, kv, hv, cw, wv, bv, tm, hS⟩ := hR
  have hFx : ∀ q, σx q ≠ none → A q := fun q h => (hd q h).1
  refine lv_aload_n hx hb dL_law_1490 rfl (lv_at hl 2 rfl) ?_
  refine lv_aload_n hx hb dL_law_1491 rfl (lv_at hl 3 rfl) ?_
  refine lv_iload_n hx hb dL_law_1492 rfl (lv_at hl 0 rfl) ?_
  refine lv_iconst (v := 1) hx hb dL_law_1493 (by decide) ?_
  refine lv_iadd hx hb dL_law_1494 ?_
  refine k_top (v := nI (i + 1)) (nI_add i 1) ?_
  refine va_sld hx hb hX hbl hbA hS (vp_in_nI (n := i + 1) (N := L) (by omega) (by omega)) dL_law_1495 ?_
  refine c_goi hS hFx (va_runV (As := [.int (xs (nI (i + 1)).toNatClampNeg)]) (rest := []) ⟨hx, hb, hml, hown, hts⟩ (h_about_X8 l D g σx (zE ev σx) zE_ok Mx Nx Rx x gx ((xs (nI (i + 1)).toNatClampNeg))) (cwV 1 hts gL_law_X8_about rfl rfl rfl (by decide +kernel) ⟨Nat.le_of_ble_eq_true rfl, Nat.le_of_ble_eq_true rfl⟩) (c_preV hK hE hS hFx wx tx gx (by decide) rfl) rfl rfl hl.1 rfl (lv_room (Nat.le_of_ble_eq_true rfl)) dL_law_1496 ⟨Nat.le_of_ble_eq_true rfl, Nat.le_of_ble_eq_true rfl⟩) (fun r1 Mx1 Nx1 Rx1 H locs q1 z1 w1 t1 hk1 hS => ?_)
  obtain ⟨eM1, eN1, eR1⟩ := q1
  subst eM1
  subst eN1
  subst eR1
  have wy1 := HW.y wy hd hk1
  refine lv_pop hx hb dL_law_1499 rfl ?_
  refine lv_aload_n hx hb dL_law_1500 rfl (lv_at hl 1 rfl) ?_
  refine lv_aload_n hx hb dL_law_1501 rfl (lv_at hl 3 rfl) ?_
  refine lv_iload_n hx hb dL_law_1502 rfl (lv_at hl 0 rfl) ?_
  refine lv_iconst (v := 1) hx hb dL_law_1503 (by decide) ?_
  refine lv_iadd hx hb dL_law_1504 ?_
  refine k_top (v := nI (i + 1)) (nI_add i 1) ?_
  refine va_sld hx hb hX hbl hbA hS (vp_in_nI (n := i + 1) (N := L) (by omega) (by omega)) dL_law_1505 ?_
  refine c_goi hS hFy (va_runV (As := [.int (xs (nI (i + 1)).toNatClampNeg)]) (rest := []) ⟨hx, hb, hml, hown, hts⟩ (h_about_X9 l D g σy (zE ev σy) zE_ok My Ny Ry y gy ((xs (nI (i + 1)).toNatClampNeg))) (cwV 1 hts gL_law_X9_about rfl rfl rfl (by decide +kernel) ⟨Nat.le_of_ble_eq_true rfl, Nat.le_of_ble_eq_true rfl⟩) (c_preV hK hE hS hFy wy1 ty gy (by decide) rfl) rfl rfl hl.1 rfl (lv_room (Nat.le_of_ble_eq_true rfl)) dL_law_1506 ⟨Nat.le_of_ble_eq_true rfl, Nat.le_of_ble_eq_true rfl⟩) (fun r2 My2 Ny2 Ry2 H locs q2 z2 w2 t2 hk2 hS => ?_)
  obtain ⟨eM2, eN2, eR2⟩ := q2
  subst eM2
  subst eN2
  subst eR2
  have wx2 := HW.x w1 hd hk2
  refine lv_pop hx hb dL_law_1509 rfl ?_
  refine lv_goto (tgt := 1513) hx hb dL_law_1510 (by decide) ?_
  exact kk _ _ _ ⟨σx, Mx, Nx, Rx, σy, My, Ny, Ry, wx2, t1, gx, hd, w2, t2, gy, hFy, kv, hv, cw, wv, bv, tm, hS⟩ hl
