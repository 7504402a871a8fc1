set_option maxHeartbeats 4000000 in
set_option maxRecDepth 100000 in
theorem law_case_0 {p : Program} {l : Launch} {e : Env} {s : State} {m : MethodId} {below : List Frame} {meth : Method} {c : Code} {D : va_G} {g : Nat → ClassId} {ev : Nat → Nat} {b L i : Nat} {xs : Nat → Int32} {A : Nat → Prop} {x y : Nat} {H : Heap} {locs : List Loc} {ls : Array Slot} (C0 : lwC p s m meth c b L xs A D g ev) (hi : i + 6 ≤ L) (hR : lR D g A s H locs x y) (hl : lv_has ls 4 [(3, .int (nI i)), (2, .ref y), (1, .ref x), (0, .ref b)]) (kk : ∀ (H : Heap) (locs : List Loc) (ls : Array Slot), lR D g A s H locs x y → lv_has ls 4 [(3, .int (nI i)), (2, .ref y), (1, .ref x), (0, .ref b)] → W p l e room_1 s m #[Value.ref b] below meth c H locs 364 18454 (lw_Z below #[Value.ref b] s) (F0 m 1513 ls [])) : W p l e room_1 s m #[Value.ref b] below meth c H locs 364 18454 (lw_Z below #[Value.ref b] s) (F0 m 236 ls []) := by
  obtain ⟨hx, hb, hr, hml, hown, hts, hX, hbl, hlocks, hA, hAe, hbA, hK, hE, hL⟩ := C0
  have hown : s.vm.findClass RL = some m.cls := hown
  obtain ⟨σx, Mx, Nx, Rx, σy, My, Ny, Ry, wx, tx, gx, hd, wy, ty, gy, hFy, kv, hv, cw, wv, bv, tm, hS⟩ := hR
  have hFx : ∀ q, σx q ≠ none → A q := fun q h => (hd q h).1
  refine lv_aload_n hx hb dL_law_236 rfl (lv_at hl 2 rfl) ?_
  refine lv_aload_n hx hb dL_law_237 rfl (lv_at hl 3 rfl) ?_
  refine lv_iload_n hx hb dL_law_238 rfl (lv_at hl 0 rfl) ?_
  refine lv_iconst (v := 1) hx hb dL_law_239 (by decide) ?_
  refine lv_iadd hx hb dL_law_240 ?_
  refine k_top (v := nI (i + 1)) (nI_add i 1) ?_
  refine va_sld hx hb hX hbl hbA hS (vp_in_nI (n := i + 1) (N := L) (by omega) (by omega)) dL_law_241 ?_
  refine lv_aload_n hx hb dL_law_242 rfl (lv_at hl 3 rfl) ?_
  refine lv_iload_n hx hb dL_law_243 rfl (lv_at hl 0 rfl) ?_
  refine lv_iconst (v := 2) hx hb dL_law_244 (by decide) ?_
  refine lv_iadd hx hb dL_law_245 ?_
  refine k_top (v := nI (i + 2)) (nI_add i 2) ?_
  refine va_sld hx hb hX hbl hbA hS (vp_in_nI (n := i + 2) (N := L) (by omega) (by omega)) dL_law_246 ?_
  refine lv_aload_n hx hb dL_law_247 rfl (lv_at hl 3 rfl) ?_
  refine lv_iload_n hx hb dL_law_248 rfl (lv_at hl 0 rfl) ?_
  refine lv_iconst (v := 3) hx hb dL_law_249 (by decide) ?_
  refine lv_iadd hx hb dL_law_250 ?_
  refine k_top (v := nI (i + 3)) (nI_add i 3) ?_
  refine va_sld hx hb hX hbl hbA hS (vp_in_nI (n := i + 3) (N := L) (by omega) (by omega)) dL_law_251 ?_
  refine lv_aload_n hx hb dL_law_252 rfl (lv_at hl 3 rfl) ?_
  refine lv_iload_n hx hb dL_law_253 rfl (lv_at hl 0 rfl) ?_
  refine lv_iconst (v := 4) hx hb dL_law_254 (by decide) ?_
  refine lv_iadd hx hb dL_law_255 ?_
  refine k_top (v := nI (i + 4)) (nI_add i 4) ?_
  refine va_sld hx hb hX hbl hbA hS (vp_in_nI (n := i + 4) (N := L) (by omega) (by omega)) dL_law_256 ?_
  refine lv_aload_n hx hb dL_law_257 rfl (lv_at hl 3 rfl) ?_
  refine lv_iload_n hx hb dL_law_258 rfl (lv_at hl 0 rfl) ?_
  refine lv_iconst (v := 5) hx hb dL_law_259 (by decide) ?_
  refine lv_iadd hx hb dL_law_260 ?_
  refine k_top (v := nI (i + 5)) (nI_add i 5) ?_
  refine va_sld hx hb hX hbl hbA hS (vp_in_nI (n := i + 5) (N := L) (by omega) (by omega)) dL_law_261 ?_
  refine c_goi hS hFx (va_runV (As := [.int (xs (nI (i + 1)).toNatClampNeg), .int (xs (nI (i + 2)).toNatClampNeg), .int (xs (nI (i + 3)).toNatClampNeg), .int (xs (nI (i + 4)).toNatClampNeg), .int (xs (nI (i + 5)).toNatClampNeg)]) (rest := []) ⟨hx, hb, hml, hown, hts⟩ (h_feed_X8 l D g σx (zE ev σx) zE_ok Mx Nx Rx x gx ((xs (nI (i + 1)).toNatClampNeg)) ((xs (nI (i + 2)).toNatClampNeg)) ((xs (nI (i + 3)).toNatClampNeg)) ((xs (nI (i + 4)).toNatClampNeg)) ((xs (nI (i + 5)).toNatClampNeg))) (cwV 5 hts gL_law_X8_feed rfl rfl rfl (by decide +kernel) ⟨Nat.le_of_ble_eq_true rfl, Nat.le_of_ble_eq_true rfl⟩) (c_preV hK hE hS hFx wx tx gx (by decide) rfl) rfl rfl hl.1 rfl (lv_room (Nat.le_of_ble_eq_true rfl)) dL_law_262 ⟨Nat.le_of_ble_eq_true rfl, Nat.le_of_ble_eq_true rfl⟩) (fun r1 Mx1 Nx1 Rx1 H locs q1 z1 w1 t1 hk1 hS => ?_)
  obtain ⟨eN1, eR1, -⟩ := q1
  subst eN1
  subst eR1
  have wy1 := HW.y wy hd hk1
  have tm1 : Mx1 x 13 = Mx x 13 := z1 x 8 13 gx rfl
  refine lv_pop hx hb dL_law_265 rfl ?_
  refine lv_aload_n hx hb dL_law_266 rfl (lv_at hl 1 rfl) ?_
  refine lv_aload_n hx hb dL_law_267 rfl (lv_at hl 3 rfl) ?_
  refine lv_iload_n hx hb dL_law_268 rfl (lv_at hl 0 rfl) ?_
  refine lv_iconst (v := 1) hx hb dL_law_269 (by decide) ?_
  refine lv_iadd hx hb dL_law_270 ?_
  refine k_top (v := nI (i + 1)) (nI_add i 1) ?_
  refine va_sld hx hb hX hbl hbA hS (vp_in_nI (n := i + 1) (N := L) (by omega) (by omega)) dL_law_271 ?_
  refine lv_aload_n hx hb dL_law_272 rfl (lv_at hl 3 rfl) ?_
  refine lv_iload_n hx hb dL_law_273 rfl (lv_at hl 0 rfl) ?_
  refine lv_iconst (v := 2) hx hb dL_law_274 (by decide) ?_
  refine lv_iadd hx hb dL_law_275 ?_
  refine k_top (v := nI (i + 2)) (nI_add i 2) ?_
  refine va_sld hx hb hX hbl hbA hS (vp_in_nI (n := i + 2) (N := L) (by omega) (by omega)) dL_law_276 ?_
  refine lv_aload_n hx hb dL_law_277 rfl (lv_at hl 3 rfl) ?_
  refine lv_iload_n hx hb dL_law_278 rfl (lv_at hl 0 rfl) ?_
  refine lv_iconst (v := 3) hx hb dL_law_279 (by decide) ?_
  refine lv_iadd hx hb dL_law_280 ?_
  refine k_top (v := nI (i + 3)) (nI_add i 3) ?_
  refine va_sld hx hb hX hbl hbA hS (vp_in_nI (n := i + 3) (N := L) (by omega) (by omega)) dL_law_281 ?_
  refine lv_aload_n hx hb dL_law_282 rfl (lv_at hl 3 rfl) ?_
  refine lv_iload_n hx hb dL_law_283 rfl (lv_at hl 0 rfl) ?_
  refine lv_iconst (v := 4) hx hb dL_law_284 (by decide) ?_
  refine lv_iadd hx hb dL_law_285 ?_
  refine k_top (v := nI (i + 4)) (nI_add i 4) ?_
  refine va_sld hx hb hX hbl hbA hS (vp_in_nI (n := i + 4) (N := L) (by omega) (by omega)) dL_law_286 ?_
  refine lv_aload_n hx hb dL_law_287 rfl (lv_at hl 3 rfl) ?_
  refine lv_iload_n hx hb dL_law_288 rfl (lv_at hl 0 rfl) ?_
  refine lv_iconst (v := 5) hx hb dL_law_289 (by decide) ?_
  refine lv_iadd hx hb dL_law_290 ?_
  refine k_top (v := nI (i + 5)) (nI_add i 5) ?_
  refine va_sld hx hb hX hbl hbA hS (vp_in_nI (n := i + 5) (N := L) (by omega) (by omega)) dL_law_291 ?_
  refine c_goi hS hFy (va_runV (As := [.int (xs (nI (i + 1)).toNatClampNeg), .int (xs (nI (i + 2)).toNatClampNeg), .int (xs (nI (i + 3)).toNatClampNeg), .int (xs (nI (i + 4)).toNatClampNeg), .int (xs (nI (i + 5)).toNatClampNeg)]) (rest := []) ⟨hx, hb, hml, hown, hts⟩ (h_feed_X9 l D g σy (zE ev σy) zE_ok My Ny Ry y gy ((xs (nI (i + 1)).toNatClampNeg)) ((xs (nI (i + 2)).toNatClampNeg)) ((xs (nI (i + 3)).toNatClampNeg)) ((xs (nI (i + 4)).toNatClampNeg)) ((xs (nI (i + 5)).toNatClampNeg))) (cwV 5 hts gL_law_X9_feed rfl rfl rfl (by decide +kernel) ⟨Nat.le_of_ble_eq_true rfl, Nat.le_of_ble_eq_true rfl⟩) (c_preV hK hE hS hFy wy1 ty gy (by decide) rfl) rfl rfl hl.1 rfl (lv_room (Nat.le_of_ble_eq_true rfl)) dL_law_292 ⟨Nat.le_of_ble_eq_true rfl, Nat.le_of_ble_eq_true rfl⟩) (fun r2 My2 Ny2 Ry2 H locs q2 z2 w2 t2 hk2 hS => ?_)
  obtain ⟨eN2, eR2, -⟩ := q2
  subst eN2
  subst eR2
  have wx2 := HW.x w1 hd hk2
  have g2_KV : KV My2 Ry y := KV_ag t2 gy kv (hAd.ag z2 (by decide))
  have g2_HV : HV My2 Ry y := HV_ag t2 gy hv (hAd.ag z2 (by decide))
  have g2_CW : CW My2 Ry y := CW_ag t2 gy cw (hAd.ag z2 (by decide))
  have g2_WV : WV My2 Ry y := WV_ag t2 gy wv (hAd.ag z2 (by decide))
  have g2_BV : BV My2 Ry y := BV_ag t2 gy bv (hAd.ag z2 (by decide))
  have tm2 : My2 y 64 = My y 64 := z2 y 9 64 gy rfl
  refine lv_pop hx hb dL_law_295 rfl ?_
  refine lv_goto (tgt := 1513) hx hb dL_law_296 (by decide) ?_
  exact kk _ _ _ ⟨σx, Mx1, Nx, Rx, σy, My2, Ny, Ry, wx2, t1, gx, hd, w2, t2, gy, hFy, g2_KV, g2_HV, g2_CW, g2_WV, g2_BV, ((tm1.trans tm).trans tm2.symm), hS⟩ hl
set_option maxHeartbeats 4000000 in
set_option maxRecDepth 100000 in
theorem law_case_1 {p : Program} {l : Launch} {e : Env} {s : State} {m : MethodId} {below : List Frame} {meth : Method} {c : Code} {D : va_G} {g : Nat → ClassId} {ev : Nat → Nat} {b L i : Nat} {xs : Nat → Int32} {A : Nat → Prop} {x y : Nat} {H : Heap} {locs : List Loc} {ls : Array Slot} (C0 : lwC p s m meth c b L xs A D g ev) (hi : i + 6 ≤ L) (hR : lR D g A s H locs x y) (hl : lv_has ls 4 [(3, .int (nI i)), (2, .ref y), (1, .ref x), (0, .ref b)]) (kk : ∀ (H : Heap) (locs : List Loc) (ls : Array Slot), lR D g A s H locs x y → lv_has ls 4 [(3, .int (nI i)), (2, .ref y), (1, .ref x), (0, .ref b)] → W p l e room_1 s m #[Value.ref b] below meth c H locs 364 18454 (lw_Z below #[Value.ref b] s) (F0 m 1513 ls [])) : W p l e room_1 s m #[Value.ref b] below meth c H locs 364 18454 (lw_Z below #[Value.ref b] s) (F0 m 299 ls []) := by
  obtain ⟨hx, hb, hr, hml, hown, hts, hX, hbl, hlocks, hA, hAe, hbA, hK, hE, hL⟩ := C0
  have hown : s.vm.findClass RL = some m.cls := hown
  obtain ⟨σx, Mx, Nx, Rx, σy, My, Ny, Ry, wx, tx, gx, hd, wy, ty, gy, hFy, kv, hv, cw, wv, bv, tm, hS⟩ := hR
  have hFx : ∀ q, σx q ≠ none → A q := fun q h => (hd q h).1
  refine lv_aload_n hx hb dL_law_299 rfl (lv_at hl 2 rfl) ?_
  refine lv_aload_n hx hb dL_law_300 rfl (lv_at hl 3 rfl) ?_
  refine lv_iload_n hx hb dL_law_301 rfl (lv_at hl 0 rfl) ?_
  refine lv_iconst (v := 1) hx hb dL_law_302 (by decide) ?_
  refine lv_iadd hx hb dL_law_303 ?_
  refine k_top (v := nI (i + 1)) (nI_add i 1) ?_
  refine va_sld hx hb hX hbl hbA hS (vp_in_nI (n := i + 1) (N := L) (by omega) (by omega)) dL_law_304 ?_
  refine c_goi hS hFx (va_runV (As := [.int (xs (nI (i + 1)).toNatClampNeg)]) (rest := []) ⟨hx, hb, hml, hown, hts⟩ (h_end_X8 l D g σx (zE ev σx) zE_ok Mx Nx Rx x gx ((xs (nI (i + 1)).toNatClampNeg))) (cwV 1 hts gL_law_X8_end rfl rfl rfl (by decide +kernel) ⟨Nat.le_of_ble_eq_true rfl, Nat.le_of_ble_eq_true rfl⟩) (c_preV hK hE hS hFx wx tx gx (by decide) rfl) rfl rfl hl.1 rfl (lv_room (Nat.le_of_ble_eq_true rfl)) dL_law_305 ⟨Nat.le_of_ble_eq_true rfl, Nat.le_of_ble_eq_true rfl⟩) (fun r1 Mx1 Nx1 Rx1 H locs q1 z1 w1 t1 hk1 hS => ?_)
  obtain ⟨eN1, eR1, -⟩ := q1
  subst eN1
  subst eR1
  have wy1 := HW.y wy hd hk1
  have tm1 : Mx1 x 13 = Mx x 13 := z1 x 8 13 gx rfl
  refine lv_pop hx hb dL_law_308 rfl ?_
  refine lv_aload_n hx hb dL_law_309 rfl (lv_at hl 1 rfl) ?_
  refine lv_aload_n hx hb dL_law_310 rfl (lv_at hl 3 rfl) ?_
  refine lv_iload_n hx hb dL_law_311 rfl (lv_at hl 0 rfl) ?_
  refine lv_iconst (v := 1) hx hb dL_law_312 (by decide) ?_
  refine lv_iadd hx hb dL_law_313 ?_
  refine k_top (v := nI (i + 1)) (nI_add i 1) ?_
  refine va_sld hx hb hX hbl hbA hS (vp_in_nI (n := i + 1) (N := L) (by omega) (by omega)) dL_law_314 ?_
  refine c_goi hS hFy (va_runV (As := [.int (xs (nI (i + 1)).toNatClampNeg)]) (rest := []) ⟨hx, hb, hml, hown, hts⟩ (h_end_X9 l D g σy (zE ev σy) zE_ok My Ny Ry y gy ((xs (nI (i + 1)).toNatClampNeg))) (cwV 1 hts gL_law_X9_end rfl rfl rfl (by decide +kernel) ⟨Nat.le_of_ble_eq_true rfl, Nat.le_of_ble_eq_true rfl⟩) (c_preV hK hE hS hFy wy1 ty gy (by decide) rfl) rfl rfl hl.1 rfl (lv_room (Nat.le_of_ble_eq_true rfl)) dL_law_315 ⟨Nat.le_of_ble_eq_true rfl, Nat.le_of_ble_eq_true rfl⟩) (fun r2 My2 Ny2 Ry2 H locs q2 z2 w2 t2 hk2 hS => ?_)
  obtain ⟨eN2, eR2, -⟩ := q2
  subst eN2
  subst eR2
  have wx2 := HW.x w1 hd hk2
  have g2_KV : KV My2 Ry y := KV_ag t2 gy kv (hAd.ag z2 (by decide))
  have g2_HV : HV My2 Ry y := HV_ag t2 gy hv (hAd.ag z2 (by decide))
  have g2_CW : CW My2 Ry y := CW_ag t2 gy cw (hAd.ag z2 (by decide))
  have g2_WV : WV My2 Ry y := WV_ag t2 gy wv (hAd.ag z2 (by decide))
  have g2_BV : BV My2 Ry y := BV_ag t2 gy bv (hAd.ag z2 (by decide))
  have tm2 : My2 y 64 = My y 64 := z2 y 9 64 gy rfl
  refine lv_pop hx hb dL_law_318 rfl ?_
  refine lv_goto (tgt := 1513) hx hb dL_law_319 (by decide) ?_
  exact kk _ _ _ ⟨σx, Mx1, Nx, Rx, σy, My2, Ny, Ry, wx2, t1, gx, hd, w2, t2, gy, hFy, g2_KV, g2_HV, g2_CW, g2_WV, g2_BV, ((tm1.trans tm).trans tm2.symm), hS⟩ hl
set_option maxHeartbeats 4000000 in
set_option maxRecDepth 100000 in
theorem law_case_2 {p : Program} {l : Launch} {e : Env} {s : State} {m : MethodId} {below : List Frame} {meth : Method} {c : Code} {D : va_G} {g : Nat → ClassId} {ev : Nat → Nat} {b L i : Nat} {xs : Nat → Int32} {A : Nat → Prop} {x y : Nat} {H : Heap} {locs : List Loc} {ls : Array Slot} (C0 : lwC p s m meth c b L xs A D g ev) (hi : i + 6 ≤ L) (hR : lR D g A s H locs x y) (hl : lv_has ls 4 [(3, .int (nI i)), (2, .ref y), (1, .ref x), (0, .ref b)]) (kk : ∀ (H : Heap) (locs : List Loc) (ls : Array Slot), lR D g A s H locs x y → lv_has ls 4 [(3, .int (nI i)), (2, .ref y), (1, .ref x), (0, .ref b)] → W p l e room_1 s m #[Value.ref b] below meth c H locs 364 18454 (lw_Z below #[Value.ref b] s) (F0 m 1513 ls [])) : W p l e room_1 s m #[Value.ref b] below meth c H locs 364 18454 (lw_Z below #[Value.ref b] s) (F0 m 322 ls []) := by
  obtain ⟨hx, hb, hr, hml, hown, hts, hX, hbl, hlocks, hA, hAe, hbA, hK, hE, hL⟩ := C0
  have hown : s.vm.findClass RL = some m.cls := hown
  obtain ⟨σx, Mx, Nx, Rx, σy, My, Ny, Ry, wx, tx, gx, hd, wy, ty, gy, hFy, kv, hv, cw, wv, bv, tm, hS⟩ := hR
  have hFx : ∀ q, σx q ≠ none → A q := fun q h => (hd q h).1
  refine lv_aload_n hx hb dL_law_322 rfl (lv_at hl 2 rfl) ?_
  refine c_goi hS hFx (va_runV (As := []) (rest := []) ⟨hx, hb, hml, hown, hts⟩ (h_mews_X8 l D g σx (zE ev σx) zE_ok Mx Nx Rx x gx) (cwV 0 hts gL_law_X8_mews rfl rfl rfl (by decide +kernel) ⟨Nat.le_of_ble_eq_true rfl, Nat.le_of_ble_eq_true rfl⟩) (c_preV hK hE hS hFx wx tx gx (by decide) rfl) rfl rfl hl.1 rfl (lv_room (Nat.le_of_ble_eq_true rfl)) dL_law_323 ⟨Nat.le_of_ble_eq_true rfl, Nat.le_of_ble_eq_true rfl⟩) (fun r1 Mx1 Nx1 Rx1 H locs q1 z1 w1 t1 hk1 hS => ?_)
  have wy1 := HW.y wy hd hk1
  have tm1 : Mx1 x 13 = Mx x 13 := z1 x 8 13 gx rfl
  refine lv_pop hx hb dL_law_326 rfl ?_
  refine lv_aload_n hx hb dL_law_327 rfl (lv_at hl 1 rfl) ?_
  refine c_goi hS hFy (va_runV (As := []) (rest := []) ⟨hx, hb, hml, hown, hts⟩ (h_mews_X9 l D g σy (zE ev σy) zE_ok My Ny Ry y gy kv hv cw wv bv) (cwV 0 hts gL_law_X9_mews rfl rfl rfl (by decide +kernel) ⟨Nat.le_of_ble_eq_true rfl, Nat.le_of_ble_eq_true rfl⟩) (c_preV hK hE hS hFy wy1 ty gy (by decide) rfl) rfl rfl hl.1 rfl (lv_room (Nat.le_of_ble_eq_true rfl)) dL_law_328 ⟨Nat.le_of_ble_eq_true rfl, Nat.le_of_ble_eq_true rfl⟩) (fun r2 My2 Ny2 Ry2 H locs q2 z2 w2 t2 hk2 hS => ?_)
  obtain ⟨eR2, -, f2_KV, f2_HV, f2_CW, f2_WV, f2_BV⟩ := q2
  subst eR2
  have wx2 := HW.x w1 hd hk2
  have tm2 : My2 y 64 = My y 64 := z2 y 9 64 gy rfl
  refine lv_pop hx hb dL_law_331 rfl ?_
  refine lv_goto (tgt := 1513) hx hb dL_law_332 (by decide) ?_
  exact kk _ _ _ ⟨σx, Mx1, Nx1, Rx1, σy, My2, Ny2, Ry, wx2, t1, gx, hd, w2, t2, gy, hFy, f2_KV, f2_HV, f2_CW, f2_WV, f2_BV, ((tm1.trans tm).trans tm2.symm), hS⟩ hl
set_option maxHeartbeats 4000000 in
set_option maxRecDepth 100000 in
theorem law_case_3 {p : Program} {l : Launch} {e : Env} {s : State} {m : MethodId} {below : List Frame} {meth : Method} {c : Code} {D : va_G} {g : Nat → ClassId} {ev : Nat → Nat} {b L i : Nat} {xs : Nat → Int32} {A : Nat → Prop} {x y : Nat} {H : Heap} {locs : List Loc} {ls : Array Slot} (C0 : lwC p s m meth c b L xs A D g ev) (hi : i + 6 ≤ L) (hR : lR D g A s H locs x y) (hl : lv_has ls 4 [(3, .int (nI i)), (2, .ref y), (1, .ref x), (0, .ref b)]) (kk : ∀ (H : Heap) (locs : List Loc) (ls : Array Slot), lR D g A s H locs x y → lv_has ls 4 [(3, .int (nI i)), (2, .ref y), (1, .ref x), (0, .ref b)] → W p l e room_1 s m #[Value.ref b] below meth c H locs 364 18454 (lw_Z below #[Value.ref b] s) (F0 m 1513 ls [])) : W p l e room_1 s m #[Value.ref b] below meth c H locs 364 18454 (lw_Z below #[Value.ref b] s) (F0 m 335 ls []) := by
  obtain ⟨hx, hb, hr, hml, hown, hts, hX, hbl, hlocks, hA, hAe, hbA, hK, hE, hL⟩ := C0
  have hown : s.vm.findClass RL = some m.cls := hown
  obtain ⟨σx, Mx, Nx, Rx, σy, My, Ny, Ry, wx, tx, gx, hd, wy, ty, gy, hFy, kv, hv, cw, wv, bv, tm, hS⟩ := hR
  have hFx : ∀ q, σx q ≠ none → A q := fun q h => (hd q h).1
  refine lv_aload_n hx hb dL_law_335 rfl (lv_at hl 2 rfl) ?_
  refine lv_aload_n hx hb dL_law_336 rfl (lv_at hl 3 rfl) ?_
  refine lv_iload_n hx hb dL_law_337 rfl (lv_at hl 0 rfl) ?_
  refine lv_iconst (v := 1) hx hb dL_law_338 (by decide) ?_
  refine lv_iadd hx hb dL_law_339 ?_
  refine k_top (v := nI (i + 1)) (nI_add i 1) ?_
  refine va_sld hx hb hX hbl hbA hS (vp_in_nI (n := i + 1) (N := L) (by omega) (by omega)) dL_law_340 ?_
  refine c_goi hS hFx (va_runV (As := [.int (xs (nI (i + 1)).toNatClampNeg)]) (rest := []) ⟨hx, hb, hml, hown, hts⟩ (h_fault_X8 l D g σx (zE ev σx) zE_ok Mx Nx Rx x gx ((xs (nI (i + 1)).toNatClampNeg))) (cwV 1 hts gL_law_X8_fault rfl rfl rfl (by decide +kernel) ⟨Nat.le_of_ble_eq_true rfl, Nat.le_of_ble_eq_true rfl⟩) (c_preV hK hE hS hFx wx tx gx (by decide) rfl) rfl rfl hl.1 rfl (lv_room (Nat.le_of_ble_eq_true rfl)) dL_law_341 ⟨Nat.le_of_ble_eq_true rfl, Nat.le_of_ble_eq_true rfl⟩) (fun r1 Mx1 Nx1 Rx1 H locs q1 z1 w1 t1 hk1 hS => ?_)
  obtain ⟨eM1, eN1, eR1⟩ := q1
  subst eM1
  subst eN1
  subst eR1
  have wy1 := HW.y wy hd hk1
  refine lv_pop hx hb dL_law_344 rfl ?_
  refine lv_aload_n hx hb dL_law_345 rfl (lv_at hl 1 rfl) ?_
  refine lv_aload_n hx hb dL_law_346 rfl (lv_at hl 3 rfl) ?_
  refine lv_iload_n hx hb dL_law_347 rfl (lv_at hl 0 rfl) ?_
  refine lv_iconst (v := 1) hx hb dL_law_348 (by decide) ?_
  refine lv_iadd hx hb dL_law_349 ?_
  refine k_top (v := nI (i + 1)) (nI_add i 1) ?_
  refine va_sld hx hb hX hbl hbA hS (vp_in_nI (n := i + 1) (N := L) (by omega) (by omega)) dL_law_350 ?_
  refine c_goi hS hFy (va_runV (As := [.int (xs (nI (i + 1)).toNatClampNeg)]) (rest := []) ⟨hx, hb, hml, hown, hts⟩ (h_fault_X9 l D g σy (zE ev σy) zE_ok My Ny Ry y gy ((xs (nI (i + 1)).toNatClampNeg))) (cwV 1 hts gL_law_X9_fault rfl rfl rfl (by decide +kernel) ⟨Nat.le_of_ble_eq_true rfl, Nat.le_of_ble_eq_true rfl⟩) (c_preV hK hE hS hFy wy1 ty gy (by decide) rfl) rfl rfl hl.1 rfl (lv_room (Nat.le_of_ble_eq_true rfl)) dL_law_351 ⟨Nat.le_of_ble_eq_true rfl, Nat.le_of_ble_eq_true rfl⟩) (fun r2 My2 Ny2 Ry2 H locs q2 z2 w2 t2 hk2 hS => ?_)
  obtain ⟨eM2, eN2, eR2⟩ := q2
  subst eM2
  subst eN2
  subst eR2
  have wx2 := HW.x w1 hd hk2
  refine lv_pop hx hb dL_law_354 rfl ?_
  refine lv_goto (tgt := 1513) hx hb dL_law_355 (by decide) ?_
  exact kk _ _ _ ⟨σx, Mx, Nx, Rx, σy, My, Ny, Ry, wx2, t1, gx, hd, w2, t2, gy, hFy, kv, hv, cw, wv, bv, tm, hS⟩ hl
set_option maxHeartbeats 4000000 in
set_option maxRecDepth 100000 in
theorem law_case_4 {p : Program} {l : Launch} {e : Env} {s : State} {m : MethodId} {below : List Frame} {meth : Method} {c : Code} {D : va_G} {g : Nat → ClassId} {ev : Nat → Nat} {b L i : Nat} {xs : Nat → Int32} {A : Nat → Prop} {x y : Nat} {H : Heap} {locs : List Loc} {ls : Array Slot} (C0 : lwC p s m meth c b L xs A D g ev) (hi : i + 6 ≤ L) (hR : lR D g A s H locs x y) (hl : lv_has ls 4 [(3, .int (nI i)), (2, .ref y), (1, .ref x), (0, .ref b)]) (kk : ∀ (H : Heap) (locs : List Loc) (ls : Array Slot), lR D g A s H locs x y → lv_has ls 4 [(3, .int (nI i)), (2, .ref y), (1, .ref x), (0, .ref b)] → W p l e room_1 s m #[Value.ref b] below meth c H locs 364 18454 (lw_Z below #[Value.ref b] s) (F0 m 1513 ls [])) : W p l e room_1 s m #[Value.ref b] below meth c H locs 364 18454 (lw_Z below #[Value.ref b] s) (F0 m 358 ls []) := by
  obtain ⟨hx, hb, hr, hml, hown, hts, hX, hbl, hlocks, hA, hAe, hbA, hK, hE, hL⟩ := C0
  have hown : s.vm.findClass RL = some m.cls := hown
  obtain ⟨σx, Mx, Nx, Rx, σy, My, Ny, Ry, wx, tx, gx, hd, wy, ty, gy, hFy, kv, hv, cw, wv, bv, tm, hS⟩ := hR
  have hFx : ∀ q, σx q ≠ none → A q := fun q h => (hd q h).1
  refine lv_aload_n hx hb dL_law_358 rfl (lv_at hl 2 rfl) ?_
  refine lv_aload_n hx hb dL_law_359 rfl (lv_at hl 3 rfl) ?_
  refine lv_iload_n hx hb dL_law_360 rfl (lv_at hl 0 rfl) ?_
  refine lv_iconst (v := 1) hx hb dL_law_361 (by decide) ?_
  refine lv_iadd hx hb dL_law_362 ?_
  refine k_top (v := nI (i + 1)) (nI_add i 1) ?_
  refine va_sld hx hb hX hbl hbA hS (vp_in_nI (n := i + 1) (N := L) (by omega) (by omega)) dL_law_363 ?_
  refine lv_aload_n hx hb dL_law_364 rfl (lv_at hl 3 rfl) ?_
  refine lv_iload_n hx hb dL_law_365 rfl (lv_at hl 0 rfl) ?_
  refine lv_iconst (v := 2) hx hb dL_law_366 (by decide) ?_
  refine lv_iadd hx hb dL_law_367 ?_
  refine k_top (v := nI (i + 2)) (nI_add i 2) ?_
  refine va_sld hx hb hX hbl hbA hS (vp_in_nI (n := i + 2) (N := L) (by omega) (by omega)) dL_law_368 ?_
  refine c_goi hS hFx (va_runV (As := [.int (xs (nI (i + 1)).toNatClampNeg), .int (xs (nI (i + 2)).toNatClampNeg)]) (rest := []) ⟨hx, hb, hml, hown, hts⟩ (h_cat_X8 l D g σx (zE ev σx) zE_ok Mx Nx Rx x gx ((xs (nI (i + 1)).toNatClampNeg)) ((xs (nI (i + 2)).toNatClampNeg))) (cwV 2 hts gL_law_X8_cat rfl rfl rfl (by decide +kernel) ⟨Nat.le_of_ble_eq_true rfl, Nat.le_of_ble_eq_true rfl⟩) (c_preV hK hE hS hFx wx tx gx (by decide) rfl) rfl rfl hl.1 rfl (lv_room (Nat.le_of_ble_eq_true rfl)) dL_law_369 ⟨Nat.le_of_ble_eq_true rfl, Nat.le_of_ble_eq_true rfl⟩) (fun r1 Mx1 Nx1 Rx1 H locs q1 z1 w1 t1 hk1 hS => ?_)
  obtain ⟨eM1, eN1, eR1⟩ := q1
  subst eM1
  subst eN1
  subst eR1
  have wy1 := HW.y wy hd hk1
  refine lv_pop hx hb dL_law_372 rfl ?_
  refine lv_aload_n hx hb dL_law_373 rfl (lv_at hl 1 rfl) ?_
  refine lv_aload_n hx hb dL_law_374 rfl (lv_at hl 3 rfl) ?_
  refine lv_iload_n hx hb dL_law_375 rfl (lv_at hl 0 rfl) ?_
  refine lv_iconst (v := 1) hx hb dL_law_376 (by decide) ?_
  refine lv_iadd hx hb dL_law_377 ?_
  refine k_top (v := nI (i + 1)) (nI_add i 1) ?_
  refine va_sld hx hb hX hbl hbA hS (vp_in_nI (n := i + 1) (N := L) (by omega) (by omega)) dL_law_378 ?_
  refine lv_aload_n hx hb dL_law_379 rfl (lv_at hl 3 rfl) ?_
  refine lv_iload_n hx hb dL_law_380 rfl (lv_at hl 0 rfl) ?_
  refine lv_iconst (v := 2) hx hb dL_law_381 (by decide) ?_
  refine lv_iadd hx hb dL_law_382 ?_
  refine k_top (v := nI (i + 2)) (nI_add i 2) ?_
  refine va_sld hx hb hX hbl hbA hS (vp_in_nI (n := i + 2) (N := L) (by omega) (by omega)) dL_law_383 ?_
  refine c_goi hS hFy (va_runV (As := [.int (xs (nI (i + 1)).toNatClampNeg), .int (xs (nI (i + 2)).toNatClampNeg)]) (rest := []) ⟨hx, hb, hml, hown, hts⟩ (h_cat_X9 l D g σy (zE ev σy) zE_ok My Ny Ry y gy ((xs (nI (i + 1)).toNatClampNeg)) ((xs (nI (i + 2)).toNatClampNeg))) (cwV 2 hts gL_law_X9_cat rfl rfl rfl (by decide +kernel) ⟨Nat.le_of_ble_eq_true rfl, Nat.le_of_ble_eq_true rfl⟩) (c_preV hK hE hS hFy wy1 ty gy (by decide) rfl) rfl rfl hl.1 rfl (lv_room (Nat.le_of_ble_eq_true rfl)) dL_law_384 ⟨Nat.le_of_ble_eq_true rfl, Nat.le_of_ble_eq_true rfl⟩) (fun r2 My2 Ny2 Ry2 H locs q2 z2 w2 t2 hk2 hS => ?_)
  obtain ⟨eM2, eN2, eR2⟩ := q2
  subst eM2
  subst eN2
  subst eR2
  have wx2 := HW.x w1 hd hk2
  refine lv_pop hx hb dL_law_387 rfl ?_
  refine lv_goto (tgt := 1513) hx hb dL_law_388 (by decide) ?_
  exact kk _ _ _ ⟨σx, Mx, Nx, Rx, σy, My, Ny, Ry, wx2, t1, gx, hd, w2, t2, gy, hFy, kv, hv, cw, wv, bv, tm, hS⟩ hl
set_option maxHeartbeats 4000000 in
set_option maxRecDepth 100000 in
theorem law_case_5 {p : Program} {l : Launch} {e : Env} {s : State} {m : MethodId} {below : List Frame} {meth : Method} {c : Code} {D : va_G} {g : Nat → ClassId} {ev : Nat → Nat} {b L i : Nat} {xs : Nat → Int32} {A : Nat → Prop} {x y : Nat} {H : Heap} {locs : List Loc} {ls : Array Slot} (C0 : lwC p s m meth c b L xs A D g ev) (hi : i + 6 ≤ L) (hR : lR D g A s H locs x y) (hl : lv_has ls 4 [(3, .int (nI i)), (2, .ref y), (1, .ref x), (0, .ref b)]) (kk : ∀ (H : Heap) (locs : List Loc) (ls : Array Slot), lR D g A s H locs x y → lv_has ls 4 [(3, .int (nI i)), (2, .ref y), (1, .ref x), (0, .ref b)] → W p l e room_1 s m #[Value.ref b] below meth c H locs 364 18454 (lw_Z below #[Value.ref b] s) (F0 m 1513 ls [])) : W p l e room_1 s m #[Value.ref b] below meth c H locs 364 18454 (lw_Z below #[Value.ref b] s) (F0 m 391 ls []) := by
  obtain ⟨hx, hb, hr, hml, hown, hts, hX, hbl, hlocks, hA, hAe, hbA, hK, hE, hL⟩ := C0
  have hown : s.vm.findClass RL = some m.cls := hown
  obtain ⟨σx, Mx, Nx, Rx, σy, My, Ny, Ry, wx, tx, gx, hd, wy, ty, gy, hFy, kv, hv, cw, wv, bv, tm, hS⟩ := hR
  have hFx : ∀ q, σx q ≠ none → A q := fun q h => (hd q h).1
  refine lv_aload_n hx hb dL_law_391 rfl (lv_at hl 2 rfl) ?_
  refine lv_aload_n hx hb dL_law_392 rfl (lv_at hl 3 rfl) ?_
  refine lv_iload_n hx hb dL_law_393 rfl (lv_at hl 0 rfl) ?_
  refine lv_iconst (v := 1) hx hb dL_law_394 (by decide) ?_
  refine lv_iadd hx hb dL_law_395 ?_
  refine k_top (v := nI (i + 1)) (nI_add i 1) ?_
  refine va_sld hx hb hX hbl hbA hS (vp_in_nI (n := i + 1) (N := L) (by omega) (by omega)) dL_law_396 ?_
  refine lv_aload_n hx hb dL_law_397 rfl (lv_at hl 3 rfl) ?_
  refine lv_iload_n hx hb dL_law_398 rfl (lv_at hl 0 rfl) ?_
  refine lv_iconst (v := 2) hx hb dL_law_399 (by decide) ?_
  refine lv_iadd hx hb dL_law_400 ?_
  refine k_top (v := nI (i + 2)) (nI_add i 2) ?_
  refine va_sld hx hb hX hbl hbA hS (vp_in_nI (n := i + 2) (N := L) (by omega) (by omega)) dL_law_401 ?_
  refine c_goi hS hFx (va_runV (As := [.int (xs (nI (i + 1)).toNatClampNeg), .int (xs (nI (i + 2)).toNatClampNeg)]) (rest := []) ⟨hx, hb, hml, hown, hts⟩ (h_room_X8 l D g σx (zE ev σx) zE_ok Mx Nx Rx x gx ((xs (nI (i + 1)).toNatClampNeg)) ((xs (nI (i + 2)).toNatClampNeg))) (cwV 2 hts gL_law_X8_room rfl rfl rfl (by decide +kernel) ⟨Nat.le_of_ble_eq_true rfl, Nat.le_of_ble_eq_true rfl⟩) (c_preV hK hE hS hFx wx tx gx (by decide) rfl) rfl rfl hl.1 rfl (lv_room (Nat.le_of_ble_eq_true rfl)) dL_law_402 ⟨Nat.le_of_ble_eq_true rfl, Nat.le_of_ble_eq_true rfl⟩) (fun r1 Mx1 Nx1 Rx1 H locs q1 z1 w1 t1 hk1 hS => ?_)
  obtain ⟨eM1, eN1, eR1, -⟩ := q1
  subst eM1
  subst eN1
  subst eR1
  have wy1 := HW.y wy hd hk1
  refine lv_pop hx hb dL_law_405 rfl ?_
  refine lv_aload_n hx hb dL_law_406 rfl (lv_at hl 1 rfl) ?_
  refine lv_aload_n hx hb dL_law_407 rfl (lv_at hl 3 rfl) ?_
  refine lv_iload_n hx hb dL_law_408 rfl (lv_at hl 0 rfl) ?_
  refine lv_iconst (v := 1) hx hb dL_law_409 (by decide) ?_
  refine lv_iadd hx hb dL_law_410 ?_
  refine k_top (v := nI (i + 1)) (nI_add i 1) ?_
  refine va_sld hx hb hX hbl hbA hS (vp_in_nI (n := i + 1) (N := L) (by omega) (by omega)) dL_law_411 ?_
  refine lv_aload_n hx hb dL_law_412 rfl (lv_at hl 3 rfl) ?_
  refine lv_iload_n hx hb dL_law_413 rfl (lv_at hl 0 rfl) ?_
  refine lv_iconst (v := 2) hx hb dL_law_414 (by decide) ?_
  refine lv_iadd hx hb dL_law_415 ?_
  refine k_top (v := nI (i + 2)) (nI_add i 2) ?_
  refine va_sld hx hb hX hbl hbA hS (vp_in_nI (n := i + 2) (N := L) (by omega) (by omega)) dL_law_416 ?_
  refine c_goi hS hFy (va_runV (As := [.int (xs (nI (i + 1)).toNatClampNeg), .int (xs (nI (i + 2)).toNatClampNeg)]) (rest := []) ⟨hx, hb, hml, hown, hts⟩ (h_room_X9 l D g σy (zE ev σy) zE_ok My Ny Ry y gy ((xs (nI (i + 1)).toNatClampNeg)) ((xs (nI (i + 2)).toNatClampNeg))) (cwV 2 hts gL_law_X9_room rfl rfl rfl (by decide +kernel) ⟨Nat.le_of_ble_eq_true rfl, Nat.le_of_ble_eq_true rfl⟩) (c_preV hK hE hS hFy wy1 ty gy (by decide) rfl) rfl rfl hl.1 rfl (lv_room (Nat.le_of_ble_eq_true rfl)) dL_law_417 ⟨Nat.le_of_ble_eq_true rfl, Nat.le_of_ble_eq_true rfl⟩) (fun r2 My2 Ny2 Ry2 H locs q2 z2 w2 t2 hk2 hS => ?_)
  obtain ⟨eM2, eN2, eR2, -⟩ := q2
  subst eM2
  subst eN2
  subst eR2
  have wx2 := HW.x w1 hd hk2
  refine lv_pop hx hb dL_law_420 rfl ?_
  refine lv_goto (tgt := 1513) hx hb dL_law_421 (by decide) ?_
  exact kk _ _ _ ⟨σx, Mx, Nx, Rx, σy, My, Ny, Ry, wx2, t1, gx, hd, w2, t2, gy, hFy, kv, hv, cw, wv, bv, tm, hS⟩ hl
set_option maxHeartbeats 4000000 in
set_option maxRecDepth 100000 in
theorem law_case_6 {p : Program} {l : Launch} {e : Env} {s : State} {m : MethodId} {below : List Frame} {meth : Method} {c : Code} {D : va_G} {g : Nat → ClassId} {ev : Nat → Nat} {b L i : Nat} {xs : Nat → Int32} {A : Nat → Prop} {x y : Nat} {H : Heap} {locs : List Loc} {ls : Array Slot} (C0 : lwC p s m meth c b L xs A D g ev) (hi : i + 6 ≤ L) (hR : lR D g A s H locs x y) (hl : lv_has ls 4 [(3, .int (nI i)), (2, .ref y), (1, .ref x), (0, .ref b)]) (kk : ∀ (H : Heap) (locs : List Loc) (ls : Array Slot), lR D g A s H locs x y → lv_has ls 4 [(3, .int (nI i)), (2, .ref y), (1, .ref x), (0, .ref b)] → W p l e room_1 s m #[Value.ref b] below meth c H locs 364 18454 (lw_Z below #[Value.ref b] s) (F0 m 1513 ls [])) : W p l e room_1 s m #[Value.ref b] below meth c H locs 364 18454 (lw_Z below #[Value.ref b] s) (F0 m 424 ls []) := by
  obtain ⟨hx, hb, hr, hml, hown, hts, hX, hbl, hlocks, hA, hAe, hbA, hK, hE, hL⟩ := C0
  have hown : s.vm.findClass RL = some m.cls := hown
  obtain ⟨σx, Mx, Nx, Rx, σy, My, Ny, Ry, wx, tx, gx, hd, wy, ty, gy, hFy, kv, hv, cw, wv, bv, tm, hS⟩ := hR
  have hFx : ∀ q, σx q ≠ none → A q := fun q h => (hd q h).1
  refine lv_aload_n hx hb dL_law_424 rfl (lv_at hl 2 rfl) ?_
  refine lv_aload_n hx hb dL_law_425 rfl (lv_at hl 3 rfl) ?_
  refine lv_iload_n hx hb dL_law_426 rfl (lv_at hl 0 rfl) ?_
  refine lv_iconst (v := 1) hx hb dL_law_427 (by decide) ?_
  refine lv_iadd hx hb dL_law_428 ?_
  refine k_top (v := nI (i + 1)) (nI_add i 1) ?_
  refine va_sld hx hb hX hbl hbA hS (vp_in_nI (n := i + 1) (N := L) (by omega) (by omega)) dL_law_429 ?_
  refine lv_aload_n hx hb dL_law_430 rfl (lv_at hl 3 rfl) ?_
  refine lv_iload_n hx hb dL_law_431 rfl (lv_at hl 0 rfl) ?_
  refine lv_iconst (v := 2) hx hb dL_law_432 (by decide) ?_
  refine lv_iadd hx hb dL_law_433 ?_
  refine k_top (v := nI (i + 2)) (nI_add i 2) ?_
  refine va_sld hx hb hX hbl hbA hS (vp_in_nI (n := i + 2) (N := L) (by omega) (by omega)) dL_law_434 ?_
  refine c_goi hS hFx (va_runV (As := [.int (xs (nI (i + 1)).toNatClampNeg), .int (xs (nI (i + 2)).toNatClampNeg)]) (rest := []) ⟨hx, hb, hml, hown, hts⟩ (h_tenant_X8 l D g σx (zE ev σx) zE_ok Mx Nx Rx x gx ((xs (nI (i + 1)).toNatClampNeg)) ((xs (nI (i + 2)).toNatClampNeg))) (cwV 2 hts gL_law_X8_tenant rfl rfl rfl (by decide +kernel) ⟨Nat.le_of_ble_eq_true rfl, Nat.le_of_ble_eq_true rfl⟩) (c_preV hK hE hS hFx wx tx gx (by decide) rfl) rfl rfl hl.1 rfl (lv_room (Nat.le_of_ble_eq_true rfl)) dL_law_435 ⟨Nat.le_of_ble_eq_true rfl, Nat.le_of_ble_eq_true rfl⟩) (fun r1 Mx1 Nx1 Rx1 H locs q1 z1 w1 t1 hk1 hS => ?_)
  obtain ⟨eM1, eN1, eR1⟩ := q1
  subst eM1
  subst eN1
  subst eR1
  have wy1 := HW.y wy hd hk1
  refine lv_pop hx hb dL_law_438 rfl ?_
  refine lv_aload_n hx hb dL_law_439 rfl (lv_at hl 1 rfl) ?_
  refine lv_aload_n hx hb dL_law_440 rfl (lv_at hl 3 rfl) ?_
  refine lv_iload_n hx hb dL_law_441 rfl (lv_at hl 0 rfl) ?_
  refine lv_iconst (v := 1) hx hb dL_law_442 (by decide) ?_
  refine lv_iadd hx hb dL_law_443 ?_
  refine k_top (v := nI (i + 1)) (nI_add i 1) ?_
  refine va_sld hx hb hX hbl hbA hS (vp_in_nI (n := i + 1) (N := L) (by omega) (by omega)) dL_law_444 ?_
  refine lv_aload_n hx hb dL_law_445 rfl (lv_at hl 3 rfl) ?_
  refine lv_iload_n hx hb dL_law_446 rfl (lv_at hl 0 rfl) ?_
  refine lv_iconst (v := 2) hx hb dL_law_447 (by decide) ?_
  refine lv_iadd hx hb dL_law_448 ?_
  refine k_top (v := nI (i + 2)) (nI_add i 2) ?_
  refine va_sld hx hb hX hbl hbA hS (vp_in_nI (n := i + 2) (N := L) (by omega) (by omega)) dL_law_449 ?_
  refine c_goi hS hFy (va_runV (As := [.int (xs (nI (i + 1)).toNatClampNeg), .int (xs (nI (i + 2)).toNatClampNeg)]) (rest := []) ⟨hx, hb, hml, hown, hts⟩ (h_tenant_X9 l D g σy (zE ev σy) zE_ok My Ny Ry y gy ((xs (nI (i + 1)).toNatClampNeg)) ((xs (nI (i + 2)).toNatClampNeg))) (cwV 2 hts gL_law_X9_tenant rfl rfl rfl (by decide +kernel) ⟨Nat.le_of_ble_eq_true rfl, Nat.le_of_ble_eq_true rfl⟩) (c_preV hK hE hS hFy wy1 ty gy (by decide) rfl) rfl rfl hl.1 rfl (lv_room (Nat.le_of_ble_eq_true rfl)) dL_law_450 ⟨Nat.le_of_ble_eq_true rfl, Nat.le_of_ble_eq_true rfl⟩) (fun r2 My2 Ny2 Ry2 H locs q2 z2 w2 t2 hk2 hS => ?_)
  obtain ⟨eM2, eN2, eR2⟩ := q2
  subst eM2
  subst eN2
  subst eR2
  have wx2 := HW.x w1 hd hk2
  refine lv_pop hx hb dL_law_453 rfl ?_
  refine lv_goto (tgt := 1513) hx hb dL_law_454 (by decide) ?_
  exact kk _ _ _ ⟨σx, Mx, Nx, Rx, σy, My, Ny, Ry, wx2, t1, gx, hd, w2, t2, gy, hFy, kv, hv, cw, wv, bv, tm, hS⟩ hl
set_option maxHeartbeats 4000000 in
set_option maxRecDepth 100000 in
theorem law_case_7 {p : Program} {l : Launch} {e : Env} {s : State} {m : MethodId} {below : List Frame} {meth : Method} {c : Code} {D : va_G} {g : Nat → ClassId} {ev : Nat → Nat} {b L i : Nat} {xs : Nat → Int32} {A : Nat → Prop} {x y : Nat} {H : Heap} {locs : List Loc} {ls : Array Slot} (C0 : lwC p s m meth c b L xs A D g ev) (hi : i + 6 ≤ L) (hR : lR D g A s H locs x y) (hl : lv_has ls 4 [(3, .int (nI i)), (2, .ref y), (1, .ref x), (0, .ref b)]) (kk : ∀ (H : Heap) (locs : List Loc) (ls : Array Slot), lR D g A s H locs x y → lv_has ls 4 [(3, .int (nI i)), (2, .ref y), (1, .ref x), (0, .ref b)] → W p l e room_1 s m #[Value.ref b] below meth c H locs 364 18454 (lw_Z below #[Value.ref b] s) (F0 m 1513 ls [])) : W p l e room_1 s m #[Value.ref b] below meth c H locs 364 18454 (lw_Z below #[Value.ref b] s) (F0 m 457 ls []) := by
  obtain ⟨hx, hb, hr, hml, hown, hts, hX, hbl, hlocks, hA, hAe, hbA, hK, hE, hL⟩ := C0
  have hown : s.vm.findClass RL = some m.cls := hown
  obtain ⟨σx, Mx, Nx, Rx, σy, My, Ny, Ry, wx, tx, gx, hd, wy, ty, gy, hFy, kv, hv, cw, wv, bv, tm, hS⟩ := hR
  have hFx : ∀ q, σx q ≠ none → A q := fun q h => (hd q h).1
  refine lv_aload_n hx hb dL_law_457 rfl (lv_at hl 2 rfl) ?_
  refine lv_aload_n hx hb dL_law_458 rfl (lv_at hl 3 rfl) ?_
  refine lv_iload_n hx hb dL_law_459 rfl (lv_at hl 0 rfl) ?_
  refine lv_iconst (v := 1) hx hb dL_law_460 (by decide) ?_
  refine lv_iadd hx hb dL_law_461 ?_
  refine k_top (v := nI (i + 1)) (nI_add i 1) ?_
  refine va_sld hx hb hX hbl hbA hS (vp_in_nI (n := i + 1) (N := L) (by omega) (by omega)) dL_law_462 ?_
  refine lv_aload_n hx hb dL_law_463 rfl (lv_at hl 3 rfl) ?_
  refine lv_iload_n hx hb dL_law_464 rfl (lv_at hl 0 rfl) ?_
  refine lv_iconst (v := 2) hx hb dL_law_465 (by decide) ?_
  refine lv_iadd hx hb dL_law_466 ?_
  refine k_top (v := nI (i + 2)) (nI_add i 2) ?_
  refine va_sld hx hb hX hbl hbA hS (vp_in_nI (n := i + 2) (N := L) (by omega) (by omega)) dL_law_467 ?_
  refine c_goi hS hFx (va_runV (As := [.int (xs (nI (i + 1)).toNatClampNeg), .int (xs (nI (i + 2)).toNatClampNeg)]) (rest := []) ⟨hx, hb, hml, hown, hts⟩ (h_liking_X8 l D g σx (zE ev σx) zE_ok Mx Nx Rx x gx ((xs (nI (i + 1)).toNatClampNeg)) ((xs (nI (i + 2)).toNatClampNeg))) (cwV 2 hts gL_law_X8_liking rfl rfl rfl (by decide +kernel) ⟨Nat.le_of_ble_eq_true rfl, Nat.le_of_ble_eq_true rfl⟩) (c_preV hK hE hS hFx wx tx gx (by decide) rfl) rfl rfl hl.1 rfl (lv_room (Nat.le_of_ble_eq_true rfl)) dL_law_468 ⟨Nat.le_of_ble_eq_true rfl, Nat.le_of_ble_eq_true rfl⟩) (fun r1 Mx1 Nx1 Rx1 H locs q1 z1 w1 t1 hk1 hS => ?_)
  obtain ⟨eN1, eR1⟩ := q1
  subst eN1
  subst eR1
  have wy1 := HW.y wy hd hk1
  have tm1 : Mx1 x 13 = Mx x 13 := z1 x 8 13 gx rfl
  refine lv_pop hx hb dL_law_471 rfl ?_
  refine lv_aload_n hx hb dL_law_472 rfl (lv_at hl 1 rfl) ?_
  refine lv_aload_n hx hb dL_law_473 rfl (lv_at hl 3 rfl) ?_
  refine lv_iload_n hx hb dL_law_474 rfl (lv_at hl 0 rfl) ?_
  refine lv_iconst (v := 1) hx hb dL_law_475 (by decide) ?_
  refine lv_iadd hx hb dL_law_476 ?_
  refine k_top (v := nI (i + 1)) (nI_add i 1) ?_
  refine va_sld hx hb hX hbl hbA hS (vp_in_nI (n := i + 1) (N := L) (by omega) (by omega)) dL_law_477 ?_
  refine lv_aload_n hx hb dL_law_478 rfl (lv_at hl 3 rfl) ?_
  refine lv_iload_n hx hb dL_law_479 rfl (lv_at hl 0 rfl) ?_
  refine lv_iconst (v := 2) hx hb dL_law_480 (by decide) ?_
  refine lv_iadd hx hb dL_law_481 ?_
  refine k_top (v := nI (i + 2)) (nI_add i 2) ?_
  refine va_sld hx hb hX hbl hbA hS (vp_in_nI (n := i + 2) (N := L) (by omega) (by omega)) dL_law_482 ?_
  refine c_goi hS hFy (va_runV (As := [.int (xs (nI (i + 1)).toNatClampNeg), .int (xs (nI (i + 2)).toNatClampNeg)]) (rest := []) ⟨hx, hb, hml, hown, hts⟩ (h_liking_X9 l D g σy (zE ev σy) zE_ok My Ny Ry y gy ((xs (nI (i + 1)).toNatClampNeg)) ((xs (nI (i + 2)).toNatClampNeg)) cw) (cwV 2 hts gL_law_X9_liking rfl rfl rfl (by decide +kernel) ⟨Nat.le_of_ble_eq_true rfl, Nat.le_of_ble_eq_true rfl⟩) (c_preV hK hE hS hFy wy1 ty gy (by decide) rfl) rfl rfl hl.1 rfl (lv_room (Nat.le_of_ble_eq_true rfl)) dL_law_483 ⟨Nat.le_of_ble_eq_true rfl, Nat.le_of_ble_eq_true rfl⟩) (fun r2 My2 Ny2 Ry2 H locs q2 z2 w2 t2 hk2 hS => ?_)
  obtain ⟨eN2, eR2⟩ := q2
  subst eN2
  subst eR2
  have wx2 := HW.x w1 hd hk2
  have g2_KV : KV My2 Ry y := KV_ag t2 gy kv (hAd.ag z2 (by decide))
  have g2_HV : HV My2 Ry y := HV_ag t2 gy hv (hAd.ag z2 (by decide))
  have g2_CW : CW My2 Ry y := CW_ag t2 gy cw (hAd.ag z2 (by decide))
  have g2_WV : WV My2 Ry y := WV_ag t2 gy wv (hAd.ag z2 (by decide))
  have g2_BV : BV My2 Ry y := BV_ag t2 gy bv (hAd.ag z2 (by decide))
  have tm2 : My2 y 64 = My y 64 := z2 y 9 64 gy rfl
  refine lv_pop hx hb dL_law_486 rfl ?_
  refine lv_goto (tgt := 1513) hx hb dL_law_487 (by decide) ?_
  exact kk _ _ _ ⟨σx, Mx1, Nx, Rx, σy, My2, Ny, Ry, wx2, t1, gx, hd, w2, t2, gy, hFy, g2_KV, g2_HV, g2_CW, g2_WV, g2_BV, ((tm1.trans tm).trans tm2.symm), hS⟩ hl
set_option maxHeartbeats 4000000 in
set_option maxRecDepth 100000 in
theorem law_case_8 {p : Program} {l : Launch} {e : Env} {s : State} {m : MethodId} {below : List Frame} {meth : Method} {c : Code} {D : va_G} {g : Nat → ClassId} {ev : Nat → Nat} {b L i : Nat} {xs : Nat → Int32} {A : Nat → Prop} {x y : Nat} {H : Heap} {locs : List Loc} {ls : Array Slot} (C0 : lwC p s m meth c b L xs A D g ev) (hi : i + 6 ≤ L) (hR : lR D g A s H locs x y) (hl : lv_has ls 4 [(3, .int (nI i)), (2, .ref y), (1, .ref x), (0, .ref b)]) (kk : ∀ (H : Heap) (locs : List Loc) (ls : Array Slot), lR D g A s H locs x y → lv_has ls 4 [(3, .int (nI i)), (2, .ref y), (1, .ref x), (0, .ref b)] → W p l e room_1 s m #[Value.ref b] below meth c H locs 364 18454 (lw_Z below #[Value.ref b] s) (F0 m 1513 ls [])) : W p l e room_1 s m #[Value.ref b] below meth c H locs 364 18454 (lw_Z below #[Value.ref b] s) (F0 m 490 ls []) := by
  obtain ⟨hx, hb, hr, hml, hown, hts, hX, hbl, hlocks, hA, hAe, hbA, hK, hE, hL⟩ := C0
  have hown : s.vm.findClass RL = some m.cls := hown
  obtain ⟨σx, Mx, Nx, Rx, σy, My, Ny, Ry, wx, tx, gx, hd, wy, ty, gy, hFy, kv, hv, cw, wv, bv, tm, hS⟩ := hR
  have hFx : ∀ q, σx q ≠ none → A q := fun q h => (hd q h).1
  refine lv_aload_n hx hb dL_law_490 rfl (lv_at hl 2 rfl) ?_
  refine c_goi hS hFx (va_runV (As := []) (rest := []) ⟨hx, hb, hml, hown, hts⟩ (h_quarter_X8 l D g σx (zE ev σx) zE_ok Mx Nx Rx x gx) (cwV 0 hts gL_law_X8_quarter rfl rfl rfl (by decide +kernel) ⟨Nat.le_of_ble_eq_true rfl, Nat.le_of_ble_eq_true rfl⟩) (c_preV hK hE hS hFx wx tx gx (by decide) rfl) rfl rfl hl.1 rfl (lv_room (Nat.le_of_ble_eq_true rfl)) dL_law_491 ⟨Nat.le_of_ble_eq_true rfl, Nat.le_of_ble_eq_true rfl⟩) (fun r1 Mx1 Nx1 Rx1 H locs q1 z1 w1 t1 hk1 hS => ?_)
  obtain ⟨eN1, eR1, -⟩ := q1
  subst eN1
  subst eR1
  have wy1 := HW.y wy hd hk1
  have tm1 : Mx1 x 13 = Mx x 13 := z1 x 8 13 gx rfl
  refine lv_pop hx hb dL_law_494 rfl ?_
  refine lv_aload_n hx hb dL_law_495 rfl (lv_at hl 1 rfl) ?_
  refine c_goi hS hFy (va_runV (As := []) (rest := []) ⟨hx, hb, hml, hown, hts⟩ (h_quarter_X9 l D g σy (zE ev σy) zE_ok My Ny Ry y gy kv hv cw wv) (cwV 0 hts gL_law_X9_quarter rfl rfl rfl (by decide +kernel) ⟨Nat.le_of_ble_eq_true rfl, Nat.le_of_ble_eq_true rfl⟩) (c_preV hK hE hS hFy wy1 ty gy (by decide) rfl) rfl rfl hl.1 rfl (lv_room (Nat.le_of_ble_eq_true rfl)) dL_law_496 ⟨Nat.le_of_ble_eq_true rfl, Nat.le_of_ble_eq_true rfl⟩) (fun r2 My2 Ny2 Ry2 H locs q2 z2 w2 t2 hk2 hS => ?_)
  obtain ⟨eN2, eR2, -, f2_KV, f2_WV⟩ := q2
  subst eN2
  subst eR2
  have wx2 := HW.x w1 hd hk2
  have g2_HV : HV My2 Ry y := HV_ag t2 gy hv (hAd.ag z2 (by decide))
  have g2_CW : CW My2 Ry y := CW_ag t2 gy cw (hAd.ag z2 (by decide))
  have g2_BV : BV My2 Ry y := BV_ag t2 gy bv (hAd.ag z2 (by decide))
  have tm2 : My2 y 64 = My y 64 := z2 y 9 64 gy rfl
  refine lv_pop hx hb dL_law_499 rfl ?_
  refine lv_goto (tgt := 1513) hx hb dL_law_500 (by decide) ?_
  exact kk _ _ _ ⟨σx, Mx1, Nx, Rx, σy, My2, Ny, Ry, wx2, t1, gx, hd, w2, t2, gy, hFy, f2_KV, g2_HV, g2_CW, f2_WV, g2_BV, ((tm1.trans tm).trans tm2.symm), hS⟩ hl
set_option maxHeartbeats 4000000 in
set_option maxRecDepth 100000 in
theorem law_case_9 {p : Program} {l : Launch} {e : Env} {s : State} {m : MethodId} {below : List Frame} {meth : Method} {c : Code} {D : va_G} {g : Nat → ClassId} {ev : Nat → Nat} {b L i : Nat} {xs : Nat → Int32} {A : Nat → Prop} {x y : Nat} {H : Heap} {locs : List Loc} {ls : Array Slot} (C0 : lwC p s m meth c b L xs A D g ev) (hi : i + 6 ≤ L) (hR : lR D g A s H locs x y) (hl : lv_has ls 4 [(3, .int (nI i)), (2, .ref y), (1, .ref x), (0, .ref b)]) (kk : ∀ (H : Heap) (locs : List Loc) (ls : Array Slot), lR D g A s H locs x y → lv_has ls 4 [(3, .int (nI i)), (2, .ref y), (1, .ref x), (0, .ref b)] → W p l e room_1 s m #[Value.ref b] below meth c H locs 364 18454 (lw_Z below #[Value.ref b] s) (F0 m 1513 ls [])) : W p l e room_1 s m #[Value.ref b] below meth c H locs 364 18454 (lw_Z below #[Value.ref b] s) (F0 m 503 ls []) := by
  obtain ⟨hx, hb, hr, hml, hown, hts, hX, hbl, hlocks, hA, hAe, hbA, hK, hE, hL⟩ := C0
  have hown : s.vm.findClass RL = some m.cls := hown
  obtain ⟨σx, Mx, Nx, Rx, σy, My, Ny, Ry, wx, tx, gx, hd, wy, ty, gy, hFy, kv, hv, cw, wv, bv, tm, hS⟩ := hR
  have hFx : ∀ q, σx q ≠ none → A q := fun q h => (hd q h).1
  refine lv_aload_n hx hb dL_law_503 rfl (lv_at hl 2 rfl) ?_
  refine lv_aload_n hx hb dL_law_504 rfl (lv_at hl 3 rfl) ?_
  refine lv_iload_n hx hb dL_law_505 rfl (lv_at hl 0 rfl) ?_
  refine lv_iconst (v := 1) hx hb dL_law_506 (by decide) ?_
  refine lv_iadd hx hb dL_law_507 ?_
  refine k_top (v := nI (i + 1)) (nI_add i 1) ?_
  refine va_sld hx hb hX hbl hbA hS (vp_in_nI (n := i + 1) (N := L) (by omega) (by omega)) dL_law_508 ?_
  refine lv_aload_n hx hb dL_law_509 rfl (lv_at hl 3 rfl) ?_
  refine lv_iload_n hx hb dL_law_510 rfl (lv_at hl 0 rfl) ?_
  refine lv_iconst (v := 2) hx hb dL_law_511 (by decide) ?_
  refine lv_iadd hx hb dL_law_512 ?_
  refine k_top (v := nI (i + 2)) (nI_add i 2) ?_
  refine va_sld hx hb hX hbl hbA hS (vp_in_nI (n := i + 2) (N := L) (by omega) (by omega)) dL_law_513 ?_
  refine c_goi hS hFx (va_runV (As := [.int (xs (nI (i + 1)).toNatClampNeg), .int (xs (nI (i + 2)).toNatClampNeg)]) (rest := []) ⟨hx, hb, hml, hown, hts⟩ (h_move_X8 l D g σx (zE ev σx) zE_ok Mx Nx Rx x gx ((xs (nI (i + 1)).toNatClampNeg)) ((xs (nI (i + 2)).toNatClampNeg))) (cwV 2 hts gL_law_X8_move rfl rfl rfl (by decide +kernel) ⟨Nat.le_of_ble_eq_true rfl, Nat.le_of_ble_eq_true rfl⟩) (c_preV hK hE hS hFx wx tx gx (by decide) rfl) rfl rfl hl.1 rfl (lv_room (Nat.le_of_ble_eq_true rfl)) dL_law_514 ⟨Nat.le_of_ble_eq_true rfl, Nat.le_of_ble_eq_true rfl⟩) (fun r1 Mx1 Nx1 Rx1 H locs q1 z1 w1 t1 hk1 hS => ?_)
  obtain ⟨eN1, eR1, -⟩ := q1
  subst eN1
  subst eR1
  have wy1 := HW.y wy hd hk1
  have tm1 : Mx1 x 13 = Mx x 13 := z1 x 8 13 gx rfl
  refine lv_pop hx hb dL_law_517 rfl ?_
  refine lv_aload_n hx hb dL_law_518 rfl (lv_at hl 1 rfl) ?_
  refine lv_aload_n hx hb dL_law_519 rfl (lv_at hl 3 rfl) ?_
  refine lv_iload_n hx hb dL_law_520 rfl (lv_at hl 0 rfl) ?_
  refine lv_iconst (v := 1) hx hb dL_law_521 (by decide) ?_
  refine lv_iadd hx hb dL_law_522 ?_
  refine k_top (v := nI (i + 1)) (nI_add i 1) ?_
  refine va_sld hx hb hX hbl hbA hS (vp_in_nI (n := i + 1) (N := L) (by omega) (by omega)) dL_law_523 ?_
  refine lv_aload_n hx hb dL_law_524 rfl (lv_at hl 3 rfl) ?_
  refine lv_iload_n hx hb dL_law_525 rfl (lv_at hl 0 rfl) ?_
  refine lv_iconst (v := 2) hx hb dL_law_526 (by decide) ?_
  refine lv_iadd hx hb dL_law_527 ?_
  refine k_top (v := nI (i + 2)) (nI_add i 2) ?_
  refine va_sld hx hb hX hbl hbA hS (vp_in_nI (n := i + 2) (N := L) (by omega) (by omega)) dL_law_528 ?_
  refine c_goi hS hFy (va_runV (As := [.int (xs (nI (i + 1)).toNatClampNeg), .int (xs (nI (i + 2)).toNatClampNeg)]) (rest := []) ⟨hx, hb, hml, hown, hts⟩ (h_move_X9 l D g σy (zE ev σy) zE_ok My Ny Ry y gy ((xs (nI (i + 1)).toNatClampNeg)) ((xs (nI (i + 2)).toNatClampNeg)) kv wv) (cwV 2 hts gL_law_X9_move rfl rfl rfl (by decide +kernel) ⟨Nat.le_of_ble_eq_true rfl, Nat.le_of_ble_eq_true rfl⟩) (c_preV hK hE hS hFy wy1 ty gy (by decide) rfl) rfl rfl hl.1 rfl (lv_room (Nat.le_of_ble_eq_true rfl)) dL_law_529 ⟨Nat.le_of_ble_eq_true rfl, Nat.le_of_ble_eq_true rfl⟩) (fun r2 My2 Ny2 Ry2 H locs q2 z2 w2 t2 hk2 hS => ?_)
  obtain ⟨eN2, eR2, -, f2_KV, f2_WV⟩ := q2
  subst eN2
  subst eR2
  have wx2 := HW.x w1 hd hk2
  have g2_HV : HV My2 Ry y := HV_ag t2 gy hv (hAd.ag z2 (by decide))
  have g2_CW : CW My2 Ry y := CW_ag t2 gy cw (hAd.ag z2 (by decide))
  have g2_BV : BV My2 Ry y := BV_ag t2 gy bv (hAd.ag z2 (by decide))
  have tm2 : My2 y 64 = My y 64 := z2 y 9 64 gy rfl
  refine lv_pop hx hb dL_law_532 rfl ?_
  refine lv_goto (tgt := 1513) hx hb dL_law_533 (by decide) ?_
  exact kk _ _ _ ⟨σx, Mx1, Nx, Rx, σy, My2, Ny, Ry, wx2, t1, gx, hd, w2, t2, gy, hFy, f2_KV, g2_HV, g2_CW, f2_WV, g2_BV, ((tm1.trans tm).trans tm2.symm), hS⟩ hl
set_option maxHeartbeats 4000000 in
set_option maxRecDepth 100000 in
theorem law_case_10 {p : Program} {l : Launch} {e : Env} {s : State} {m : MethodId} {below : List Frame} {meth : Method} {c : Code} {D : va_G} {g : Nat → ClassId} {ev : Nat → Nat} {b L i : Nat} {xs : Nat → Int32} {A : Nat → Prop} {x y : Nat} {H : Heap} {locs : List Loc} {ls : Array Slot} (C0 : lwC p s m meth c b L xs A D g ev) (hi : i + 6 ≤ L) (hR : lR D g A s H locs x y) (hl : lv_has ls 4 [(3, .int (nI i)), (2, .ref y), (1, .ref x), (0, .ref b)]) (kk : ∀ (H : Heap) (locs : List Loc) (ls : Array Slot), lR D g A s H locs x y → lv_has ls 4 [(3, .int (nI i)), (2, .ref y), (1, .ref x), (0, .ref b)] → W p l e room_1 s m #[Value.ref b] below meth c H locs 364 18454 (lw_Z below #[Value.ref b] s) (F0 m 1513 ls [])) : W p l e room_1 s m #[Value.ref b] below meth c H locs 364 18454 (lw_Z below #[Value.ref b] s) (F0 m 536 ls []) := by
  obtain ⟨hx, hb, hr, hml, hown, hts, hX, hbl, hlocks, hA, hAe, hbA, hK, hE, hL⟩ := C0
  have hown : s.vm.findClass RL = some m.cls := hown
  obtain ⟨σx, Mx, Nx, Rx, σy, My, Ny, Ry, wx, tx, gx, hd, wy, ty, gy, hFy, kv, hv, cw, wv, bv, tm, hS⟩ := hR
  have hFx : ∀ q, σx q ≠ none → A q := fun q h => (hd q h).1
  refine lv_aload_n hx hb dL_law_536 rfl (lv_at hl 2 rfl) ?_
  refine lv_aload_n hx hb dL_law_537 rfl (lv_at hl 3 rfl) ?_
  refine lv_iload_n hx hb dL_law_538 rfl (lv_at hl 0 rfl) ?_
  refine lv_iconst (v := 1) hx hb dL_law_539 (by decide) ?_
  refine lv_iadd hx hb dL_law_540 ?_
  refine k_top (v := nI (i + 1)) (nI_add i 1) ?_
  refine va_sld hx hb hX hbl hbA hS (vp_in_nI (n := i + 1) (N := L) (by omega) (by omega)) dL_law_541 ?_
  refine c_goi hS hFx (va_runV (As := [.int (xs (nI (i + 1)).toNatClampNeg)]) (rest := []) ⟨hx, hb, hml, hown, hts⟩ (h_leave_X8 l D g σx (zE ev σx) zE_ok Mx Nx Rx x gx ((xs (nI (i + 1)).toNatClampNeg))) (cwV 1 hts gL_law_X8_leave rfl rfl rfl (by decide +kernel) ⟨Nat.le_of_ble_eq_true rfl, Nat.le_of_ble_eq_true rfl⟩) (c_preV hK hE hS hFx wx tx gx (by decide) rfl) rfl rfl hl.1 rfl (lv_room (Nat.le_of_ble_eq_true rfl)) dL_law_542 ⟨Nat.le_of_ble_eq_true rfl, Nat.le_of_ble_eq_true rfl⟩) (fun r1 Mx1 Nx1 Rx1 H locs q1 z1 w1 t1 hk1 hS => ?_)
  obtain ⟨eN1, eR1, -⟩ := q1
  subst eN1
  subst eR1
  have wy1 := HW.y wy hd hk1
  have tm1 : Mx1 x 13 = Mx x 13 := z1 x 8 13 gx rfl
  refine lv_pop hx hb dL_law_545 rfl ?_
  refine lv_aload_n hx hb dL_law_546 rfl (lv_at hl 1 rfl) ?_
  refine lv_aload_n hx hb dL_law_547 rfl (lv_at hl 3 rfl) ?_
  refine lv_iload_n hx hb dL_law_548 rfl (lv_at hl 0 rfl) ?_
  refine lv_iconst (v := 1) hx hb dL_law_549 (by decide) ?_
  refine lv_iadd hx hb dL_law_550 ?_
  refine k_top (v := nI (i + 1)) (nI_add i 1) ?_
  refine va_sld hx hb hX hbl hbA hS (vp_in_nI (n := i + 1) (N := L) (by omega) (by omega)) dL_law_551 ?_
  refine c_goi hS hFy (va_runV (As := [.int (xs (nI (i + 1)).toNatClampNeg)]) (rest := []) ⟨hx, hb, hml, hown, hts⟩ (h_leave_X9 l D g σy (zE ev σy) zE_ok My Ny Ry y gy ((xs (nI (i + 1)).toNatClampNeg)) kv wv) (cwV 1 hts gL_law_X9_leave rfl rfl rfl (by decide +kernel) ⟨Nat.le_of_ble_eq_true rfl, Nat.le_of_ble_eq_true rfl⟩) (c_preV hK hE hS hFy wy1 ty gy (by decide) rfl) rfl rfl hl.1 rfl (lv_room (Nat.le_of_ble_eq_true rfl)) dL_law_552 ⟨Nat.le_of_ble_eq_true rfl, Nat.le_of_ble_eq_true rfl⟩) (fun r2 My2 Ny2 Ry2 H locs q2 z2 w2 t2 hk2 hS => ?_)
  obtain ⟨eN2, eR2, -, f2_KV, f2_WV⟩ := q2
  subst eN2
  subst eR2
  have wx2 := HW.x w1 hd hk2
  have g2_HV : HV My2 Ry y := HV_ag t2 gy hv (hAd.ag z2 (by decide))
  have g2_CW : CW My2 Ry y := CW_ag t2 gy cw (hAd.ag z2 (by decide))
  have g2_BV : BV My2 Ry y := BV_ag t2 gy bv (hAd.ag z2 (by decide))
  have tm2 : My2 y 64 = My y 64 := z2 y 9 64 gy rfl
  refine lv_pop hx hb dL_law_555 rfl ?_
  refine lv_goto (tgt := 1513) hx hb dL_law_556 (by decide) ?_
  exact kk _ _ _ ⟨σx, Mx1, Nx, Rx, σy, My2, Ny, Ry, wx2, t1, gx, hd, w2, t2, gy, hFy, f2_KV, g2_HV, g2_CW, f2_WV, g2_BV, ((tm1.trans tm).trans tm2.symm), hS⟩ hl
set_option maxHeartbeats 4000000 in
set_option maxRecDepth 100000 in
theorem law_case_11 {p : Program} {l : Launch} {e : Env} {s : State} {m : MethodId} {below : List Frame} {meth : Method} {c : Code} {D : va_G} {g : Nat → ClassId} {ev : Nat → Nat} {b L i : Nat} {xs : Nat → Int32} {A : Nat → Prop} {x y : Nat} {H : Heap} {locs : List Loc} {ls : Array Slot} (C0 : lwC p s m meth c b L xs A D g ev) (hi : i + 6 ≤ L) (hR : lR D g A s H locs x y) (hl : lv_has ls 4 [(3, .int (nI i)), (2, .ref y), (1, .ref x), (0, .ref b)]) (kk : ∀ (H : Heap) (locs : List Loc) (ls : Array Slot), lR D g A s H locs x y → lv_has ls 4 [(3, .int (nI i)), (2, .ref y), (1, .ref x), (0, .ref b)] → W p l e room_1 s m #[Value.ref b] below meth c H locs 364 18454 (lw_Z below #[Value.ref b] s) (F0 m 1513 ls [])) : W p l e room_1 s m #[Value.ref b] below meth c H locs 364 18454 (lw_Z below #[Value.ref b] s) (F0 m 559 ls []) := by
  obtain ⟨hx, hb, hr, hml, hown, hts, hX, hbl, hlocks, hA, hAe, hbA, hK, hE, hL⟩ := C0
  have hown : s.vm.findClass RL = some m.cls := hown
  obtain ⟨σx, Mx, Nx, Rx, σy, My, Ny, Ry, wx, tx, gx, hd, wy, ty, gy, hFy, kv, hv, cw, wv, bv, tm, hS⟩ := hR
  have hFx : ∀ q, σx q ≠ none → A q := fun q h => (hd q h).1
  refine lv_aload_n hx hb dL_law_559 rfl (lv_at hl 2 rfl) ?_
  refine lv_aload_n hx hb dL_law_560 rfl (lv_at hl 3 rfl) ?_
  refine lv_iload_n hx hb dL_law_561 rfl (lv_at hl 0 rfl) ?_
  refine lv_iconst (v := 1) hx hb dL_law_562 (by decide) ?_
  refine lv_iadd hx hb dL_law_563 ?_
  refine k_top (v := nI (i + 1)) (nI_add i 1) ?_
  refine va_sld hx hb hX hbl hbA hS (vp_in_nI (n := i + 1) (N := L) (by omega) (by omega)) dL_law_564 ?_
  refine lv_aload_n hx hb dL_law_565 rfl (lv_at hl 3 rfl) ?_
  refine lv_iload_n hx hb dL_law_566 rfl (lv_at hl 0 rfl) ?_
  refine lv_iconst (v := 2) hx hb dL_law_567 (by decide) ?_
  refine lv_iadd hx hb dL_law_568 ?_
  refine k_top (v := nI (i + 2)) (nI_add i 2) ?_
  refine va_sld hx hb hX hbl hbA hS (vp_in_nI (n := i + 2) (N := L) (by omega) (by omega)) dL_law_569 ?_
  refine c_goi hS hFx (va_runV (As := [.int (xs (nI (i + 1)).toNatClampNeg), .int (xs (nI (i + 2)).toNatClampNeg)]) (rest := []) ⟨hx, hb, hml, hown, hts⟩ (h_exchange_X8 l D g σx (zE ev σx) zE_ok Mx Nx Rx x gx ((xs (nI (i + 1)).toNatClampNeg)) ((xs (nI (i + 2)).toNatClampNeg))) (cwV 2 hts gL_law_X8_exchange rfl rfl rfl (by decide +kernel) ⟨Nat.le_of_ble_eq_true rfl, Nat.le_of_ble_eq_true rfl⟩) (c_preV hK hE hS hFx wx tx gx (by decide) rfl) rfl rfl hl.1 rfl (lv_room (Nat.le_of_ble_eq_true rfl)) dL_law_570 ⟨Nat.le_of_ble_eq_true rfl, Nat.le_of_ble_eq_true rfl⟩) (fun r1 Mx1 Nx1 Rx1 H locs q1 z1 w1 t1 hk1 hS => ?_)
  obtain ⟨eN1, eR1, -⟩ := q1
  subst eN1
  subst eR1
  have wy1 := HW.y wy hd hk1
  have tm1 : Mx1 x 13 = Mx x 13 := z1 x 8 13 gx rfl
  refine lv_pop hx hb dL_law_573 rfl ?_
  refine lv_aload_n hx hb dL_law_574 rfl (lv_at hl 1 rfl) ?_
  refine lv_aload_n hx hb dL_law_575 rfl (lv_at hl 3 rfl) ?_
  refine lv_iload_n hx hb dL_law_576 rfl (lv_at hl 0 rfl) ?_
  refine lv_iconst (v := 1) hx hb dL_law_577 (by decide) ?_
  refine lv_iadd hx hb dL_law_578 ?_
  refine k_top (v := nI (i + 1)) (nI_add i 1) ?_
  refine va_sld hx hb hX hbl hbA hS (vp_in_nI (n := i + 1) (N := L) (by omega) (by omega)) dL_law_579 ?_
  refine lv_aload_n hx hb dL_law_580 rfl (lv_at hl 3 rfl) ?_
  refine lv_iload_n hx hb dL_law_581 rfl (lv_at hl 0 rfl) ?_
  refine lv_iconst (v := 2) hx hb dL_law_582 (by decide) ?_
  refine lv_iadd hx hb dL_law_583 ?_
  refine k_top (v := nI (i + 2)) (nI_add i 2) ?_
  refine va_sld hx hb hX hbl hbA hS (vp_in_nI (n := i + 2) (N := L) (by omega) (by omega)) dL_law_584 ?_
  refine c_goi hS hFy (va_runV (As := [.int (xs (nI (i + 1)).toNatClampNeg), .int (xs (nI (i + 2)).toNatClampNeg)]) (rest := []) ⟨hx, hb, hml, hown, hts⟩ (h_exchange_X9 l D g σy (zE ev σy) zE_ok My Ny Ry y gy ((xs (nI (i + 1)).toNatClampNeg)) ((xs (nI (i + 2)).toNatClampNeg)) kv wv) (cwV 2 hts gL_law_X9_exchange rfl rfl rfl (by decide +kernel) ⟨Nat.le_of_ble_eq_true rfl, Nat.le_of_ble_eq_true rfl⟩) (c_preV hK hE hS hFy wy1 ty gy (by decide) rfl) rfl rfl hl.1 rfl (lv_room (Nat.le_of_ble_eq_true rfl)) dL_law_585 ⟨Nat.le_of_ble_eq_true rfl, Nat.le_of_ble_eq_true rfl⟩) (fun r2 My2 Ny2 Ry2 H locs q2 z2 w2 t2 hk2 hS => ?_)
  obtain ⟨eN2, eR2, -, f2_KV, f2_WV⟩ := q2
  subst eN2
  subst eR2
  have wx2 := HW.x w1 hd hk2
  have g2_HV : HV My2 Ry y := HV_ag t2 gy hv (hAd.ag z2 (by decide))
  have g2_CW : CW My2 Ry y := CW_ag t2 gy cw (hAd.ag z2 (by decide))
  have g2_BV : BV My2 Ry y := BV_ag t2 gy bv (hAd.ag z2 (by decide))
  have tm2 : My2 y 64 = My y 64 := z2 y 9 64 gy rfl
  refine lv_pop hx hb dL_law_588 rfl ?_
  refine lv_goto (tgt := 1513) hx hb dL_law_589 (by decide) ?_
  exact kk _ _ _ ⟨σx, Mx1, Nx, Rx, σy, My2, Ny, Ry, wx2, t1, gx, hd, w2, t2, gy, hFy, f2_KV, g2_HV, g2_CW, f2_WV, g2_BV, ((tm1.trans tm).trans tm2.symm), hS⟩ hl
set_option maxHeartbeats 4000000 in
set_option maxRecDepth 100000 in
theorem law_case_12 {p : Program} {l : Launch} {e : Env} {s : State} {m : MethodId} {below : List Frame} {meth : Method} {c : Code} {D : va_G} {g : Nat → ClassId} {ev : Nat → Nat} {b L i : Nat} {xs : Nat → Int32} {A : Nat → Prop} {x y : Nat} {H : Heap} {locs : List Loc} {ls : Array Slot} (C0 : lwC p s m meth c b L xs A D g ev) (hi : i + 6 ≤ L) (hR : lR D g A s H locs x y) (hl : lv_has ls 4 [(3, .int (nI i)), (2, .ref y), (1, .ref x), (0, .ref b)]) (kk : ∀ (H : Heap) (locs : List Loc) (ls : Array Slot), lR D g A s H locs x y → lv_has ls 4 [(3, .int (nI i)), (2, .ref y), (1, .ref x), (0, .ref b)] → W p l e room_1 s m #[Value.ref b] below meth c H locs 364 18454 (lw_Z below #[Value.ref b] s) (F0 m 1513 ls [])) : W p l e room_1 s m #[Value.ref b] below meth c H locs 364 18454 (lw_Z below #[Value.ref b] s) (F0 m 592 ls []) := by
  obtain ⟨hx, hb, hr, hml, hown, hts, hX, hbl, hlocks, hA, hAe, hbA, hK, hE, hL⟩ := C0
  have hown : s.vm.findClass RL = some m.cls := hown
  obtain ⟨σx, Mx, Nx, Rx, σy, My, Ny, Ry, wx, tx, gx, hd, wy, ty, gy, hFy, kv, hv, cw, wv, bv, tm, hS⟩ := hR
  have hFx : ∀ q, σx q ≠ none → A q := fun q h => (hd q h).1
  refine lv_aload_n hx hb dL_law_592 rfl (lv_at hl 2 rfl) ?_
  refine lv_aload_n hx hb dL_law_593 rfl (lv_at hl 3 rfl) ?_
  refine lv_iload_n hx hb dL_law_594 rfl (lv_at hl 0 rfl) ?_
  refine lv_iconst (v := 1) hx hb dL_law_595 (by decide) ?_
  refine lv_iadd hx hb dL_law_596 ?_
  refine k_top (v := nI (i + 1)) (nI_add i 1) ?_
  refine va_sld hx hb hX hbl hbA hS (vp_in_nI (n := i + 1) (N := L) (by omega) (by omega)) dL_law_597 ?_
  refine lv_aload_n hx hb dL_law_598 rfl (lv_at hl 3 rfl) ?_
  refine lv_iload_n hx hb dL_law_599 rfl (lv_at hl 0 rfl) ?_
  refine lv_iconst (v := 2) hx hb dL_law_600 (by decide) ?_
  refine lv_iadd hx hb dL_law_601 ?_
  refine k_top (v := nI (i + 2)) (nI_add i 2) ?_
  refine va_sld hx hb hX hbl hbA hS (vp_in_nI (n := i + 2) (N := L) (by omega) (by omega)) dL_law_602 ?_
  refine c_goi hS hFx (va_runV (As := [.int (xs (nI (i + 1)).toNatClampNeg), .int (xs (nI (i + 2)).toNatClampNeg)]) (rest := []) ⟨hx, hb, hml, hown, hts⟩ (h_claim_X8 l D g σx (zE ev σx) zE_ok Mx Nx Rx x gx ((xs (nI (i + 1)).toNatClampNeg)) ((xs (nI (i + 2)).toNatClampNeg))) (cwV 2 hts gL_law_X8_claim rfl rfl rfl (by decide +kernel) ⟨Nat.le_of_ble_eq_true rfl, Nat.le_of_ble_eq_true rfl⟩) (c_preV hK hE hS hFx wx tx gx (by decide) rfl) rfl rfl hl.1 rfl (lv_room (Nat.le_of_ble_eq_true rfl)) dL_law_603 ⟨Nat.le_of_ble_eq_true rfl, Nat.le_of_ble_eq_true rfl⟩) (fun r1 Mx1 Nx1 Rx1 H locs q1 z1 w1 t1 hk1 hS => ?_)
  obtain ⟨eN1, eR1⟩ := q1
  subst eN1
  subst eR1
  have wy1 := HW.y wy hd hk1
  have tm1 : Mx1 x 13 = Mx x 13 := z1 x 8 13 gx rfl
  refine lv_pop hx hb dL_law_606 rfl ?_
  refine lv_aload_n hx hb dL_law_607 rfl (lv_at hl 1 rfl) ?_
  refine lv_aload_n hx hb dL_law_608 rfl (lv_at hl 3 rfl) ?_
  refine lv_iload_n hx hb dL_law_609 rfl (lv_at hl 0 rfl) ?_
  refine lv_iconst (v := 1) hx hb dL_law_610 (by decide) ?_
  refine lv_iadd hx hb dL_law_611 ?_
  refine k_top (v := nI (i + 1)) (nI_add i 1) ?_
  refine va_sld hx hb hX hbl hbA hS (vp_in_nI (n := i + 1) (N := L) (by omega) (by omega)) dL_law_612 ?_
  refine lv_aload_n hx hb dL_law_613 rfl (lv_at hl 3 rfl) ?_
  refine lv_iload_n hx hb dL_law_614 rfl (lv_at hl 0 rfl) ?_
  refine lv_iconst (v := 2) hx hb dL_law_615 (by decide) ?_
  refine lv_iadd hx hb dL_law_616 ?_
  refine k_top (v := nI (i + 2)) (nI_add i 2) ?_
  refine va_sld hx hb hX hbl hbA hS (vp_in_nI (n := i + 2) (N := L) (by omega) (by omega)) dL_law_617 ?_
  refine c_goi hS hFy (va_runV (As := [.int (xs (nI (i + 1)).toNatClampNeg), .int (xs (nI (i + 2)).toNatClampNeg)]) (rest := []) ⟨hx, hb, hml, hown, hts⟩ (h_claim_X9 l D g σy (zE ev σy) zE_ok My Ny Ry y gy ((xs (nI (i + 1)).toNatClampNeg)) ((xs (nI (i + 2)).toNatClampNeg)) kv wv) (cwV 2 hts gL_law_X9_claim rfl rfl rfl (by decide +kernel) ⟨Nat.le_of_ble_eq_true rfl, Nat.le_of_ble_eq_true rfl⟩) (c_preV hK hE hS hFy wy1 ty gy (by decide) rfl) rfl rfl hl.1 rfl (lv_room (Nat.le_of_ble_eq_true rfl)) dL_law_618 ⟨Nat.le_of_ble_eq_true rfl, Nat.le_of_ble_eq_true rfl⟩) (fun r2 My2 Ny2 Ry2 H locs q2 z2 w2 t2 hk2 hS => ?_)
  obtain ⟨eN2, eR2, f2_KV, f2_WV⟩ := q2
  subst eN2
  subst eR2
  have wx2 := HW.x w1 hd hk2
  have g2_HV : HV My2 Ry y := HV_ag t2 gy hv (hAd.ag z2 (by decide))
  have g2_CW : CW My2 Ry y := CW_ag t2 gy cw (hAd.ag z2 (by decide))
  have g2_BV : BV My2 Ry y := BV_ag t2 gy bv (hAd.ag z2 (by decide))
  have tm2 : My2 y 64 = My y 64 := z2 y 9 64 gy rfl
  refine lv_pop hx hb dL_law_621 rfl ?_
  refine lv_goto (tgt := 1513) hx hb dL_law_622 (by decide) ?_
  exact kk _ _ _ ⟨σx, Mx1, Nx, Rx, σy, My2, Ny, Ry, wx2, t1, gx, hd, w2, t2, gy, hFy, f2_KV, g2_HV, g2_CW, f2_WV, g2_BV, ((tm1.trans tm).trans tm2.symm), hS⟩ hl
set_option maxHeartbeats 4000000 in
set_option maxRecDepth 100000 in
theorem law_case_13 {p : Program} {l : Launch} {e : Env} {s : State} {m : MethodId} {below : List Frame} {meth : Method} {c : Code} {D : va_G} {g : Nat → ClassId} {ev : Nat → Nat} {b L i : Nat} {xs : Nat → Int32} {A : Nat → Prop} {x y : Nat} {H : Heap} {locs : List Loc} {ls : Array Slot} (C0 : lwC p s m meth c b L xs A D g ev) (hi : i + 6 ≤ L) (hR : lR D g A s H locs x y) (hl : lv_has ls 4 [(3, .int (nI i)), (2, .ref y), (1, .ref x), (0, .ref b)]) (kk : ∀ (H : Heap) (locs : List Loc) (ls : Array Slot), lR D g A s H locs x y → lv_has ls 4 [(3, .int (nI i)), (2, .ref y), (1, .ref x), (0, .ref b)] → W p l e room_1 s m #[Value.ref b] below meth c H locs 364 18454 (lw_Z below #[Value.ref b] s) (F0 m 1513 ls [])) : W p l e room_1 s m #[Value.ref b] below meth c H locs 364 18454 (lw_Z below #[Value.ref b] s) (F0 m 625 ls []) := by
  obtain ⟨hx, hb, hr, hml, hown, hts, hX, hbl, hlocks, hA, hAe, hbA, hK, hE, hL⟩ := C0
  have hown : s.vm.findClass RL = some m.cls := hown
  obtain ⟨σx, Mx, Nx, Rx, σy, My, Ny, Ry, wx, tx, gx, hd, wy, ty, gy, hFy, kv, hv, cw, wv, bv, tm, hS⟩ := hR
  have hFx : ∀ q, σx q ≠ none → A q := fun q h => (hd q h).1
  refine lv_aload_n hx hb dL_law_625 rfl (lv_at hl 2 rfl) ?_
  refine lv_aload_n hx hb dL_law_626 rfl (lv_at hl 3 rfl) ?_
  refine lv_iload_n hx hb dL_law_627 rfl (lv_at hl 0 rfl) ?_
  refine lv_iconst (v := 1) hx hb dL_law_628 (by decide) ?_
  refine lv_iadd hx hb dL_law_629 ?_
  refine k_top (v := nI (i + 1)) (nI_add i 1) ?_
  refine va_sld hx hb hX hbl hbA hS (vp_in_nI (n := i + 1) (N := L) (by omega) (by omega)) dL_law_630 ?_
  refine lv_aload_n hx hb dL_law_631 rfl (lv_at hl 3 rfl) ?_
  refine lv_iload_n hx hb dL_law_632 rfl (lv_at hl 0 rfl) ?_
  refine lv_iconst (v := 2) hx hb dL_law_633 (by decide) ?_
  refine lv_iadd hx hb dL_law_634 ?_
  refine k_top (v := nI (i + 2)) (nI_add i 2) ?_
  refine va_sld hx hb hX hbl hbA hS (vp_in_nI (n := i + 2) (N := L) (by omega) (by omega)) dL_law_635 ?_
  refine c_goi hS hFx (va_runV (As := [.int (xs (nI (i + 1)).toNatClampNeg), .int (xs (nI (i + 2)).toNatClampNeg)]) (rest := []) ⟨hx, hb, hml, hown, hts⟩ (h_spend_X8 l D g σx (zE ev σx) zE_ok Mx Nx Rx x gx ((xs (nI (i + 1)).toNatClampNeg)) ((xs (nI (i + 2)).toNatClampNeg))) (cwV 2 hts gL_law_X8_spend rfl rfl rfl (by decide +kernel) ⟨Nat.le_of_ble_eq_true rfl, Nat.le_of_ble_eq_true rfl⟩) (c_preV hK hE hS hFx wx tx gx (by decide) rfl) rfl rfl hl.1 rfl (lv_room (Nat.le_of_ble_eq_true rfl)) dL_law_636 ⟨Nat.le_of_ble_eq_true rfl, Nat.le_of_ble_eq_true rfl⟩) (fun r1 Mx1 Nx1 Rx1 H locs q1 z1 w1 t1 hk1 hS => ?_)
  obtain ⟨eN1, eR1⟩ := q1
  subst eN1
  subst eR1
  have wy1 := HW.y wy hd hk1
  have tm1 : Mx1 x 13 = Mx x 13 := z1 x 8 13 gx rfl
  refine lv_pop hx hb dL_law_639 rfl ?_
  refine lv_aload_n hx hb dL_law_640 rfl (lv_at hl 1 rfl) ?_
  refine lv_aload_n hx hb dL_law_641 rfl (lv_at hl 3 rfl) ?_
  refine lv_iload_n hx hb dL_law_642 rfl (lv_at hl 0 rfl) ?_
  refine lv_iconst (v := 1) hx hb dL_law_643 (by decide) ?_
  refine lv_iadd hx hb dL_law_644 ?_
  refine k_top (v := nI (i + 1)) (nI_add i 1) ?_
  refine va_sld hx hb hX hbl hbA hS (vp_in_nI (n := i + 1) (N := L) (by omega) (by omega)) dL_law_645 ?_
  refine lv_aload_n hx hb dL_law_646 rfl (lv_at hl 3 rfl) ?_
  refine lv_iload_n hx hb dL_law_647 rfl (lv_at hl 0 rfl) ?_
  refine lv_iconst (v := 2) hx hb dL_law_648 (by decide) ?_
  refine lv_iadd hx hb dL_law_649 ?_
  refine k_top (v := nI (i + 2)) (nI_add i 2) ?_
  refine va_sld hx hb hX hbl hbA hS (vp_in_nI (n := i + 2) (N := L) (by omega) (by omega)) dL_law_650 ?_
  refine c_goi hS hFy (va_runV (As := [.int (xs (nI (i + 1)).toNatClampNeg), .int (xs (nI (i + 2)).toNatClampNeg)]) (rest := []) ⟨hx, hb, hml, hown, hts⟩ (h_spend_X9 l D g σy (zE ev σy) zE_ok My Ny Ry y gy ((xs (nI (i + 1)).toNatClampNeg)) ((xs (nI (i + 2)).toNatClampNeg)) kv wv) (cwV 2 hts gL_law_X9_spend rfl rfl rfl (by decide +kernel) ⟨Nat.le_of_ble_eq_true rfl, Nat.le_of_ble_eq_true rfl⟩) (c_preV hK hE hS hFy wy1 ty gy (by decide) rfl) rfl rfl hl.1 rfl (lv_room (Nat.le_of_ble_eq_true rfl)) dL_law_651 ⟨Nat.le_of_ble_eq_true rfl, Nat.le_of_ble_eq_true rfl⟩) (fun r2 My2 Ny2 Ry2 H locs q2 z2 w2 t2 hk2 hS => ?_)
  obtain ⟨eN2, eR2, f2_KV, f2_WV⟩ := q2
  subst eN2
  subst eR2
  have wx2 := HW.x w1 hd hk2
  have g2_HV : HV My2 Ry y := HV_ag t2 gy hv (hAd.ag z2 (by decide))
  have g2_CW : CW My2 Ry y := CW_ag t2 gy cw (hAd.ag z2 (by decide))
  have g2_BV : BV My2 Ry y := BV_ag t2 gy bv (hAd.ag z2 (by decide))
  have tm2 : My2 y 64 = My y 64 := z2 y 9 64 gy rfl
  refine lv_pop hx hb dL_law_654 rfl ?_
  refine lv_goto (tgt := 1513) hx hb dL_law_655 (by decide) ?_
  exact kk _ _ _ ⟨σx, Mx1, Nx, Rx, σy, My2, Ny, Ry, wx2, t1, gx, hd, w2, t2, gy, hFy, f2_KV, g2_HV, g2_CW, f2_WV, g2_BV, ((tm1.trans tm).trans tm2.symm), hS⟩ hl
set_option maxHeartbeats 4000000 in
set_option maxRecDepth 100000 in
theorem law_case_14 {p : Program} {l : Launch} {e : Env} {s : State} {m : MethodId} {below : List Frame} {meth : Method} {c : Code} {D : va_G} {g : Nat → ClassId} {ev : Nat → Nat} {b L i : Nat} {xs : Nat → Int32} {A : Nat → Prop} {x y : Nat} {H : Heap} {locs : List Loc} {ls : Array Slot} (C0 : lwC p s m meth c b L xs A D g ev) (hi : i + 6 ≤ L) (hR : lR D g A s H locs x y) (hl : lv_has ls 4 [(3, .int (nI i)), (2, .ref y), (1, .ref x), (0, .ref b)]) (kk : ∀ (H : Heap) (locs : List Loc) (ls : Array Slot), lR D g A s H locs x y → lv_has ls 4 [(3, .int (nI i)), (2, .ref y), (1, .ref x), (0, .ref b)] → W p l e room_1 s m #[Value.ref b] below meth c H locs 364 18454 (lw_Z below #[Value.ref b] s) (F0 m 1513 ls [])) : W p l e room_1 s m #[Value.ref b] below meth c H locs 364 18454 (lw_Z below #[Value.ref b] s) (F0 m 658 ls []) := by
  obtain ⟨hx, hb, hr, hml, hown, hts, hX, hbl, hlocks, hA, hAe, hbA, hK, hE, hL⟩ := C0
  have hown : s.vm.findClass RL = some m.cls := hown
  obtain ⟨σx, Mx, Nx, Rx, σy, My, Ny, Ry, wx, tx, gx, hd, wy, ty, gy, hFy, kv, hv, cw, wv, bv, tm, hS⟩ := hR
  have hFx : ∀ q, σx q ≠ none → A q := fun q h => (hd q h).1
  refine lv_aload_n hx hb dL_law_658 rfl (lv_at hl 2 rfl) ?_
  refine lv_aload_n hx hb dL_law_659 rfl (lv_at hl 3 rfl) ?_
  refine lv_iload_n hx hb dL_law_660 rfl (lv_at hl 0 rfl) ?_
  refine lv_iconst (v := 1) hx hb dL_law_661 (by decide) ?_
  refine lv_iadd hx hb dL_law_662 ?_
  refine k_top (v := nI (i + 1)) (nI_add i 1) ?_
  refine va_sld hx hb hX hbl hbA hS (vp_in_nI (n := i + 1) (N := L) (by omega) (by omega)) dL_law_663 ?_
  refine lv_aload_n hx hb dL_law_664 rfl (lv_at hl 3 rfl) ?_
  refine lv_iload_n hx hb dL_law_665 rfl (lv_at hl 0 rfl) ?_
  refine lv_iconst (v := 2) hx hb dL_law_666 (by decide) ?_
  refine lv_iadd hx hb dL_law_667 ?_
  refine k_top (v := nI (i + 2)) (nI_add i 2) ?_
  refine va_sld hx hb hX hbl hbA hS (vp_in_nI (n := i + 2) (N := L) (by omega) (by omega)) dL_law_668 ?_
  refine c_goi hS hFx (va_runV (As := [.int (xs (nI (i + 1)).toNatClampNeg), .int (xs (nI (i + 2)).toNatClampNeg)]) (rest := []) ⟨hx, hb, hml, hown, hts⟩ (h_calm_X8 l D g σx (zE ev σx) zE_ok Mx Nx Rx x gx ((xs (nI (i + 1)).toNatClampNeg)) ((xs (nI (i + 2)).toNatClampNeg))) (cwV 2 hts gL_law_X8_calm rfl rfl rfl (by decide +kernel) ⟨Nat.le_of_ble_eq_true rfl, Nat.le_of_ble_eq_true rfl⟩) (c_preV hK hE hS hFx wx tx gx (by decide) rfl) rfl rfl hl.1 rfl (lv_room (Nat.le_of_ble_eq_true rfl)) dL_law_669 ⟨Nat.le_of_ble_eq_true rfl, Nat.le_of_ble_eq_true rfl⟩) (fun r1 Mx1 Nx1 Rx1 H locs q1 z1 w1 t1 hk1 hS => ?_)
  obtain ⟨eN1, eR1⟩ := q1
  subst eN1
  subst eR1
  have wy1 := HW.y wy hd hk1
  have tm1 : Mx1 x 13 = Mx x 13 := z1 x 8 13 gx rfl
  refine lv_pop hx hb dL_law_672 rfl ?_
  refine lv_aload_n hx hb dL_law_673 rfl (lv_at hl 1 rfl) ?_
  refine lv_aload_n hx hb dL_law_674 rfl (lv_at hl 3 rfl) ?_
  refine lv_iload_n hx hb dL_law_675 rfl (lv_at hl 0 rfl) ?_
  refine lv_iconst (v := 1) hx hb dL_law_676 (by decide) ?_
  refine lv_iadd hx hb dL_law_677 ?_
  refine k_top (v := nI (i + 1)) (nI_add i 1) ?_
  refine va_sld hx hb hX hbl hbA hS (vp_in_nI (n := i + 1) (N := L) (by omega) (by omega)) dL_law_678 ?_
  refine lv_aload_n hx hb dL_law_679 rfl (lv_at hl 3 rfl) ?_
  refine lv_iload_n hx hb dL_law_680 rfl (lv_at hl 0 rfl) ?_
  refine lv_iconst (v := 2) hx hb dL_law_681 (by decide) ?_
  refine lv_iadd hx hb dL_law_682 ?_
  refine k_top (v := nI (i + 2)) (nI_add i 2) ?_
  refine va_sld hx hb hX hbl hbA hS (vp_in_nI (n := i + 2) (N := L) (by omega) (by omega)) dL_law_683 ?_
  refine c_goi hS hFy (va_runV (As := [.int (xs (nI (i + 1)).toNatClampNeg), .int (xs (nI (i + 2)).toNatClampNeg)]) (rest := []) ⟨hx, hb, hml, hown, hts⟩ (h_calm_X9 l D g σy (zE ev σy) zE_ok My Ny Ry y gy ((xs (nI (i + 1)).toNatClampNeg)) ((xs (nI (i + 2)).toNatClampNeg)) kv wv) (cwV 2 hts gL_law_X9_calm rfl rfl rfl (by decide +kernel) ⟨Nat.le_of_ble_eq_true rfl, Nat.le_of_ble_eq_true rfl⟩) (c_preV hK hE hS hFy wy1 ty gy (by decide) rfl) rfl rfl hl.1 rfl (lv_room (Nat.le_of_ble_eq_true rfl)) dL_law_684 ⟨Nat.le_of_ble_eq_true rfl, Nat.le_of_ble_eq_true rfl⟩) (fun r2 My2 Ny2 Ry2 H locs q2 z2 w2 t2 hk2 hS => ?_)
  obtain ⟨eN2, eR2, f2_KV, f2_WV⟩ := q2
  subst eN2
  subst eR2
  have wx2 := HW.x w1 hd hk2
  have g2_HV : HV My2 Ry y := HV_ag t2 gy hv (hAd.ag z2 (by decide))
  have g2_CW : CW My2 Ry y := CW_ag t2 gy cw (hAd.ag z2 (by decide))
  have g2_BV : BV My2 Ry y := BV_ag t2 gy bv (hAd.ag z2 (by decide))
  have tm2 : My2 y 64 = My y 64 := z2 y 9 64 gy rfl
  refine lv_pop hx hb dL_law_687 rfl ?_
  refine lv_goto (tgt := 1513) hx hb dL_law_688 (by decide) ?_
  exact kk _ _ _ ⟨σx, Mx1, Nx, Rx, σy, My2, Ny, Ry, wx2, t1, gx, hd, w2, t2, gy, hFy, f2_KV, g2_HV, g2_CW, f2_WV, g2_BV, ((tm1.trans tm).trans tm2.symm), hS⟩ hl
set_option maxHeartbeats 4000000 in
set_option maxRecDepth 100000 in
theorem law_case_15 {p : Program} {l : Launch} {e : Env} {s : State} {m : MethodId} {below : List Frame} {meth : Method} {c : Code} {D : va_G} {g : Nat → ClassId} {ev : Nat → Nat} {b L i : Nat} {xs : Nat → Int32} {A : Nat → Prop} {x y : Nat} {H : Heap} {locs : List Loc} {ls : Array Slot} (C0 : lwC p s m meth c b L xs A D g ev) (hi : i + 6 ≤ L) (hR : lR D g A s H locs x y) (hl : lv_has ls 4 [(3, .int (nI i)), (2, .ref y), (1, .ref x), (0, .ref b)]) (kk : ∀ (H : Heap) (locs : List Loc) (ls : Array Slot), lR D g A s H locs x y → lv_has ls 4 [(3, .int (nI i)), (2, .ref y), (1, .ref x), (0, .ref b)] → W p l e room_1 s m #[Value.ref b] below meth c H locs 364 18454 (lw_Z below #[Value.ref b] s) (F0 m 1513 ls [])) : W p l e room_1 s m #[Value.ref b] below meth c H locs 364 18454 (lw_Z below #[Value.ref b] s) (F0 m 691 ls []) := by
  obtain ⟨hx, hb, hr, hml, hown, hts, hX, hbl, hlocks, hA, hAe, hbA, hK, hE, hL⟩ := C0
  have hown : s.vm.findClass RL = some m.cls := hown
  obtain ⟨σx, Mx, Nx, Rx, σy, My, Ny, Ry, wx, tx, gx, hd, wy, ty, gy, hFy, kv, hv, cw, wv, bv, tm, hS⟩ := hR
  have hFx : ∀ q, σx q ≠ none → A q := fun q h => (hd q h).1
  refine lv_aload_n hx hb dL_law_691 rfl (lv_at hl 2 rfl) ?_
  refine c_goi hS hFx (va_runV (As := []) (rest := []) ⟨hx, hb, hml, hown, hts⟩ (h_undo_X8 l D g σx (zE ev σx) zE_ok Mx Nx Rx x gx) (cwV 0 hts gL_law_X8_undo rfl rfl rfl (by decide +kernel) ⟨Nat.le_of_ble_eq_true rfl, Nat.le_of_ble_eq_true rfl⟩) (c_preV hK hE hS hFx wx tx gx (by decide) rfl) rfl rfl hl.1 rfl (lv_room (Nat.le_of_ble_eq_true rfl)) dL_law_692 ⟨Nat.le_of_ble_eq_true rfl, Nat.le_of_ble_eq_true rfl⟩) (fun r1 Mx1 Nx1 Rx1 H locs q1 z1 w1 t1 hk1 hS => ?_)
  obtain ⟨eN1, eR1, -⟩ := q1
  subst eN1
  subst eR1
  have wy1 := HW.y wy hd hk1
  have tm1 : Mx1 x 13 = Mx x 13 := z1 x 8 13 gx rfl
  refine lv_pop hx hb dL_law_695 rfl ?_
  refine lv_aload_n hx hb dL_law_696 rfl (lv_at hl 1 rfl) ?_
  refine c_goi hS hFy (va_runV (As := []) (rest := []) ⟨hx, hb, hml, hown, hts⟩ (h_undo_X9 l D g σy (zE ev σy) zE_ok My Ny Ry y gy kv wv) (cwV 0 hts gL_law_X9_undo rfl rfl rfl (by decide +kernel) ⟨Nat.le_of_ble_eq_true rfl, Nat.le_of_ble_eq_true rfl⟩) (c_preV hK hE hS hFy wy1 ty gy (by decide) rfl) rfl rfl hl.1 rfl (lv_room (Nat.le_of_ble_eq_true rfl)) dL_law_697 ⟨Nat.le_of_ble_eq_true rfl, Nat.le_of_ble_eq_true rfl⟩) (fun r2 My2 Ny2 Ry2 H locs q2 z2 w2 t2 hk2 hS => ?_)
  obtain ⟨eN2, eR2, -, f2_KV, f2_WV⟩ := q2
  subst eN2
  subst eR2
  have wx2 := HW.x w1 hd hk2
  have g2_HV : HV My2 Ry y := HV_ag t2 gy hv (hAd.ag z2 (by decide))
  have g2_CW : CW My2 Ry y := CW_ag t2 gy cw (hAd.ag z2 (by decide))
  have g2_BV : BV My2 Ry y := BV_ag t2 gy bv (hAd.ag z2 (by decide))
  have tm2 : My2 y 64 = My y 64 := z2 y 9 64 gy rfl
  refine lv_pop hx hb dL_law_700 rfl ?_
  refine lv_goto (tgt := 1513) hx hb dL_law_701 (by decide) ?_
  exact kk _ _ _ ⟨σx, Mx1, Nx, Rx, σy, My2, Ny, Ry, wx2, t1, gx, hd, w2, t2, gy, hFy, f2_KV, g2_HV, g2_CW, f2_WV, g2_BV, ((tm1.trans tm).trans tm2.symm), hS⟩ hl
