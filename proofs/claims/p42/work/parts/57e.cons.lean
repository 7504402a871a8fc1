set_option maxHeartbeats 4000000 in
set_option maxRecDepth 100000 in
theorem c_X8 (l : Launch) (D : va_G) (g : Nat → ClassId) (ev : Nat → Nat) (sz z : Nat) : Met l yX8_init wsX8_init ({ frames := 5, cells := 322, slots := 7443, locals := 109 }) (va_Pc [.ref z] (cPre D g ev 8 dfX8 z sz)) (cQ D g z 8 (fun M _ => M z 13 = 0) (cA z sz)) 322 7443 (cA z sz) := by
  refine c_head (cc := cX8_init) (maxL := 2) (by decide) rfl (Nat.le_of_ble_eq_true rfl) ?_
  intro p e s m below meth c ls A Q ar hQ hx hb hr hlocks hml hown hin hts hA hAz hK hE hJ hS hl
  have hown : s.vm.findClass RX8 = some m.cls := hown
  have hl : lv_has ls 2 [(0, .ref z)] := hl
  refine lv_aload_n hx hb dX8_init_0 rfl (lv_at hl 0 rfl) ?_
  refine W.objInit hx hb hown (hts (.methodLink RX8 1 objectInit) (List.mem_of_getElem? (i := 1) rfl)) (hts (.instanceMethod objectInit) (List.mem_of_getElem? (i := 2) rfl)) (hts (.code objectInit ⟨#[0xb1]⟩ 1 none) (List.mem_of_getElem? (i := 3) rfl)) rfl (by rw [hml]; exact hl.1) rfl dX8_init_1 (Nat.le_of_ble_eq_true rfl) (Nat.le_of_ble_eq_true rfl) ?_
  refine W.eq (g2 := F0 m 4 ls []) rfl ?_
  refine lv_aload_n hx hb dX8_init_4 rfl (lv_at hl 0 rfl) ?_
  refine lv_sipush (v := 1600) hx hb dX8_init_5 (by decide) ?_
  refine c_newa (atype := .byte) hx hb (hts (.arrayClass .byte) (List.mem_of_getElem? (i := 4) rfl)) rfl hK hJ hS hA 0 rfl 10 (by decide) rfl rfl (tic0 (lo := (-2147483648)) (hi := 2147483647) (fun _ => rfl) (by decide) (by decide)) (fun _ => rfl) (by decide) (by decide) (by decide) (Nat.le_of_ble_eq_true rfl) (Nat.le_of_ble_eq_true rfl) dX8_init_8 (fun q_1 H hJ hS => ?_)
  have hJ : cJ D g A [(z, .inr (8, [.null, .int 0, .null, .null, .null, .null, .null, .int 0, .null, .null, .null, .int 0, .null, .int 0]))] [(q_1, 10)] true H := hJ
  refine W.cs (cells' := 1) (slots' := 1600) rfl rfl ?_
  refine c_putF (D := D) (ci := 8) (v := .ref q_1) (ty := (.array .byte)) (C := RX8) (T := TX8) (N' := 14) hx hb hts iX8_init_X8 tyX8 tyX8_ok nmX8 hown hK hJ hS 0 rfl rfl 0 (by decide) (hts (.fieldLink RX8 9 "CatLeases" "tape" "[B") (List.mem_of_getElem? (i := 5) rfl)) (fun _ h9 => h9) rfl hin rfl (by decide +kernel) rfl rfl (Nat.le_of_ble_eq_true rfl) dX8_init_10 (fun H locs hJ hS => ?_)
  have hJ : cJ D g A [(z, .inr (8, [.ref q_1, .int 0, .null, .null, .null, .null, .null, .int 0, .null, .null, .null, .int 0, .null, .int 0]))] [(q_1, 10)] true H := hJ
  refine lv_aload_n hx hb dX8_init_13 rfl (lv_at hl 0 rfl) ?_
  refine lv_iconst (v := 0) hx hb dX8_init_14 (by decide) ?_
  refine c_put (D := D) (ci := 8) (v := .int 0) (ty := .int) (C := RX8) (T := TX8) (N' := 14) hx hb hts iX8_init_X8 tyX8 tyX8_ok nmX8 hown hK hJ hS 0 rfl rfl 1 (by decide) (hts (.fieldLink RX8 13 "CatLeases" "tapeLength" "I") (List.mem_of_getElem? (i := 6) rfl)) (fun _ h9 => h9) rfl (by decide +kernel) rfl rfl (Nat.le_of_ble_eq_true rfl) dX8_init_15 (fun H locs hJ hS => ?_)
  have hJ : cJ D g A [(z, .inr (8, [.ref q_1, .int 0, .null, .null, .null, .null, .null, .int 0, .null, .null, .null, .int 0, .null, .int 0]))] [(q_1, 10)] true H := hJ
  refine lv_aload_n hx hb dX8_init_18 rfl (lv_at hl 0 rfl) ?_
  refine c_newc (ci := 5) (fs := dfX5) (C := RX5) (T := TX5) (N' := 15) hx hb hts iX8_init_X5 tyX5 tyX5_ok hown (hts (.classLink RX8 17 RX5) (List.mem_of_getElem? (i := 7) rfl)) (hts (.instantiable RX5 15) (List.mem_of_getElem? (i := 8) rfl)) (hts (.initialized RX5) (List.mem_of_getElem? (i := 9) rfl)) hK hJ hS hA rfl fsX5 (Nat.le_of_ble_eq_true rfl) (Nat.le_of_ble_eq_true rfl) dX8_init_19 dX8_init_22 (fun q H1 hat hS hAq => va_runI (As := []) (rest := [.ref q, .ref z]) ⟨hx, hb, hml, hown, hts⟩ (c_X5 l D g ev _ q) (cwI 0 hts gX8_init_X5_init rfl rfl rfl (hts (.initialized RX5) (List.mem_of_getElem? (i := 9) rfl)) (hts (.methodLink RX8 19 yX5_init) (List.mem_of_getElem? (i := 41) rfl)) (hts (.instanceMethod yX5_init) (List.mem_of_getElem? (i := 42) rfl)) rfl (by decide +kernel) ⟨Nat.le_of_ble_eq_true rfl, Nat.le_of_ble_eq_true rfl⟩) (c_preI hK hE hS hA hAq hat) rfl rfl hl.1 rfl (lv_room (Nat.le_of_ble_eq_true rfl)) dX8_init_23 ⟨(Nat.le_of_ble_eq_true rfl), (Nat.le_of_ble_eq_true rfl)⟩) (fun q_2 H locs hJ hS => ?_)
  have hJ : cJ D g A [(z, .inr (8, [.ref q_1, .int 0, .null, .null, .null, .null, .null, .int 0, .null, .null, .null, .int 0, .null, .int 0]))] [(q_2, 5), (q_1, 10)] false H := hJ
  refine W.cs (cells' := 21) (slots' := 2039) rfl rfl ?_
  refine c_putF (D := D) (ci := 8) (v := .ref q_2) (ty := (.object "CatLeases$Reader")) (C := RX8) (T := TX8) (N' := 14) hx hb hts iX8_init_X8 tyX8 tyX8_ok nmX8 hown hK hJ hS 0 rfl rfl 2 (by decide) (hts (.fieldLink RX8 20 "CatLeases" "reader" "LCatLeases$Reader;") (List.mem_of_getElem? (i := 10) rfl)) (fun _ h9 => h9) rfl hin rfl (by decide +kernel) rfl rfl (Nat.le_of_ble_eq_true rfl) dX8_init_26 (fun H locs hJ hS => ?_)
  have hJ : cJ D g A [(z, .inr (8, [.ref q_1, .int 0, .ref q_2, .null, .null, .null, .null, .int 0, .null, .null, .null, .int 0, .null, .int 0]))] [(q_2, 5), (q_1, 10)] false H := hJ
  refine lv_aload_n hx hb dX8_init_29 rfl (lv_at hl 0 rfl) ?_
  refine c_newc (ci := 4) (fs := dfX4) (C := RX4) (T := TX4) (N' := 11) hx hb hts iX8_init_X4 tyX4 tyX4_ok hown (hts (.classLink RX8 24 RX4) (List.mem_of_getElem? (i := 11) rfl)) (hts (.instantiable RX4 11) (List.mem_of_getElem? (i := 12) rfl)) (hts (.initialized RX4) (List.mem_of_getElem? (i := 13) rfl)) hK hJ hS hA rfl fsX4 (Nat.le_of_ble_eq_true rfl) (Nat.le_of_ble_eq_true rfl) dX8_init_30 dX8_init_33 (fun q H1 hat hS hAq => va_runIN (As := []) (rest := [.ref q, .ref z]) ⟨hx, hb, hml, hown, hts⟩ (c_X4 l D g ev _ q) ⟨va_cnB (host := "CatLeases") 0 hts gX8_init_X4_init_n26 rfl rfl rfl (hE.1.1 _ (List.mem_of_getElem? (i := 0) rfl)) (hts (.initialized RX4) (List.mem_of_getElem? (i := 13) rfl)) (by decide +kernel) ⟨Nat.le_of_ble_eq_true rfl, Nat.le_of_ble_eq_true rfl⟩, rfl, (hts (.instanceMethod yX4_init) (List.mem_of_getElem? (i := 62) rfl))⟩ (c_preI hK hE hS hA hAq hat) rfl rfl hl.1 rfl (lv_room (Nat.le_of_ble_eq_true rfl)) dX8_init_34 ⟨(Nat.le_of_ble_eq_true rfl), (Nat.le_of_ble_eq_true rfl)⟩) (fun q_3 H locs hJ hS => ?_)
  have hJ : cJ D g A [(z, .inr (8, [.ref q_1, .int 0, .ref q_2, .null, .null, .null, .null, .int 0, .null, .null, .null, .int 0, .null, .int 0]))] [(q_3, 4), (q_2, 5), (q_1, 10)] false H := hJ
  refine W.cs (cells' := 35) (slots' := 2423) rfl rfl ?_
  refine c_put (D := D) (ci := 8) (v := .ref q_3) (ty := (.object "CatLeases$Mews")) (C := RX8) (T := TX8) (N' := 14) hx hb hts iX8_init_X8 tyX8 tyX8_ok nmX8 hown hK hJ hS 0 rfl rfl 3 (by decide) (hts (.fieldLink RX8 27 "CatLeases" "mews" "LCatLeases$Mews;") (List.mem_of_getElem? (i := 14) rfl)) (fun _ h9 => h9) rfl (by decide +kernel) rfl rfl (Nat.le_of_ble_eq_true rfl) dX8_init_37 (fun H locs hJ hS => ?_)
  have hJ : cJ D g A [(z, .inr (8, [.ref q_1, .int 0, .ref q_2, .ref q_3, .null, .null, .null, .int 0, .null, .null, .null, .int 0, .null, .int 0]))] [(q_3, 4), (q_2, 5), (q_1, 10)] false H := hJ
  refine lv_aload_n hx hb dX8_init_40 rfl (lv_at hl 0 rfl) ?_
  refine c_newc (ci := 0) (fs := dfX0) (C := RX0) (T := TX0) (N' := 4) hx hb hts iX8_init_X0 tyX0 tyX0_ok hown (hts (.classLink RX8 31 RX0) (List.mem_of_getElem? (i := 15) rfl)) (hts (.instantiable RX0 4) (List.mem_of_getElem? (i := 16) rfl)) (hts (.initialized RX0) (List.mem_of_getElem? (i := 17) rfl)) hK hJ hS hA rfl fsX0 (Nat.le_of_ble_eq_true rfl) (Nat.le_of_ble_eq_true rfl) dX8_init_41 dX8_init_44 (fun q H1 hat hS hAq => va_runI (As := []) (rest := [.ref q, .ref z]) ⟨hx, hb, hml, hown, hts⟩ (c_X0 l D g ev _ q) (cwI 0 hts gX8_init_X0_init rfl rfl rfl (hts (.initialized RX0) (List.mem_of_getElem? (i := 17) rfl)) (hts (.methodLink RX8 33 yX0_init) (List.mem_of_getElem? (i := 155) rfl)) (hts (.instanceMethod yX0_init) (List.mem_of_getElem? (i := 156) rfl)) rfl (by decide +kernel) ⟨Nat.le_of_ble_eq_true rfl, Nat.le_of_ble_eq_true rfl⟩) (c_preI hK hE hS hA hAq hat) rfl rfl hl.1 rfl (lv_room (Nat.le_of_ble_eq_true rfl)) dX8_init_45 ⟨(Nat.le_of_ble_eq_true rfl), (Nat.le_of_ble_eq_true rfl)⟩) (fun q_4 H locs hJ hS => ?_)
  have hJ : cJ D g A [(z, .inr (8, [.ref q_1, .int 0, .ref q_2, .ref q_3, .null, .null, .null, .int 0, .null, .null, .null, .int 0, .null, .int 0]))] [(q_4, 0), (q_3, 4), (q_2, 5), (q_1, 10)] false H := hJ
  refine W.cs (cells' := 283) (slots' := 4272) rfl rfl ?_
  refine c_putF (D := D) (ci := 8) (v := .ref q_4) (ty := (.object "CatLeases$Acts")) (C := RX8) (T := TX8) (N' := 14) hx hb hts iX8_init_X8 tyX8 tyX8_ok nmX8 hown hK hJ hS 0 rfl rfl 4 (by decide) (hts (.fieldLink RX8 34 "CatLeases" "acts" "LCatLeases$Acts;") (List.mem_of_getElem? (i := 18) rfl)) (fun _ h9 => h9) rfl hin rfl (by decide +kernel) rfl rfl (Nat.le_of_ble_eq_true rfl) dX8_init_48 (fun H locs hJ hS => ?_)
  have hJ : cJ D g A [(z, .inr (8, [.ref q_1, .int 0, .ref q_2, .ref q_3, .ref q_4, .null, .null, .int 0, .null, .null, .null, .int 0, .null, .int 0]))] [(q_4, 0), (q_3, 4), (q_2, 5), (q_1, 10)] false H := hJ
  refine lv_aload_n hx hb dX8_init_51 rfl (lv_at hl 0 rfl) ?_
  refine c_newc (ci := 7) (fs := dfX7) (C := RX7) (T := TX7) (N' := 8) hx hb hts iX8_init_X7 tyX7 tyX7_ok hown (hts (.classLink RX8 38 RX7) (List.mem_of_getElem? (i := 19) rfl)) (hts (.instantiable RX7 8) (List.mem_of_getElem? (i := 20) rfl)) (hts (.initialized RX7) (List.mem_of_getElem? (i := 21) rfl)) hK hJ hS hA rfl fsX7 (Nat.le_of_ble_eq_true rfl) (Nat.le_of_ble_eq_true rfl) dX8_init_52 dX8_init_55 (fun q H1 hat hS hAq => va_runI (As := []) (rest := [.ref q, .ref z]) ⟨hx, hb, hml, hown, hts⟩ (c_X7 l D g ev _ q) (cwI 0 hts gX8_init_X7_init rfl rfl rfl (hts (.initialized RX7) (List.mem_of_getElem? (i := 21) rfl)) (hts (.methodLink RX8 40 yX7_init) (List.mem_of_getElem? (i := 165) rfl)) (hts (.instanceMethod yX7_init) (List.mem_of_getElem? (i := 81) rfl)) rfl (by decide +kernel) ⟨Nat.le_of_ble_eq_true rfl, Nat.le_of_ble_eq_true rfl⟩) (c_preI hK hE hS hA hAq hat) rfl rfl hl.1 rfl (lv_room (Nat.le_of_ble_eq_true rfl)) dX8_init_56 ⟨(Nat.le_of_ble_eq_true rfl), (Nat.le_of_ble_eq_true rfl)⟩) (fun q_5 H locs hJ hS => ?_)
  have hJ : cJ D g A [(z, .inr (8, [.ref q_1, .int 0, .ref q_2, .ref q_3, .ref q_4, .null, .null, .int 0, .null, .null, .null, .int 0, .null, .int 0]))] [(q_5, 7), (q_4, 0), (q_3, 4), (q_2, 5), (q_1, 10)] false H := hJ
  refine W.cs (cells' := 289) (slots' := 4316) rfl rfl ?_
  refine c_putF (D := D) (ci := 8) (v := .ref q_5) (ty := (.object "CatLeases$State")) (C := RX8) (T := TX8) (N' := 14) hx hb hts iX8_init_X8 tyX8 tyX8_ok nmX8 hown hK hJ hS 0 rfl rfl 5 (by decide) (hts (.fieldLink RX8 41 "CatLeases" "ahead" "LCatLeases$State;") (List.mem_of_getElem? (i := 22) rfl)) (fun _ h9 => h9) rfl hin rfl (by decide +kernel) rfl rfl (Nat.le_of_ble_eq_true rfl) dX8_init_59 (fun H locs hJ hS => ?_)
  have hJ : cJ D g A [(z, .inr (8, [.ref q_1, .int 0, .ref q_2, .ref q_3, .ref q_4, .ref q_5, .null, .int 0, .null, .null, .null, .int 0, .null, .int 0]))] [(q_5, 7), (q_4, 0), (q_3, 4), (q_2, 5), (q_1, 10)] false H := hJ
  refine lv_aload_n hx hb dX8_init_62 rfl (lv_at hl 0 rfl) ?_
  refine lv_iconst (v := 3) hx hb dX8_init_63 (by decide) ?_
  refine c_newq hx hb hown (hts (.classLink RX8 38 RX7) (List.mem_of_getElem? (i := 19) rfl)) hE.1.2.2.2.2.2.2.2.2 hK hJ hS hA 4 rfl (N' := 3) (by decide) (by decide) (by decide) (Nat.le_of_ble_eq_true rfl) (Nat.le_of_ble_eq_true rfl) dX8_init_64 (fun q_6 H hJ hS => ?_)
  have hJ : cJ D g A [(z, .inr (8, [.ref q_1, .int 0, .ref q_2, .ref q_3, .ref q_4, .ref q_5, .null, .int 0, .null, .null, .null, .int 0, .null, .int 0])), (q_6, .inl (g 4, 3, .inr (.inr (.inr (.inr (fun _ => none))))))] [(q_5, 7), (q_4, 0), (q_3, 4), (q_2, 5), (q_1, 10)] false H := hJ
  refine W.cs (cells' := 290) (slots' := 4319) rfl rfl ?_
  refine c_putF (D := D) (ci := 8) (v := .ref q_6) (ty := (.array (.object "CatLeases$State"))) (C := RX8) (T := TX8) (N' := 14) hx hb hts iX8_init_X8 tyX8 tyX8_ok nmX8 hown hK hJ hS 0 rfl rfl 6 (by decide) (hts (.fieldLink RX8 45 "CatLeases" "boxes" "[LCatLeases$State;") (List.mem_of_getElem? (i := 23) rfl)) (fun _ h9 => h9) rfl hin rfl (by decide +kernel) rfl rfl (Nat.le_of_ble_eq_true rfl) dX8_init_67 (fun H locs hJ hS => ?_)
  have hJ : cJ D g A [(z, .inr (8, [.ref q_1, .int 0, .ref q_2, .ref q_3, .ref q_4, .ref q_5, .ref q_6, .int 0, .null, .null, .null, .int 0, .null, .int 0])), (q_6, .inl (g 4, 3, .inr (.inr (.inr (.inr (fun _ => none))))))] [(q_5, 7), (q_4, 0), (q_3, 4), (q_2, 5), (q_1, 10)] false H := hJ
  refine lv_aload_n hx hb dX8_init_70 rfl (lv_at hl 0 rfl) ?_
  refine lv_iconst (v := 0) hx hb dX8_init_71 (by decide) ?_
  refine c_put (D := D) (ci := 8) (v := .int 0) (ty := .int) (C := RX8) (T := TX8) (N' := 14) hx hb hts iX8_init_X8 tyX8 tyX8_ok nmX8 hown hK hJ hS 0 rfl rfl 7 (by decide) (hts (.fieldLink RX8 49 "CatLeases" "filledBoxes" "I") (List.mem_of_getElem? (i := 24) rfl)) (fun _ h9 => h9) rfl (by decide +kernel) rfl rfl (Nat.le_of_ble_eq_true rfl) dX8_init_72 (fun H locs hJ hS => ?_)
  have hJ : cJ D g A [(z, .inr (8, [.ref q_1, .int 0, .ref q_2, .ref q_3, .ref q_4, .ref q_5, .ref q_6, .int 0, .null, .null, .null, .int 0, .null, .int 0])), (q_6, .inl (g 4, 3, .inr (.inr (.inr (.inr (fun _ => none))))))] [(q_5, 7), (q_4, 0), (q_3, 4), (q_2, 5), (q_1, 10)] false H := hJ
  refine lv_aload_n hx hb dX8_init_75 rfl (lv_at hl 0 rfl) ?_
  refine c_newc (ci := 3) (fs := dfX3) (C := RX3) (T := TX3) (N' := 4) hx hb hts iX8_init_X3 tyX3 tyX3_ok hown (hts (.classLink RX8 52 RX3) (List.mem_of_getElem? (i := 25) rfl)) (hts (.instantiable RX3 4) (List.mem_of_getElem? (i := 26) rfl)) (hts (.initialized RX3) (List.mem_of_getElem? (i := 27) rfl)) hK hJ hS hA rfl fsX3 (Nat.le_of_ble_eq_true rfl) (Nat.le_of_ble_eq_true rfl) dX8_init_76 dX8_init_79 (fun q H1 hat hS hAq => va_runIN (As := []) (rest := [.ref q, .ref z]) ⟨hx, hb, hml, hown, hts⟩ (c_X3 l D g ev _ q) ⟨va_cnB (host := "CatLeases") 0 hts gX8_init_X3_init_n54 rfl rfl rfl (hE.1.1 _ (List.mem_of_getElem? (i := 1) rfl)) (hts (.initialized RX3) (List.mem_of_getElem? (i := 27) rfl)) (by decide +kernel) ⟨Nat.le_of_ble_eq_true rfl, Nat.le_of_ble_eq_true rfl⟩, rfl, (hts (.instanceMethod yX3_init) (List.mem_of_getElem? (i := 166) rfl))⟩ (c_preI hK hE hS hA hAq hat) rfl rfl hl.1 rfl (lv_room (Nat.le_of_ble_eq_true rfl)) dX8_init_80 ⟨(Nat.le_of_ble_eq_true rfl), (Nat.le_of_ble_eq_true rfl)⟩) (fun q_7 H locs hJ hS => ?_)
  have hJ : cJ D g A [(z, .inr (8, [.ref q_1, .int 0, .ref q_2, .ref q_3, .ref q_4, .ref q_5, .ref q_6, .int 0, .null, .null, .null, .int 0, .null, .int 0])), (q_6, .inl (g 4, 3, .inr (.inr (.inr (.inr (fun _ => none))))))] [(q_7, 3), (q_5, 7), (q_4, 0), (q_3, 4), (q_2, 5), (q_1, 10)] false H := hJ
  refine W.cs (cells' := 293) (slots' := 6427) rfl rfl ?_
  refine c_putF (D := D) (ci := 8) (v := .ref q_7) (ty := (.object "CatLeases$Letting")) (C := RX8) (T := TX8) (N' := 14) hx hb hts iX8_init_X8 tyX8 tyX8_ok nmX8 hown hK hJ hS 0 rfl rfl 8 (by decide) (hts (.fieldLink RX8 55 "CatLeases" "let" "LCatLeases$Letting;") (List.mem_of_getElem? (i := 28) rfl)) (fun _ h9 => h9) rfl hin rfl (by decide +kernel) rfl rfl (Nat.le_of_ble_eq_true rfl) dX8_init_83 (fun H locs hJ hS => ?_)
  have hJ : cJ D g A [(z, .inr (8, [.ref q_1, .int 0, .ref q_2, .ref q_3, .ref q_4, .ref q_5, .ref q_6, .int 0, .ref q_7, .null, .null, .int 0, .null, .int 0])), (q_6, .inl (g 4, 3, .inr (.inr (.inr (.inr (fun _ => none))))))] [(q_7, 3), (q_5, 7), (q_4, 0), (q_3, 4), (q_2, 5), (q_1, 10)] false H := hJ
  refine lv_aload_n hx hb dX8_init_86 rfl (lv_at hl 0 rfl) ?_
  refine c_newc (ci := 1) (fs := dfX1) (C := RX1) (T := TX1) (N' := 6) hx hb hts iX8_init_X1 tyX1 tyX1_ok hown (hts (.classLink RX8 59 RX1) (List.mem_of_getElem? (i := 29) rfl)) (hts (.instantiable RX1 6) (List.mem_of_getElem? (i := 30) rfl)) (hts (.initialized RX1) (List.mem_of_getElem? (i := 31) rfl)) hK hJ hS hA rfl fsX1 (Nat.le_of_ble_eq_true rfl) (Nat.le_of_ble_eq_true rfl) dX8_init_87 dX8_init_90 (fun q H1 hat hS hAq => va_runIN (As := []) (rest := [.ref q, .ref z]) ⟨hx, hb, hml, hown, hts⟩ (c_X1 l D g ev _ q) ⟨va_cnB (host := "CatLeases") 0 hts gX8_init_X1_init_n61 rfl rfl rfl (hE.1.1 _ (List.mem_of_getElem? (i := 2) rfl)) (hts (.initialized RX1) (List.mem_of_getElem? (i := 31) rfl)) (by decide +kernel) ⟨Nat.le_of_ble_eq_true rfl, Nat.le_of_ble_eq_true rfl⟩, rfl, (hts (.instanceMethod yX1_init) (List.mem_of_getElem? (i := 173) rfl))⟩ (c_preI hK hE hS hA hAq hat) rfl rfl hl.1 rfl (lv_room (Nat.le_of_ble_eq_true rfl)) dX8_init_91 ⟨(Nat.le_of_ble_eq_true rfl), (Nat.le_of_ble_eq_true rfl)⟩) (fun q_8 H locs hJ hS => ?_)
  have hJ : cJ D g A [(z, .inr (8, [.ref q_1, .int 0, .ref q_2, .ref q_3, .ref q_4, .ref q_5, .ref q_6, .int 0, .ref q_7, .null, .null, .int 0, .null, .int 0])), (q_6, .inl (g 4, 3, .inr (.inr (.inr (.inr (fun _ => none))))))] [(q_8, 1), (q_7, 3), (q_5, 7), (q_4, 0), (q_3, 4), (q_2, 5), (q_1, 10)] false H := hJ
  refine W.cs (cells' := 296) (slots' := 6445) rfl rfl ?_
  refine c_putF (D := D) (ci := 8) (v := .ref q_8) (ty := (.object "CatLeases$Auction")) (C := RX8) (T := TX8) (N' := 14) hx hb hts iX8_init_X8 tyX8 tyX8_ok nmX8 hown hK hJ hS 0 rfl rfl 9 (by decide) (hts (.fieldLink RX8 62 "CatLeases" "auction" "LCatLeases$Auction;") (List.mem_of_getElem? (i := 32) rfl)) (fun _ h9 => h9) rfl hin rfl (by decide +kernel) rfl rfl (Nat.le_of_ble_eq_true rfl) dX8_init_94 (fun H locs hJ hS => ?_)
  have hJ : cJ D g A [(z, .inr (8, [.ref q_1, .int 0, .ref q_2, .ref q_3, .ref q_4, .ref q_5, .ref q_6, .int 0, .ref q_7, .ref q_8, .null, .int 0, .null, .int 0])), (q_6, .inl (g 4, 3, .inr (.inr (.inr (.inr (fun _ => none))))))] [(q_8, 1), (q_7, 3), (q_5, 7), (q_4, 0), (q_3, 4), (q_2, 5), (q_1, 10)] false H := hJ
  refine lv_aload_n hx hb dX8_init_97 rfl (lv_at hl 0 rfl) ?_
  refine lv_bipush (v := 7) hx hb dX8_init_98 (by decide) ?_
  refine c_newa (atype := .int) hx hb (hts (.arrayClass .int) (List.mem_of_getElem? (i := 33) rfl)) rfl hK hJ hS hA 1 rfl 13 (by decide) rfl rfl (tic0 (lo := (-1)) (hi := 7) (fun _ => rfl) (by decide) (by decide)) (fun _ => rfl) (by decide) (by decide) (by decide) (Nat.le_of_ble_eq_true rfl) (Nat.le_of_ble_eq_true rfl) dX8_init_100 (fun q_9 H hJ hS => ?_)
  have hJ : cJ D g A [(z, .inr (8, [.ref q_1, .int 0, .ref q_2, .ref q_3, .ref q_4, .ref q_5, .ref q_6, .int 0, .ref q_7, .ref q_8, .null, .int 0, .null, .int 0])), (q_6, .inl (g 4, 3, .inr (.inr (.inr (.inr (fun _ => none))))))] [(q_9, 13), (q_8, 1), (q_7, 3), (q_5, 7), (q_4, 0), (q_3, 4), (q_2, 5), (q_1, 10)] false H := hJ
  refine W.cs (cells' := 297) (slots' := 6452) rfl rfl ?_
  refine c_putF (D := D) (ci := 8) (v := .ref q_9) (ty := (.array .int)) (C := RX8) (T := TX8) (N' := 14) hx hb hts iX8_init_X8 tyX8 tyX8_ok nmX8 hown hK hJ hS 0 rfl rfl 10 (by decide) (hts (.fieldLink RX8 66 "CatLeases" "lying" "[I") (List.mem_of_getElem? (i := 34) rfl)) (fun _ h9 => h9) rfl hin rfl (by decide +kernel) rfl rfl (Nat.le_of_ble_eq_true rfl) dX8_init_102 (fun H locs hJ hS => ?_)
  have hJ : cJ D g A [(z, .inr (8, [.ref q_1, .int 0, .ref q_2, .ref q_3, .ref q_4, .ref q_5, .ref q_6, .int 0, .ref q_7, .ref q_8, .ref q_9, .int 0, .null, .int 0])), (q_6, .inl (g 4, 3, .inr (.inr (.inr (.inr (fun _ => none))))))] [(q_9, 13), (q_8, 1), (q_7, 3), (q_5, 7), (q_4, 0), (q_3, 4), (q_2, 5), (q_1, 10)] false H := hJ
  refine lv_aload_n hx hb dX8_init_105 rfl (lv_at hl 0 rfl) ?_
  refine lv_iconst (v := 0) hx hb dX8_init_106 (by decide) ?_
  refine c_put (D := D) (ci := 8) (v := .int 0) (ty := .int) (C := RX8) (T := TX8) (N' := 14) hx hb hts iX8_init_X8 tyX8 tyX8_ok nmX8 hown hK hJ hS 0 rfl rfl 11 (by decide) (hts (.fieldLink RX8 70 "CatLeases" "lyingCount" "I") (List.mem_of_getElem? (i := 35) rfl)) (fun _ h9 => h9) rfl (by decide +kernel) rfl rfl (Nat.le_of_ble_eq_true rfl) dX8_init_107 (fun H locs hJ hS => ?_)
  have hJ : cJ D g A [(z, .inr (8, [.ref q_1, .int 0, .ref q_2, .ref q_3, .ref q_4, .ref q_5, .ref q_6, .int 0, .ref q_7, .ref q_8, .ref q_9, .int 0, .null, .int 0])), (q_6, .inl (g 4, 3, .inr (.inr (.inr (.inr (fun _ => none))))))] [(q_9, 13), (q_8, 1), (q_7, 3), (q_5, 7), (q_4, 0), (q_3, 4), (q_2, 5), (q_1, 10)] false H := hJ
  refine lv_aload_n hx hb dX8_init_110 rfl (lv_at hl 0 rfl) ?_
  refine c_newc (ci := 6) (fs := dfX6) (C := RX6) (T := TX6) (N' := 9) hx hb hts iX8_init_X6 tyX6 tyX6_ok hown (hts (.classLink RX8 73 RX6) (List.mem_of_getElem? (i := 36) rfl)) (hts (.instantiable RX6 9) (List.mem_of_getElem? (i := 37) rfl)) (hts (.initialized RX6) (List.mem_of_getElem? (i := 38) rfl)) hK hJ hS hA rfl fsX6 (Nat.le_of_ble_eq_true rfl) (Nat.le_of_ble_eq_true rfl) dX8_init_111 dX8_init_114 (fun q H1 hat hS hAq => va_runIN (As := []) (rest := [.ref q, .ref z]) ⟨hx, hb, hml, hown, hts⟩ (c_X6 l D g ev _ q) ⟨va_cnB (host := "CatLeases") 0 hts gX8_init_X6_init_n75 rfl rfl rfl (hE.1.1 _ (List.mem_of_getElem? (i := 3) rfl)) (hts (.initialized RX6) (List.mem_of_getElem? (i := 38) rfl)) (by decide +kernel) ⟨Nat.le_of_ble_eq_true rfl, Nat.le_of_ble_eq_true rfl⟩, rfl, (hts (.instanceMethod yX6_init) (List.mem_of_getElem? (i := 182) rfl))⟩ (c_preI hK hE hS hA hAq hat) rfl rfl hl.1 rfl (lv_room (Nat.le_of_ble_eq_true rfl)) dX8_init_115 ⟨(Nat.le_of_ble_eq_true rfl), (Nat.le_of_ble_eq_true rfl)⟩) (fun q_10 H locs hJ hS => ?_)
  have hJ : cJ D g A [(z, .inr (8, [.ref q_1, .int 0, .ref q_2, .ref q_3, .ref q_4, .ref q_5, .ref q_6, .int 0, .ref q_7, .ref q_8, .ref q_9, .int 0, .null, .int 0])), (q_6, .inl (g 4, 3, .inr (.inr (.inr (.inr (fun _ => none))))))] [(q_10, 6), (q_9, 13), (q_8, 1), (q_7, 3), (q_5, 7), (q_4, 0), (q_3, 4), (q_2, 5), (q_1, 10)] false H := hJ
  refine W.cs (cells' := 304) (slots' := 7311) rfl rfl ?_
  refine c_putF (D := D) (ci := 8) (v := .ref q_10) (ty := (.object "CatLeases$Sightings")) (C := RX8) (T := TX8) (N' := 14) hx hb hts iX8_init_X8 tyX8 tyX8_ok nmX8 hown hK hJ hS 0 rfl rfl 12 (by decide) (hts (.fieldLink RX8 76 "CatLeases" "sightings" "LCatLeases$Sightings;") (List.mem_of_getElem? (i := 39) rfl)) (fun _ h9 => h9) rfl hin rfl (by decide +kernel) rfl rfl (Nat.le_of_ble_eq_true rfl) dX8_init_118 (fun H locs hJ hS => ?_)
  have hJ : cJ D g A [(z, .inr (8, [.ref q_1, .int 0, .ref q_2, .ref q_3, .ref q_4, .ref q_5, .ref q_6, .int 0, .ref q_7, .ref q_8, .ref q_9, .int 0, .ref q_10, .int 0])), (q_6, .inl (g 4, 3, .inr (.inr (.inr (.inr (fun _ => none))))))] [(q_10, 6), (q_9, 13), (q_8, 1), (q_7, 3), (q_5, 7), (q_4, 0), (q_3, 4), (q_2, 5), (q_1, 10)] false H := hJ
  refine lv_aload_n hx hb dX8_init_121 rfl (lv_at hl 0 rfl) ?_
  refine lv_iconst (v := 0) hx hb dX8_init_122 (by decide) ?_
  refine c_put (D := D) (ci := 8) (v := .int 0) (ty := .int) (C := RX8) (T := TX8) (N' := 14) hx hb hts iX8_init_X8 tyX8 tyX8_ok nmX8 hown hK hJ hS 0 rfl rfl 13 (by decide) (hts (.fieldLink RX8 80 "CatLeases" "time" "I") (List.mem_of_getElem? (i := 40) rfl)) (fun _ h9 => h9) rfl (by decide +kernel) rfl rfl (Nat.le_of_ble_eq_true rfl) dX8_init_123 (fun H locs hJ hS => ?_)
  have hJ : cJ D g A [(z, .inr (8, [.ref q_1, .int 0, .ref q_2, .ref q_3, .ref q_4, .ref q_5, .ref q_6, .int 0, .ref q_7, .ref q_8, .ref q_9, .int 0, .ref q_10, .int 0])), (q_6, .inl (g 4, 3, .inr (.inr (.inr (.inr (fun _ => none))))))] [(q_10, 6), (q_9, 13), (q_8, 1), (q_7, 3), (q_5, 7), (q_4, 0), (q_3, 4), (q_2, 5), (q_1, 10)] false H := hJ
  refine lv_iconst (v := 0) hx hb dX8_init_126 (by decide) ?_
  refine lv_istore_n (lv' := [(1, .int 0), (0, .ref z)]) hx hb dX8_init_127 rfl hl (by decide) rfl (fun ls hl => ?_)
  have hloop : ∀ (n i : Nat) (f : Nat → Option Nat) (rs : List (Nat × Nat)) (H : Heap) (locs : List Loc) (ls : Array Slot), i ≤ 3 → 3 < i + n → (∀ j, j < i → ∃ a, f j = some a ∧ (a, 7) ∈ rs) → (∀ r ∈ ([(q_10, 6), (q_9, 13), (q_8, 1), (q_7, 3), (q_5, 7), (q_4, 0), (q_3, 4), (q_2, 5), (q_1, 10)] : List (Nat × Nat)), r ∈ rs) → cJ D g A [(z, .inr (8, [.ref q_1, .int 0, .ref q_2, .ref q_3, .ref q_4, .ref q_5, .ref q_6, .int 0, .ref q_7, .ref q_8, .ref q_9, .int 0, .ref q_10, .int 0])), (q_6, .inl (g 4, 3, .inr (.inr (.inr (.inr f)))))] rs false H → va_S A s.heap H locs → lv_has ls 2 [(1, .int (nI i)), (0, .ref z)] → W p l e (headSpec wsX8_init ({ frames := 5, cells := 322, slots := 7443, locals := 109 })).room s m ar below meth c H locs (304 + 6 * i) (7311 + 44 * i) Q (F0 m 128 ls []) := by
    intro n
    induction n with
    | zero => intro i f rs H locs ls h1 h2; exact absurd h2 (by omega)
    | succ n ih =>
      intro i f rs H locs ls h1 h2 hf hr0 hJ hS hl
      refine lv_iload_n hx hb dX8_init_128 rfl (lv_at hl 0 rfl) ?_
      refine lv_iconst (v := 3) hx hb dX8_init_129 (by decide) ?_
      refine lv_icmp_ge (tgt := 152) hx hb dX8_init_130 (by decide) (fun c1 => ?_) (fun c1 => ?_)
      · have hi := k_ge1 (N := 3) rfl h1 (by decide) c1
        subst hi
        refine W.cs (cells' := 322) (slots' := 7443) rfl rfl ?_
        have hJ := hJ.swap.took (s := 27) _ _ _ (c_arq (hJ.swap.1 0 _ rfl) (by decide) rfl (fun j hj => (hf j hj).imp (fun a h => h.1))) (fun k _ => iv_any _) (fun k hk => Or.inr ⟨7, List.mem_of_getElem? (i := 0) rfl, by obtain ⟨a, e1, e2⟩ := hf k hk; show ((f k).getD 0, 7) ∈ rs; rw [e1]; exact e2⟩)
        have hJ : cJ D g A [(z, .inr (8, [.ref q_1, .int 0, .ref q_2, .ref q_3, .ref q_4, .ref q_5, .ref q_6, .int 0, .ref q_7, .ref q_8, .ref q_9, .int 0, .ref q_10, .int 0]))] ((q_6, 27) :: rs) false H := hJ
        obtain ⟨σ, M, N, R, k1, k2, k3, k4, k5, km, kr⟩ := hJ.take (s := 8) _ _ _ (c_obj (hJ.1 0 _ rfl) (by decide) rfl rfl (fun k hk => match k, hk with
            | 0, _ => rfl
            | 1, _ => rfl
            | 2, _ => rfl
            | 3, _ => rfl
            | 4, _ => rfl
            | 5, _ => rfl
            | 6, _ => rfl
            | 7, _ => rfl
            | 8, _ => rfl
            | 9, _ => rfl
            | 10, _ => rfl
            | 11, _ => rfl
            | 12, _ => rfl
            | 13, _ => rfl
            | (k + 14), h => absurd h (by omega))) (fun k hk => match k, hk with
            | 0, _ => iv_any _
            | 1, _ => iv_zero (by decide) (by decide)
            | 2, _ => iv_any _
            | 3, _ => iv_any _
            | 4, _ => iv_any _
            | 5, _ => iv_any _
            | 6, _ => iv_any _
            | 7, _ => iv_any _
            | 8, _ => iv_any _
            | 9, _ => iv_any _
            | 10, _ => iv_any _
            | 11, _ => iv_zero (by decide) (by decide)
            | 12, _ => iv_any _
            | 13, _ => iv_any _
            | (k + 14), h => absurd h (show ¬ k + 14 < 14 by omega)) (fun k hk => match k, hk with
            | 0, _ => Or.inr ⟨10, by decide, List.mem_cons_of_mem _ (hr0 _ (List.mem_of_getElem? (i := 8) rfl))⟩
            | 1, _ => Or.inl rfl
            | 2, _ => Or.inr ⟨5, by decide, List.mem_cons_of_mem _ (hr0 _ (List.mem_of_getElem? (i := 7) rfl))⟩
            | 3, _ => Or.inr ⟨4, by decide, List.mem_cons_of_mem _ (hr0 _ (List.mem_of_getElem? (i := 6) rfl))⟩
            | 4, _ => Or.inr ⟨0, by decide, List.mem_cons_of_mem _ (hr0 _ (List.mem_of_getElem? (i := 5) rfl))⟩
            | 5, _ => Or.inr ⟨7, by decide, List.mem_cons_of_mem _ (hr0 _ (List.mem_of_getElem? (i := 4) rfl))⟩
            | 6, _ => Or.inr ⟨27, by decide, List.mem_of_getElem? (i := 0) rfl⟩
            | 7, _ => Or.inl rfl
            | 8, _ => Or.inr ⟨3, by decide, List.mem_cons_of_mem _ (hr0 _ (List.mem_of_getElem? (i := 3) rfl))⟩
            | 9, _ => Or.inr ⟨1, by decide, List.mem_cons_of_mem _ (hr0 _ (List.mem_of_getElem? (i := 2) rfl))⟩
            | 10, _ => Or.inr ⟨13, by decide, List.mem_cons_of_mem _ (hr0 _ (List.mem_of_getElem? (i := 1) rfl))⟩
            | 11, _ => Or.inl rfl
            | 12, _ => Or.inr ⟨6, by decide, List.mem_cons_of_mem _ (hr0 _ (List.mem_of_getElem? (i := 0) rfl))⟩
            | 13, _ => Or.inl rfl
            | (k + 14), h => absurd h (show ¬ k + 14 < 14 by omega))
        exact c_ret hQ hx hb hr hlocks hK ⟨σ, M, N, R, k1, k2, fun a ha => (k3 a ha).1, k4 _ (List.mem_of_getElem? (i := 0) rfl), (by rw [km]; rfl)⟩ hS dX8_init_152
      · have hi : i < 3 := k_ge2 (N := 3) rfl h1 (by decide) c1
        refine lv_aload_n hx hb dX8_init_133 rfl (lv_at hl 1 rfl) ?_
        refine va_get (D := D) (ci := 8) (v := .ref q_6) (C := RX8) (T := TX8) (N := 14) hx hb hts iX8_init_X8 hown hK hJ.1 0 rfl rfl 6 (by decide) (hts (.fieldLink RX8 45 "CatLeases" "boxes" "[LCatLeases$State;") (List.mem_of_getElem? (i := 23) rfl)) (fun _ h9 => h9) rfl dX8_init_134 ?_
        refine lv_iload_n hx hb dX8_init_137 rfl (lv_at hl 0 rfl) ?_
        refine c_newc (ci := 7) (fs := dfX7) (C := RX7) (T := TX7) (N' := 8) hx hb hts iX8_init_X7 tyX7 tyX7_ok hown (hts (.classLink RX8 38 RX7) (List.mem_of_getElem? (i := 19) rfl)) (hts (.instantiable RX7 8) (List.mem_of_getElem? (i := 20) rfl)) (hts (.initialized RX7) (List.mem_of_getElem? (i := 21) rfl)) hK hJ hS hA rfl fsX7 (show (304 + 6 * i) + 1 ≤ 322 by omega) (show (7311 + 44 * i) + 8 ≤ 7443 by omega) dX8_init_138 dX8_init_141 (fun q H1 hat hS hAq => va_runI (As := []) (rest := [.ref q, .int (nI i), .ref q_6]) ⟨hx, hb, hml, hown, hts⟩ (c_X7 l D g ev _ q) (cwI 0 hts gX8_init_X7_init rfl rfl rfl (hts (.initialized RX7) (List.mem_of_getElem? (i := 21) rfl)) (hts (.methodLink RX8 40 yX7_init) (List.mem_of_getElem? (i := 165) rfl)) (hts (.instanceMethod yX7_init) (List.mem_of_getElem? (i := 81) rfl)) rfl (by decide +kernel) ⟨Nat.le_of_ble_eq_true rfl, Nat.le_of_ble_eq_true rfl⟩) (c_preI hK hE hS hA hAq hat) rfl rfl hl.1 rfl (lv_room (Nat.le_of_ble_eq_true rfl)) dX8_init_142 ⟨(show (304 + 6 * i) + 1 + 5 ≤ 322 by omega), (show (7311 + 44 * i) + 8 + 36 ≤ 7443 by omega)⟩) (fun q_11 H locs hJ hS => ?_)
        have hJ : cJ D g A [(z, .inr (8, [.ref q_1, .int 0, .ref q_2, .ref q_3, .ref q_4, .ref q_5, .ref q_6, .int 0, .ref q_7, .ref q_8, .ref q_9, .int 0, .ref q_10, .int 0])), (q_6, .inl (g 4, 3, .inr (.inr (.inr (.inr f)))))] ((q_11, 7) :: rs) false H := hJ
        refine c_astq hx hb hK hJ hS 1 4 7 rfl rfl (List.mem_of_getElem? (i := 0) rfl) (by decide) rfl (vp_in_nI (n := i) (N := 3) (by omega) (by decide)) dX8_init_145 (fun H locs hJ hS => ?_)
        rw [nI_clamp (n := i) (by omega)] at hJ
        have hJ : cJ D g A [(z, .inr (8, [.ref q_1, .int 0, .ref q_2, .ref q_3, .ref q_4, .ref q_5, .ref q_6, .int 0, .ref q_7, .ref q_8, .ref q_9, .int 0, .ref q_10, .int 0])), (q_6, .inl (g 4, 3, .inr (.inr (.inr (.inr (va_up f i (some q_11)))))))] ((q_11, 7) :: rs) false H := hJ
        refine lv_iinc (v := nI (i + 1)) (lv' := [(1, .int (nI (i + 1))), (0, .ref z)]) hx hb dX8_init_146 hl (k := 0) rfl (k_inc i) (by decide) rfl (fun ls hl => ?_)
        refine lv_goto (tgt := 128) hx hb dX8_init_149 (by decide) ?_
        refine W.cs (cells' := 304 + 6 * (i + 1)) (slots' := 7311 + 44 * (i + 1)) (by omega) (by omega) ?_
        refine ih (i + 1) _ _ _ _ _ (by omega) (by omega) (fun j hj => ?_) (fun r hr => List.mem_cons_of_mem _ (hr0 r hr)) hJ hS hl
        by_cases hj2 : j = i
        · subst hj2; exact ⟨q_11, by simp [va_up], List.mem_of_getElem? (i := 0) rfl⟩
        · obtain ⟨a, e1, e2⟩ := hf j (by omega); exact ⟨a, (k_un hj2).trans e1, List.mem_cons_of_mem _ e2⟩
  exact hloop (3 + 1) 0 (fun _ => none) _ _ _ _ (by omega) (by omega) (fun j hj => absurd hj (by omega)) (fun r hr => hr) hJ.weak hS hl
