set_option maxHeartbeats 4000000 in
set_option maxRecDepth 100000 in
theorem c_X5 (l : Launch) (D : va_G) (g : Nat → ClassId) (ev : Nat → Nat) (sz z : Nat) : Met l yX5_init wsX5_init ({ frames := 4, cells := 19, slots := 424, locals := 85 }) (va_Pc [.ref z] (cPre D g ev 5 dfX5 z sz)) (cQ D g z 5 (fun _ _ => True) (cA z sz)) 19 424 (cA z sz) := by
  refine c_head (cc := cX5_init) (maxL := 5) (by decide) rfl (Nat.le_of_ble_eq_true rfl) ?_
  intro p e s m below meth c ls A Q ar hQ hx hb hr hlocks hml hown hin hts hA hAz hK hE hJ hS hl
  have hown : s.vm.findClass RX5 = some m.cls := hown
  have hl : lv_has ls 5 [(0, .ref z)] := hl
  refine lv_aload_n hx hb dX5_init_0 rfl (lv_at hl 0 rfl) ?_
  refine W.objInit hx hb hown (hts (.methodLink RX5 3 objectInit) (List.mem_of_getElem? (i := 1) rfl)) (hts (.instanceMethod objectInit) (List.mem_of_getElem? (i := 2) rfl)) (hts (.code objectInit ⟨#[0xb1]⟩ 1 none) (List.mem_of_getElem? (i := 3) rfl)) rfl (by rw [hml]; exact hl.1) rfl dX5_init_1 (Nat.le_of_ble_eq_true rfl) (Nat.le_of_ble_eq_true rfl) ?_
  refine W.eq (g2 := F0 m 4 ls []) rfl ?_
  refine lv_aload_n hx hb dX5_init_4 rfl (lv_at hl 0 rfl) ?_
  refine c_newc (ci := 4) (fs := dfX4) (C := RX4) (T := TX4) (N' := 11) hx hb hts iX5_init_X4 tyX4 tyX4_ok hown (hts (.classLink RX5 9 RX4) (List.mem_of_getElem? (i := 4) rfl)) (hts (.instantiable RX4 11) (List.mem_of_getElem? (i := 5) rfl)) (hts (.initialized RX4) (List.mem_of_getElem? (i := 6) rfl)) hK hJ hS hA rfl fsX4 (Nat.le_of_ble_eq_true rfl) (Nat.le_of_ble_eq_true rfl) dX5_init_5 dX5_init_8 (fun q H1 hat hS hAq => va_runIN (As := []) (rest := [.ref q, .ref z]) ⟨hx, hb, hml, hown, hts⟩ (c_X4 l D g ev _ q) ⟨va_cnB (host := "CatLeases") 0 hts gX5_init_X4_init_n11 rfl rfl rfl (hE.1.1 _ (List.mem_of_getElem? (i := 5) rfl)) (hts (.initialized RX4) (List.mem_of_getElem? (i := 6) rfl)) (by decide +kernel) ⟨Nat.le_of_ble_eq_true rfl, Nat.le_of_ble_eq_true rfl⟩, rfl, (hts (.instanceMethod yX4_init) (List.mem_of_getElem? (i := 24) rfl))⟩ (c_preI hK hE hS hA hAq hat) rfl rfl hl.1 rfl (lv_room (Nat.le_of_ble_eq_true rfl)) dX5_init_9 ⟨(Nat.le_of_ble_eq_true rfl), (Nat.le_of_ble_eq_true rfl)⟩) (fun q_1 H locs hJ hS => ?_)
  have hJ : cJ D g A [(z, .inr (5, [.null, .int 0, .int 0, .null, .null, .null, .null, .null, .int 0, .int 0, .int 0, .int 0, .int 0, .int 0, .long 0]))] [(q_1, 4)] false H := hJ
  refine W.cs (cells' := 14) (slots' := 384) rfl rfl ?_
  refine c_put (D := D) (ci := 5) (v := .ref q_1) (ty := (.object "CatLeases$Mews")) (C := RX5) (T := TX5) (N' := 15) hx hb hts iX5_init_X5 tyX5 tyX5_ok nmX5 hown hK hJ hS 0 rfl rfl 0 (by decide) (hts (.fieldLink RX5 12 "CatLeases$Reader" "mews" "LCatLeases$Mews;") (List.mem_of_getElem? (i := 7) rfl)) (fun _ h9 => h9) rfl (by decide +kernel) rfl rfl (Nat.le_of_ble_eq_true rfl) dX5_init_12 (fun H locs hJ hS => ?_)
  have hJ : cJ D g A [(z, .inr (5, [.ref q_1, .int 0, .int 0, .null, .null, .null, .null, .null, .int 0, .int 0, .int 0, .int 0, .int 0, .int 0, .long 0]))] [(q_1, 4)] false H := hJ
  refine lv_aload_n hx hb dX5_init_15 rfl (lv_at hl 0 rfl) ?_
  refine lv_iconst (v := 0) hx hb dX5_init_16 (by decide) ?_
  refine c_put (D := D) (ci := 5) (v := .int 0) (ty := .int) (C := RX5) (T := TX5) (N' := 15) hx hb hts iX5_init_X5 tyX5 tyX5_ok nmX5 hown hK hJ hS 0 rfl rfl 1 (by decide) (hts (.fieldLink RX5 18 "CatLeases$Reader" "fault" "I") (List.mem_of_getElem? (i := 8) rfl)) (fun _ h9 => h9) rfl (by decide +kernel) rfl rfl (Nat.le_of_ble_eq_true rfl) dX5_init_17 (fun H locs hJ hS => ?_)
  have hJ : cJ D g A [(z, .inr (5, [.ref q_1, .int 0, .int 0, .null, .null, .null, .null, .null, .int 0, .int 0, .int 0, .int 0, .int 0, .int 0, .long 0]))] [(q_1, 4)] false H := hJ
  refine lv_aload_n hx hb dX5_init_20 rfl (lv_at hl 0 rfl) ?_
  refine lv_iconst (v := (-1)) hx hb dX5_init_21 (by decide) ?_
  refine c_put (D := D) (ci := 5) (v := .int (-1)) (ty := .int) (C := RX5) (T := TX5) (N' := 15) hx hb hts iX5_init_X5 tyX5 tyX5_ok nmX5 hown hK hJ hS 0 rfl rfl 2 (by decide) (hts (.fieldLink RX5 22 "CatLeases$Reader" "faultPlace" "I") (List.mem_of_getElem? (i := 9) rfl)) (fun _ h9 => h9) rfl (by decide +kernel) rfl rfl (Nat.le_of_ble_eq_true rfl) dX5_init_22 (fun H locs hJ hS => ?_)
  have hJ : cJ D g A [(z, .inr (5, [.ref q_1, .int 0, .int (-1), .null, .null, .null, .null, .null, .int 0, .int 0, .int 0, .int 0, .int 0, .int 0, .long 0]))] [(q_1, 4)] false H := hJ
  refine lv_aload_n hx hb dX5_init_25 rfl (lv_at hl 0 rfl) ?_
  refine lv_bipush (v := 19) hx hb dX5_init_26 (by decide) ?_
  refine c_newa (atype := .long) hx hb (hts (.arrayClass .long) (List.mem_of_getElem? (i := 10) rfl)) rfl hK hJ hS hA 2 rfl 22 (by decide) rfl rfl (tic0 (lo := (-2147483648)) (hi := 2147483647) (fun _ => rfl) (by decide) (by decide)) (fun _ => rfl) (by decide) (by decide) (by decide) (Nat.le_of_ble_eq_true rfl) (Nat.le_of_ble_eq_true rfl) dX5_init_28 (fun q_2 H hJ hS => ?_)
  have hJ : cJ D g A [(z, .inr (5, [.ref q_1, .int 0, .int (-1), .null, .null, .null, .null, .null, .int 0, .int 0, .int 0, .int 0, .int 0, .int 0, .long 0]))] [(q_2, 22), (q_1, 4)] false H := hJ
  refine W.cs (cells' := 15) (slots' := 403) rfl rfl ?_
  refine c_putF (D := D) (ci := 5) (v := .ref q_2) (ty := (.array .long)) (C := RX5) (T := TX5) (N' := 15) hx hb hts iX5_init_X5 tyX5 tyX5_ok nmX5 hown hK hJ hS 0 rfl rfl 3 (by decide) (hts (.fieldLink RX5 25 "CatLeases$Reader" "words" "[J") (List.mem_of_getElem? (i := 11) rfl)) (fun _ h9 => h9) rfl hin rfl (by decide +kernel) rfl rfl (Nat.le_of_ble_eq_true rfl) dX5_init_30 (fun H locs hJ hS => ?_)
  have hJ : cJ D g A [(z, .inr (5, [.ref q_1, .int 0, .int (-1), .ref q_2, .null, .null, .null, .null, .int 0, .int 0, .int 0, .int 0, .int 0, .int 0, .long 0]))] [(q_2, 22), (q_1, 4)] false H := hJ
  refine lv_aload_n hx hb dX5_init_33 rfl (lv_at hl 0 rfl) ?_
  refine lv_bipush (v := 6) hx hb dX5_init_34 (by decide) ?_
  refine c_newa (atype := .long) hx hb (hts (.arrayClass .long) (List.mem_of_getElem? (i := 10) rfl)) rfl hK hJ hS hA 2 rfl 23 (by decide) rfl rfl (tic0 (lo := (-2147483648)) (hi := 2147483647) (fun _ => rfl) (by decide) (by decide)) (fun _ => rfl) (by decide) (by decide) (by decide) (Nat.le_of_ble_eq_true rfl) (Nat.le_of_ble_eq_true rfl) dX5_init_36 (fun q_3 H hJ hS => ?_)
  have hJ : cJ D g A [(z, .inr (5, [.ref q_1, .int 0, .int (-1), .ref q_2, .null, .null, .null, .null, .int 0, .int 0, .int 0, .int 0, .int 0, .int 0, .long 0]))] [(q_3, 23), (q_2, 22), (q_1, 4)] false H := hJ
  refine W.cs (cells' := 16) (slots' := 409) rfl rfl ?_
  refine c_putF (D := D) (ci := 5) (v := .ref q_3) (ty := (.array .long)) (C := RX5) (T := TX5) (N' := 15) hx hb hts iX5_init_X5 tyX5 tyX5_ok nmX5 hown hK hJ hS 0 rfl rfl 4 (by decide) (hts (.fieldLink RX5 29 "CatLeases$Reader" "catNames" "[J") (List.mem_of_getElem? (i := 12) rfl)) (fun _ h9 => h9) rfl hin rfl (by decide +kernel) rfl rfl (Nat.le_of_ble_eq_true rfl) dX5_init_38 (fun H locs hJ hS => ?_)
  have hJ : cJ D g A [(z, .inr (5, [.ref q_1, .int 0, .int (-1), .ref q_2, .ref q_3, .null, .null, .null, .int 0, .int 0, .int 0, .int 0, .int 0, .int 0, .long 0]))] [(q_3, 23), (q_2, 22), (q_1, 4)] false H := hJ
  refine lv_aload_n hx hb dX5_init_41 rfl (lv_at hl 0 rfl) ?_
  refine lv_bipush (v := 8) hx hb dX5_init_42 (by decide) ?_
  refine c_newa (atype := .long) hx hb (hts (.arrayClass .long) (List.mem_of_getElem? (i := 10) rfl)) rfl hK hJ hS hA 2 rfl 24 (by decide) rfl rfl (tic0 (lo := (-2147483648)) (hi := 2147483647) (fun _ => rfl) (by decide) (by decide)) (fun _ => rfl) (by decide) (by decide) (by decide) (Nat.le_of_ble_eq_true rfl) (Nat.le_of_ble_eq_true rfl) dX5_init_44 (fun q_4 H hJ hS => ?_)
  have hJ : cJ D g A [(z, .inr (5, [.ref q_1, .int 0, .int (-1), .ref q_2, .ref q_3, .null, .null, .null, .int 0, .int 0, .int 0, .int 0, .int 0, .int 0, .long 0]))] [(q_4, 24), (q_3, 23), (q_2, 22), (q_1, 4)] false H := hJ
  refine W.cs (cells' := 17) (slots' := 417) rfl rfl ?_
  refine c_putF (D := D) (ci := 5) (v := .ref q_4) (ty := (.array .long)) (C := RX5) (T := TX5) (N' := 15) hx hb hts iX5_init_X5 tyX5 tyX5_ok nmX5 hown hK hJ hS 0 rfl rfl 5 (by decide) (hts (.fieldLink RX5 32 "CatLeases$Reader" "roomNames" "[J") (List.mem_of_getElem? (i := 13) rfl)) (fun _ h9 => h9) rfl hin rfl (by decide +kernel) rfl rfl (Nat.le_of_ble_eq_true rfl) dX5_init_46 (fun H locs hJ hS => ?_)
  have hJ : cJ D g A [(z, .inr (5, [.ref q_1, .int 0, .int (-1), .ref q_2, .ref q_3, .ref q_4, .null, .null, .int 0, .int 0, .int 0, .int 0, .int 0, .int 0, .long 0]))] [(q_4, 24), (q_3, 23), (q_2, 22), (q_1, 4)] false H := hJ
  refine lv_aload_n hx hb dX5_init_49 rfl (lv_at hl 0 rfl) ?_
  refine lv_bipush (v := 7) hx hb dX5_init_50 (by decide) ?_
  refine c_newa (atype := .long) hx hb (hts (.arrayClass .long) (List.mem_of_getElem? (i := 10) rfl)) rfl hK hJ hS hA 2 rfl 25 (by decide) rfl rfl (tic0 (lo := (-2147483648)) (hi := 2147483647) (fun _ => rfl) (by decide) (by decide)) (fun _ => rfl) (by decide) (by decide) (by decide) (Nat.le_of_ble_eq_true rfl) (Nat.le_of_ble_eq_true rfl) dX5_init_52 (fun q_5 H hJ hS => ?_)
  have hJ : cJ D g A [(z, .inr (5, [.ref q_1, .int 0, .int (-1), .ref q_2, .ref q_3, .ref q_4, .null, .null, .int 0, .int 0, .int 0, .int 0, .int 0, .int 0, .long 0]))] [(q_5, 25), (q_4, 24), (q_3, 23), (q_2, 22), (q_1, 4)] false H := hJ
  refine W.cs (cells' := 18) (slots' := 424) rfl rfl ?_
  refine c_putF (D := D) (ci := 5) (v := .ref q_5) (ty := (.array .long)) (C := RX5) (T := TX5) (N' := 15) hx hb hts iX5_init_X5 tyX5 tyX5_ok nmX5 hown hK hJ hS 0 rfl rfl 6 (by decide) (hts (.fieldLink RX5 35 "CatLeases$Reader" "tenantNames" "[J") (List.mem_of_getElem? (i := 14) rfl)) (fun _ h9 => h9) rfl hin rfl (by decide +kernel) rfl rfl (Nat.le_of_ble_eq_true rfl) dX5_init_54 (fun H locs hJ hS => ?_)
  have hJ : cJ D g A [(z, .inr (5, [.ref q_1, .int 0, .int (-1), .ref q_2, .ref q_3, .ref q_4, .ref q_5, .null, .int 0, .int 0, .int 0, .int 0, .int 0, .int 0, .long 0]))] [(q_5, 25), (q_4, 24), (q_3, 23), (q_2, 22), (q_1, 4)] false H := hJ
  refine lv_aload_n hx hb dX5_init_57 rfl (lv_at hl 0 rfl) ?_
  refine lv_iconst (v := 0) hx hb dX5_init_58 (by decide) ?_
  refine c_newa (atype := .byte) hx hb (hts (.arrayClass .byte) (List.mem_of_getElem? (i := 15) rfl)) rfl hK hJ hS hA 0 rfl 11 (by decide) rfl rfl (tic0 (lo := (-2147483648)) (hi := 2147483647) (fun _ => rfl) (by decide) (by decide)) (fun _ => rfl) (by decide) (by decide) (by decide) (Nat.le_of_ble_eq_true rfl) (Nat.le_of_ble_eq_true rfl) dX5_init_59 (fun q_6 H hJ hS => ?_)
  have hJ : cJ D g A [(z, .inr (5, [.ref q_1, .int 0, .int (-1), .ref q_2, .ref q_3, .ref q_4, .ref q_5, .null, .int 0, .int 0, .int 0, .int 0, .int 0, .int 0, .long 0]))] [(q_6, 11), (q_5, 25), (q_4, 24), (q_3, 23), (q_2, 22), (q_1, 4)] false H := hJ
  refine W.cs (cells' := 19) (slots' := 424) rfl rfl ?_
  refine c_put (D := D) (ci := 5) (v := .ref q_6) (ty := (.array .byte)) (C := RX5) (T := TX5) (N' := 15) hx hb hts iX5_init_X5 tyX5 tyX5_ok nmX5 hown hK hJ hS 0 rfl rfl 7 (by decide) (hts (.fieldLink RX5 38 "CatLeases$Reader" "text" "[B") (List.mem_of_getElem? (i := 16) rfl)) (fun _ h9 => h9) rfl (by decide +kernel) rfl rfl (Nat.le_of_ble_eq_true rfl) dX5_init_61 (fun H locs hJ hS => ?_)
  have hJ : cJ D g A [(z, .inr (5, [.ref q_1, .int 0, .int (-1), .ref q_2, .ref q_3, .ref q_4, .ref q_5, .ref q_6, .int 0, .int 0, .int 0, .int 0, .int 0, .int 0, .long 0]))] [(q_6, 11), (q_5, 25), (q_4, 24), (q_3, 23), (q_2, 22), (q_1, 4)] false H := hJ
  refine lv_aload_n hx hb dX5_init_64 rfl (lv_at hl 0 rfl) ?_
  refine lv_iconst (v := 0) hx hb dX5_init_65 (by decide) ?_
  refine c_put (D := D) (ci := 5) (v := .int 0) (ty := .int) (C := RX5) (T := TX5) (N' := 15) hx hb hts iX5_init_X5 tyX5 tyX5_ok nmX5 hown hK hJ hS 0 rfl rfl 8 (by decide) (hts (.fieldLink RX5 42 "CatLeases$Reader" "length" "I") (List.mem_of_getElem? (i := 17) rfl)) (fun _ h9 => h9) rfl (by decide +kernel) rfl rfl (Nat.le_of_ble_eq_true rfl) dX5_init_66 (fun H locs hJ hS => ?_)
  have hJ : cJ D g A [(z, .inr (5, [.ref q_1, .int 0, .int (-1), .ref q_2, .ref q_3, .ref q_4, .ref q_5, .ref q_6, .int 0, .int 0, .int 0, .int 0, .int 0, .int 0, .long 0]))] [(q_6, 11), (q_5, 25), (q_4, 24), (q_3, 23), (q_2, 22), (q_1, 4)] false H := hJ
  refine lv_aload_n hx hb dX5_init_69 rfl (lv_at hl 0 rfl) ?_
  refine lv_iconst (v := 0) hx hb dX5_init_70 (by decide) ?_
  refine c_put (D := D) (ci := 5) (v := .int 0) (ty := .int) (C := RX5) (T := TX5) (N' := 15) hx hb hts iX5_init_X5 tyX5 tyX5_ok nmX5 hown hK hJ hS 0 rfl rfl 9 (by decide) (hts (.fieldLink RX5 45 "CatLeases$Reader" "toldOnce" "I") (List.mem_of_getElem? (i := 18) rfl)) (fun _ h9 => h9) rfl (by decide +kernel) rfl rfl (Nat.le_of_ble_eq_true rfl) dX5_init_71 (fun H locs hJ hS => ?_)
  have hJ : cJ D g A [(z, .inr (5, [.ref q_1, .int 0, .int (-1), .ref q_2, .ref q_3, .ref q_4, .ref q_5, .ref q_6, .int 0, .int 0, .int 0, .int 0, .int 0, .int 0, .long 0]))] [(q_6, 11), (q_5, 25), (q_4, 24), (q_3, 23), (q_2, 22), (q_1, 4)] false H := hJ
  refine lv_aload_n hx hb dX5_init_74 rfl (lv_at hl 0 rfl) ?_
  refine lv_iconst (v := 0) hx hb dX5_init_75 (by decide) ?_
  refine c_put (D := D) (ci := 5) (v := .int 0) (ty := .int) (C := RX5) (T := TX5) (N' := 15) hx hb hts iX5_init_X5 tyX5 tyX5_ok nmX5 hown hK hJ hS 0 rfl rfl 10 (by decide) (hts (.fieldLink RX5 48 "CatLeases$Reader" "at" "I") (List.mem_of_getElem? (i := 19) rfl)) (fun _ h9 => h9) rfl (by decide +kernel) rfl rfl (Nat.le_of_ble_eq_true rfl) dX5_init_76 (fun H locs hJ hS => ?_)
  have hJ : cJ D g A [(z, .inr (5, [.ref q_1, .int 0, .int (-1), .ref q_2, .ref q_3, .ref q_4, .ref q_5, .ref q_6, .int 0, .int 0, .int 0, .int 0, .int 0, .int 0, .long 0]))] [(q_6, 11), (q_5, 25), (q_4, 24), (q_3, 23), (q_2, 22), (q_1, 4)] false H := hJ
  refine lv_aload_n hx hb dX5_init_79 rfl (lv_at hl 0 rfl) ?_
  refine lv_iconst (v := 0) hx hb dX5_init_80 (by decide) ?_
  refine c_put (D := D) (ci := 5) (v := .int 0) (ty := .int) (C := RX5) (T := TX5) (N' := 15) hx hb hts iX5_init_X5 tyX5 tyX5_ok nmX5 hown hK hJ hS 0 rfl rfl 11 (by decide) (hts (.fieldLink RX5 51 "CatLeases$Reader" "place" "I") (List.mem_of_getElem? (i := 20) rfl)) (fun _ h9 => h9) rfl (by decide +kernel) rfl rfl (Nat.le_of_ble_eq_true rfl) dX5_init_81 (fun H locs hJ hS => ?_)
  have hJ : cJ D g A [(z, .inr (5, [.ref q_1, .int 0, .int (-1), .ref q_2, .ref q_3, .ref q_4, .ref q_5, .ref q_6, .int 0, .int 0, .int 0, .int 0, .int 0, .int 0, .long 0]))] [(q_6, 11), (q_5, 25), (q_4, 24), (q_3, 23), (q_2, 22), (q_1, 4)] false H := hJ
  refine lv_aload_n hx hb dX5_init_84 rfl (lv_at hl 0 rfl) ?_
  refine lv_sipush (v := 258) hx hb dX5_init_85 (by decide) ?_
  refine c_put (D := D) (ci := 5) (v := .int 258) (ty := .int) (C := RX5) (T := TX5) (N' := 15) hx hb hts iX5_init_X5 tyX5 tyX5_ok nmX5 hown hK hJ hS 0 rfl rfl 12 (by decide) (hts (.fieldLink RX5 54 "CatLeases$Reader" "kind" "I") (List.mem_of_getElem? (i := 21) rfl)) (fun _ h9 => h9) rfl (by decide +kernel) rfl rfl (Nat.le_of_ble_eq_true rfl) dX5_init_88 (fun H locs hJ hS => ?_)
  have hJ : cJ D g A [(z, .inr (5, [.ref q_1, .int 0, .int (-1), .ref q_2, .ref q_3, .ref q_4, .ref q_5, .ref q_6, .int 0, .int 0, .int 0, .int 0, .int 258, .int 0, .long 0]))] [(q_6, 11), (q_5, 25), (q_4, 24), (q_3, 23), (q_2, 22), (q_1, 4)] false H := hJ
  refine lv_aload_n hx hb dX5_init_91 rfl (lv_at hl 0 rfl) ?_
  refine lv_iconst (v := 0) hx hb dX5_init_92 (by decide) ?_
  refine c_put (D := D) (ci := 5) (v := .int 0) (ty := .int) (C := RX5) (T := TX5) (N' := 15) hx hb hts iX5_init_X5 tyX5 tyX5_ok nmX5 hown hK hJ hS 0 rfl rfl 13 (by decide) (hts (.fieldLink RX5 57 "CatLeases$Reader" "number" "I") (List.mem_of_getElem? (i := 22) rfl)) (fun _ h9 => h9) rfl (by decide +kernel) rfl rfl (Nat.le_of_ble_eq_true rfl) dX5_init_93 (fun H locs hJ hS => ?_)
  have hJ : cJ D g A [(z, .inr (5, [.ref q_1, .int 0, .int (-1), .ref q_2, .ref q_3, .ref q_4, .ref q_5, .ref q_6, .int 0, .int 0, .int 0, .int 0, .int 258, .int 0, .long 0]))] [(q_6, 11), (q_5, 25), (q_4, 24), (q_3, 23), (q_2, 22), (q_1, 4)] false H := hJ
  refine lv_aload_n hx hb dX5_init_96 rfl (lv_at hl 0 rfl) ?_
  refine lv_lconst (v := 0) hx hb dX5_init_97 (by decide) ?_
  refine c_put (D := D) (ci := 5) (v := .long 0) (ty := .long) (C := RX5) (T := TX5) (N' := 15) hx hb hts iX5_init_X5 tyX5 tyX5_ok nmX5 hown hK hJ hS 0 rfl rfl 14 (by decide) (hts (.fieldLink RX5 60 "CatLeases$Reader" "word" "J") (List.mem_of_getElem? (i := 23) rfl)) (fun _ h9 => h9) rfl (by decide +kernel) rfl rfl (Nat.le_of_ble_eq_true rfl) dX5_init_98 (fun H locs hJ hS => ?_)
  have hJ : cJ D g A [(z, .inr (5, [.ref q_1, .int 0, .int (-1), .ref q_2, .ref q_3, .ref q_4, .ref q_5, .ref q_6, .int 0, .int 0, .int 0, .int 0, .int 258, .int 0, .long 0]))] [(q_6, 11), (q_5, 25), (q_4, 24), (q_3, 23), (q_2, 22), (q_1, 4)] false H := hJ
  refine lv_iconst (v := 0) hx hb dX5_init_101 (by decide) ?_
  refine lv_istore_n (lv' := [(1, .int 0), (0, .ref z)]) hx hb dX5_init_102 rfl hl (by decide) rfl (fun ls hl => ?_)
  refine lv_lconst (v := 0) hx hb dX5_init_103 (by decide) ?_
  refine lv_lstore_n (lv' := [(2, .long 0), (1, .int 0), (0, .ref z)]) hx hb dX5_init_104 rfl hl (by decide) rfl (fun ls hl => ?_)
  refine lv_iconst (v := 0) hx hb dX5_init_105 (by decide) ?_
  refine lv_istore (lv' := [(4, .int 0), (2, .long 0), (1, .int 0), (0, .ref z)]) hx hb dX5_init_106 hl (by decide) rfl (fun ls hl => ?_)
  have hloop : ∀ (n i : Nat) (w : Int64) (j : Nat) (H : Heap) (locs : List Loc) (ls : Array Slot), i ≤ 100 → 100 < i + n → j ≤ 19 → cJ D g A [(z, .inr (5, [.ref q_1, .int 0, .int (-1), .ref q_2, .ref q_3, .ref q_4, .ref q_5, .ref q_6, .int 0, .int 0, .int 0, .int 0, .int 258, .int 0, .long 0]))] [(q_6, 11), (q_5, 25), (q_4, 24), (q_3, 23), (q_2, 22), (q_1, 4)] false H → va_S A s.heap H locs → lv_has ls 5 [(4, .int (nI i)), (2, .long w), (1, .int (nI j)), (0, .ref z)] → W p l e (headSpec wsX5_init ({ frames := 4, cells := 19, slots := 424, locals := 85 })).room s m ar below meth c H locs 19 424 Q (F0 m 108 ls []) := by
    intro n
    induction n with
    | zero => intro i w j H locs ls h1 h2; exact absurd h2 (by omega)
    | succ n ih =>
      intro i w j H locs ls h1 h2 h3 hJ hS hl
      refine lv_iload hx hb dX5_init_108 (lv_at hl 0 rfl) ?_
      refine va_ldcS hx hb hown hE.1.2.1 dX5_init_110 ?_
      refine c_goi0 hJ hS hA (va_runV (As := []) (rest := [.int (nI i)]) ⟨hx, hb, hml, hown, hts⟩ (j_length l D g _ _ _) (cwV 0 hts gX5_init_J0_length_8abf5 rfl rfl rfl (by decide +kernel) ⟨Nat.le_of_ble_eq_true rfl, Nat.le_of_ble_eq_true rfl⟩) (k_preVE hK hE.1 hS hA) rfl rfl hl.1 rfl (lv_room (Nat.le_of_ble_eq_true rfl)) dX5_init_112 ⟨Nat.le_of_ble_eq_true rfl, Nat.le_of_ble_eq_true rfl⟩) (fun r u H locs hw hJ hS => ?_)
      rcases hw with ⟨rfl, rfl⟩
      refine lv_icmp_ge (tgt := 172) hx hb dX5_init_115 (by decide) (fun c1 => ?_) (fun c1 => ?_)
      · obtain ⟨σ, M, N, R, k1, k2, k3, k4, k5, km, kr⟩ := hJ.take (s := 5) _ _ _ (c_obj (hJ.1 0 _ rfl) (by decide) rfl rfl (fun k hk => match k, hk with
            | 0, _ => rfl
            | 1, _ => rfl
            | 2, _ => rfl
            | 3, _ => rfl
            | 4, _ => rfl
            | 5, _ => rfl
            | 6, _ => rfl
            | 7, _ => rfl
            | 8, _ => rfl
            | 9, _ => rfl
            | 10, _ => rfl
            | 11, _ => rfl
            | 12, _ => rfl
            | 13, _ => rfl
            | 14, _ => rfl
            | (k + 15), h => absurd h (by omega))) (fun k hk => match k, hk with
            | 0, _ => iv_any _
            | 1, _ => iv_any _
            | 2, _ => iv_any _
            | 3, _ => iv_any _
            | 4, _ => iv_any _
            | 5, _ => iv_any _
            | 6, _ => iv_any _
            | 7, _ => iv_any _
            | 8, _ => iv_zero (by decide) (by decide)
            | 9, _ => iv_any _
            | 10, _ => iv_any _
            | 11, _ => iv_any _
            | 12, _ => iv_any _
            | 13, _ => iv_any _
            | 14, _ => iv_any _
            | (k + 15), h => absurd h (show ¬ k + 15 < 15 by omega)) (fun k hk => match k, hk with
            | 0, _ => Or.inr ⟨4, by decide, List.mem_of_getElem? (i := 5) rfl⟩
            | 1, _ => Or.inl rfl
            | 2, _ => Or.inl rfl
            | 3, _ => Or.inr ⟨22, by decide, List.mem_of_getElem? (i := 4) rfl⟩
            | 4, _ => Or.inr ⟨23, by decide, List.mem_of_getElem? (i := 3) rfl⟩
            | 5, _ => Or.inr ⟨24, by decide, List.mem_of_getElem? (i := 2) rfl⟩
            | 6, _ => Or.inr ⟨25, by decide, List.mem_of_getElem? (i := 1) rfl⟩
            | 7, _ => Or.inr ⟨11, by decide, List.mem_of_getElem? (i := 0) rfl⟩
            | 8, _ => Or.inl rfl
            | 9, _ => Or.inl rfl
            | 10, _ => Or.inl rfl
            | 11, _ => Or.inl rfl
            | 12, _ => Or.inl rfl
            | 13, _ => Or.inl rfl
            | 14, _ => Or.inl rfl
            | (k + 15), h => absurd h (show ¬ k + 15 < 15 by omega))
        exact c_ret hQ hx hb hr hlocks hK ⟨σ, M, N, R, k1, k2, fun a ha => (k3 a ha).1, k4 _ (List.mem_of_getElem? (i := 0) rfl), trivial⟩ hS dX5_init_172
      · have hi : i < 100 := k_ge2 (N := 100) rfl h1 (by decide) c1
        have hp0 : ¬ nI i < 0 := by rw [Int32.lt_iff_toInt_lt, nI_toInt (by omega)]; show ¬ (i : Int) < 0; omega
        have hp1 : nI i < 100 := by rw [Int32.lt_iff_toInt_lt, nI_toInt (by omega)]; show (i : Int) < 100; omega
        refine va_ldcS hx hb hown hE.1.2.1 dX5_init_118 ?_
        refine lv_iload hx hb dX5_init_120 (lv_at hl 0 rfl) ?_
        refine c_goi0 hJ hS hA (va_runV (As := [.int (nI i)]) (rest := []) ⟨hx, hb, hml, hown, hts⟩ (j_charAt l D g _ _ _ (nI i) hp0 hp1) (cwV 1 hts gX5_init_J0_charAt_5068e rfl rfl rfl (by decide +kernel) ⟨Nat.le_of_ble_eq_true rfl, Nat.le_of_ble_eq_true rfl⟩) (k_preVE hK hE.1 hS hA) rfl rfl hl.1 rfl (lv_room (Nat.le_of_ble_eq_true rfl)) dX5_init_122 ⟨Nat.le_of_ble_eq_true rfl, Nat.le_of_ble_eq_true rfl⟩) (fun r u H locs hw hJ hS => ?_)
        rcases hw with ⟨z1, rfl, rfl⟩
        refine lv_bipush (v := 32) hx hb dX5_init_125 (by decide) ?_
        refine lv_icmp_eq (tgt := 145) hx hb dX5_init_127 (by decide) (fun c2 => ?_) (fun c2 => ?_)
        · refine lv_iload_n hx hb dX5_init_145 rfl (lv_at hl 2 rfl) ?_
          refine lv_aload_n hx hb dX5_init_146 rfl (lv_at hl 3 rfl) ?_
          refine va_get (D := D) (ci := 5) (v := .ref q_2) (C := RX5) (T := TX5) (N := 15) hx hb hts iX5_init_X5 hown hK hJ.1 0 rfl rfl 3 (by decide) (hts (.fieldLink RX5 25 "CatLeases$Reader" "words" "[J") (List.mem_of_getElem? (i := 11) rfl)) (fun _ h9 => h9) rfl dX5_init_147 ?_
          refine c_alen (v := 19) hx hb hK hJ (so := 22) (List.mem_of_getElem? (i := 4) rfl) (by decide) rfl rfl dX5_init_150 ?_
          refine lv_icmp_ge (tgt := 166) hx hb dX5_init_151 (by decide) (fun c3 => ?_) (fun c3 => ?_)
          · refine lv_iinc (v := nI (i + 1)) (lv' := [(4, .int (nI (i + 1))), (2, .long w), (1, .int (nI j)), (0, .ref z)]) hx hb dX5_init_166 hl (k := 0) rfl (k_inc i) (by decide) rfl (fun ls hl => ?_)
            refine lv_goto (tgt := 108) hx hb dX5_init_169 (by decide) ?_
            exact ih (i + 1) w j _ _ _ (by omega) (by omega) (by omega) hJ hS (lv_sub hl [0, 1, 2, 3] rfl)
          · have hj : j < 19 := k_ge2 (N := 19) rfl h3 (by decide) c3
            refine lv_aload_n hx hb dX5_init_154 rfl (lv_at hl 3 rfl) ?_
            refine va_get (D := D) (ci := 5) (v := .ref q_2) (C := RX5) (T := TX5) (N := 15) hx hb hts iX5_init_X5 hown hK hJ.1 0 rfl rfl 3 (by decide) (hts (.fieldLink RX5 25 "CatLeases$Reader" "words" "[J") (List.mem_of_getElem? (i := 11) rfl)) (fun _ h9 => h9) rfl dX5_init_155 ?_
            refine lv_iload_n hx hb dX5_init_158 rfl (lv_at hl 2 rfl) ?_
            refine lv_lload_n hx hb dX5_init_159 rfl (lv_at hl 1 rfl) ?_
            refine c_last hx hb hK hJ hS (so := 22) (List.mem_of_getElem? (i := 4) rfl) (by decide) rfl (vp_in_nI (n := j) (N := 19) (by omega) (by decide)) dX5_init_160 (fun H locs hJ hS => ?_)
            refine lv_iinc (v := nI (j + 1)) (lv' := [(1, .int (nI (j + 1))), (4, .int (nI i)), (2, .long w), (0, .ref z)]) hx hb dX5_init_161 hl (k := 2) rfl (k_inc j) (by decide) rfl (fun ls hl => ?_)
            refine lv_lconst (v := 0) hx hb dX5_init_164 (by decide) ?_
            refine lv_lstore_n (lv' := [(2, .long 0), (1, .int (nI (j + 1))), (4, .int (nI i)), (0, .ref z)]) hx hb dX5_init_165 rfl hl (by decide) rfl (fun ls hl => ?_)
            refine lv_iinc (v := nI (i + 1)) (lv' := [(4, .int (nI (i + 1))), (2, .long 0), (1, .int (nI (j + 1))), (0, .ref z)]) hx hb dX5_init_166 hl (k := 2) rfl (k_inc i) (by decide) rfl (fun ls hl => ?_)
            refine lv_goto (tgt := 108) hx hb dX5_init_169 (by decide) ?_
            exact ih (i + 1) 0 (j + 1) _ _ _ (by omega) (by omega) (by omega) hJ hS (lv_sub hl [0, 1, 2, 3] rfl)
        · refine lv_lload_n hx hb dX5_init_130 rfl (lv_at hl 1 rfl) ?_
          refine va_ldcS hx hb hown hE.1.2.1 dX5_init_131 ?_
          refine lv_iload hx hb dX5_init_133 (lv_at hl 0 rfl) ?_
          refine c_goi0 hJ hS hA (va_runV (As := [.int (nI i)]) (rest := [.long w]) ⟨hx, hb, hml, hown, hts⟩ (j_charAt l D g _ _ _ (nI i) hp0 hp1) (cwV 1 hts gX5_init_J0_charAt_5068e rfl rfl rfl (by decide +kernel) ⟨Nat.le_of_ble_eq_true rfl, Nat.le_of_ble_eq_true rfl⟩) (k_preVE hK hE.1 hS hA) rfl rfl hl.1 rfl (lv_room (Nat.le_of_ble_eq_true rfl)) dX5_init_135 ⟨Nat.le_of_ble_eq_true rfl, Nat.le_of_ble_eq_true rfl⟩) (fun r u H locs hw hJ hS => ?_)
          rcases hw with ⟨z2, rfl, rfl⟩
          refine c_gol0 hJ hS hA (va_runS (As := [.long w, .int z2]) (rest := []) ⟨hx, hb, hml, hown, hts⟩ (c_joinLetter l D g _ w z2) (va_cwS 2 hts gX5_init_X5_joinLetter rfl rfl rfl (by decide +kernel) ⟨Nat.le_of_ble_eq_true rfl, Nat.le_of_ble_eq_true rfl⟩) (c_pre0 hK) rfl rfl hl.1 rfl (lv_room (Nat.le_of_ble_eq_true rfl)) dX5_init_138 ⟨Nat.le_of_ble_eq_true rfl, Nat.le_of_ble_eq_true rfl⟩) (fun r u H locs hw hJ hS => ?_)
          rcases hw with ⟨z3, rfl, rfl⟩
          refine lv_lstore_n (lv' := [(2, .long z3), (4, .int (nI i)), (1, .int (nI j)), (0, .ref z)]) hx hb dX5_init_141 rfl hl (by decide) rfl (fun ls hl => ?_)
          refine lv_goto (tgt := 166) hx hb dX5_init_142 (by decide) ?_
          refine lv_iinc (v := nI (i + 1)) (lv' := [(4, .int (nI (i + 1))), (2, .long z3), (1, .int (nI j)), (0, .ref z)]) hx hb dX5_init_166 hl (k := 1) rfl (k_inc i) (by decide) rfl (fun ls hl => ?_)
          refine lv_goto (tgt := 108) hx hb dX5_init_169 (by decide) ?_
          exact ih (i + 1) z3 j _ _ _ (by omega) (by omega) (by omega) hJ hS (lv_sub hl [0, 1, 2, 3] rfl)
  exact hloop (100 + 1) 0 0 0 _ _ _ (by omega) (by omega) (by omega) hJ.weak hS hl
