set_option maxHeartbeats 4000000 in
set_option maxRecDepth 100000 in
theorem c_copyOf (l : Launch) (D : va_G) (g : Nat → ClassId) (sz : Nat) (s1 : Nat) (s0 : Nat) (s1k : Nat) (s1p : Nat) (s1s : Nat) (s1h : Nat) (s1f : Nat) (s0k : Nat) (s0p : Nat) (s0s : Nat) (s0h : Nat) (s0f : Nat) (fs_s1 : List Value) (v_s1_living : Value) (v_s1_quarters : Value) (v_s1_seed : Value) (f_s1k : Nat → Int32) (f_s1p : Nat → Int32) (f_s1s : Nat → Int32) (f_s1h : Nat → Int32) (f_s1f : Nat → Int32) (fs_s0 : List Value) (f_s0k : Nat → Int32) (f_s0p : Nat → Int32) (f_s0s : Nat → Int32) (f_s0h : Nat → Int32) (f_s0f : Nat → Int32) (h_s1_keepers : fs_s1[0]? = some (.ref s1k)) (h_s1_places : fs_s1[1]? = some (.ref s1p)) (h_s1_stays : fs_s1[2]? = some (.ref s1s)) (h_s1_hours : fs_s1[3]? = some (.ref s1h)) (h_s1_fidgets : fs_s1[4]? = some (.ref s1f)) (h_s1_living : fs_s1[5]? = some (v_s1_living)) (h_s1_quarters : fs_s1[6]? = some (v_s1_quarters)) (h_s1_seed : fs_s1[7]? = some (v_s1_seed)) (h_s0_keepers : fs_s0[0]? = some (.ref s0k)) (h_s0_places : fs_s0[1]? = some (.ref s0p)) (h_s0_stays : fs_s0[2]? = some (.ref s0s)) (h_s0_hours : fs_s0[3]? = some (.ref s0h)) (h_s0_fidgets : fs_s0[4]? = some (.ref s0f)) (h_s0_living : fs_s0[5]? = some (.int 0)) (h_s0_quarters : fs_s0[6]? = some (.int 0)) (h_s0_seed : fs_s0[7]? = some (.int 0)) : Met l yX7_copyOf wsX7_copyOf ({ frames := 1, cells := 0, slots := 0, locals := 40 }) (va_Pc [.ref s1, .ref s0] (kPre D g [(s1, .inr (7, fs_s1)), (s1k, .inl (g 1, 8, .inl f_s1k)), (s1p, .inl (g 1, 7, .inl f_s1p)), (s1s, .inl (g 1, 7, .inl f_s1s)), (s1h, .inl (g 1, 7, .inl f_s1h)), (s1f, .inl (g 1, 7, .inl f_s1f)), (s0, .inr (7, fs_s0)), (s0k, .inl (g 1, 8, .inl f_s0k)), (s0p, .inl (g 1, 7, .inl f_s0p)), (s0s, .inl (g 1, 7, .inl f_s0s)), (s0h, .inl (g 1, 7, .inl f_s0h)), (s0f, .inl (g 1, 7, .inl f_s0f))] sz)) (kQv D g (fun (u : va_W) => u = [(s1, .inr (7, (((fs_s1.set 5 (.int 0)).set 6 (.int 0)).set 7 (.int 0)))), (s1k, .inl (g 1, 8, .inl (va_cpy f_s0k f_s1k 0 0 8))), (s1p, .inl (g 1, 7, .inl (va_cpy f_s0p f_s1p 0 0 7))), (s1s, .inl (g 1, 7, .inl (va_cpy f_s0s f_s1s 0 0 7))), (s1h, .inl (g 1, 7, .inl (va_cpy f_s0h f_s1h 0 0 7))), (s1f, .inl (g 1, 7, .inl (va_cpy f_s0f f_s1f 0 0 7))), (s0, .inr (7, fs_s0)), (s0k, .inl (g 1, 8, .inl f_s0k)), (s0p, .inl (g 1, 7, .inl f_s0p)), (s0s, .inl (g 1, 7, .inl f_s0s)), (s0h, .inl (g 1, 7, .inl f_s0h)), (s0f, .inl (g 1, 7, .inl f_s0f))]) (va_A [(s1, .inr (7, fs_s1)), (s1k, .inl (g 1, 8, .inl f_s1k)), (s1p, .inl (g 1, 7, .inl f_s1p)), (s1s, .inl (g 1, 7, .inl f_s1s)), (s1h, .inl (g 1, 7, .inl f_s1h)), (s1f, .inl (g 1, 7, .inl f_s1f)), (s0, .inr (7, fs_s0)), (s0k, .inl (g 1, 8, .inl f_s0k)), (s0p, .inl (g 1, 7, .inl f_s0p)), (s0s, .inl (g 1, 7, .inl f_s0s)), (s0h, .inl (g 1, 7, .inl f_s0h)), (s0f, .inl (g 1, 7, .inl f_s0f))] sz)) 0 0 (va_A [(s1, .inr (7, fs_s1)), (s1k, .inl (g 1, 8, .inl f_s1k)), (s1p, .inl (g 1, 7, .inl f_s1p)), (s1s, .inl (g 1, 7, .inl f_s1s)), (s1h, .inl (g 1, 7, .inl f_s1h)), (s1f, .inl (g 1, 7, .inl f_s1f)), (s0, .inr (7, fs_s0)), (s0k, .inl (g 1, 8, .inl f_s0k)), (s0p, .inl (g 1, 7, .inl f_s0p)), (s0s, .inl (g 1, 7, .inl f_s0s)), (s0h, .inl (g 1, 7, .inl f_s0h)), (s0f, .inl (g 1, 7, .inl f_s0f))] sz) := by
  refine k_head (cc := cX7_copyOf) (maxL := 2) (ret := none) (by decide) rfl (Nat.le_of_ble_eq_true rfl) ?_
  intro p e s m below meth c ls A hx hb hr hlocks hml hown hin hts hA hP hK hD hS hl
  have hown : s.vm.findClass RX7 = some m.cls := hown
  have hl : lv_has ls 2 [(0, .ref s1), (1, .ref s0)] := hl
  refine lv_aload_n hx hb dX7_copyOf_0 rfl (lv_at hl 1 rfl) ?_
  refine va_get (D := D) (ci := 7) (v := .ref s0k) (C := RX7) (T := TX7) (N := 8) hx hb hts iX7_copyOf_X7 hown hK hP 6 rfl rfl 0 (by decide) (hts (.fieldLink RX7 9 "CatLeases$State" "keepers" "[I") (List.mem_of_getElem? (i := 1) rfl)) (fun _ h9 => h9) h_s0_keepers dX7_copyOf_1 ?_
  refine lv_iconst (v := 0) hx hb dX7_copyOf_4 (by decide) ?_
  refine lv_aload_n hx hb dX7_copyOf_5 rfl (lv_at hl 0 rfl) ?_
  refine va_get (D := D) (ci := 7) (v := .ref s1k) (C := RX7) (T := TX7) (N := 8) hx hb hts iX7_copyOf_X7 hown hK hP 0 rfl rfl 0 (by decide) (hts (.fieldLink RX7 9 "CatLeases$State" "keepers" "[I") (List.mem_of_getElem? (i := 1) rfl)) (fun _ h9 => h9) h_s1_keepers dX7_copyOf_6 ?_
  refine lv_iconst (v := 0) hx hb dX7_copyOf_9 (by decide) ?_
  refine lv_bipush (v := 8) hx hb dX7_copyOf_10 (by decide) ?_
  refine va_copyi hx hb (hml.trans hl.1.symm) hown (hts (.methodLink RX7 43 arraycopyName) (List.mem_of_getElem? (i := 2) rfl)) (hts (.native arraycopyName) (List.mem_of_getElem? (i := 3) rfl)) (hts (.static arraycopyName) (List.mem_of_getElem? (i := 4) rfl)) (hts (.initialized "java/lang/System") (List.mem_of_getElem? (i := 5) rfl)) hK hP hD hS 7 1 1 1 rfl rfl rfl rfl rfl (by decide) (by decide) (by decide) (by decide) (by decide) (fun i _ => rfl) (Nat.le_of_ble_eq_true rfl) (Nat.le_of_ble_eq_true rfl) dX7_copyOf_12 (fun H locs hP hD hS => ?_)
  have hP : va_P D vwCl [(s1, .inr (7, fs_s1)), (s1k, .inl (g 1, 8, .inl (va_cpy f_s0k f_s1k 0 0 8))), (s1p, .inl (g 1, 7, .inl f_s1p)), (s1s, .inl (g 1, 7, .inl f_s1s)), (s1h, .inl (g 1, 7, .inl f_s1h)), (s1f, .inl (g 1, 7, .inl f_s1f)), (s0, .inr (7, fs_s0)), (s0k, .inl (g 1, 8, .inl f_s0k)), (s0p, .inl (g 1, 7, .inl f_s0p)), (s0s, .inl (g 1, 7, .inl f_s0s)), (s0h, .inl (g 1, 7, .inl f_s0h)), (s0f, .inl (g 1, 7, .inl f_s0f))] H := hP
  have hD : va_D A [(s1, .inr (7, fs_s1)), (s1k, .inl (g 1, 8, .inl (va_cpy f_s0k f_s1k 0 0 8))), (s1p, .inl (g 1, 7, .inl f_s1p)), (s1s, .inl (g 1, 7, .inl f_s1s)), (s1h, .inl (g 1, 7, .inl f_s1h)), (s1f, .inl (g 1, 7, .inl f_s1f)), (s0, .inr (7, fs_s0)), (s0k, .inl (g 1, 8, .inl f_s0k)), (s0p, .inl (g 1, 7, .inl f_s0p)), (s0s, .inl (g 1, 7, .inl f_s0s)), (s0h, .inl (g 1, 7, .inl f_s0h)), (s0f, .inl (g 1, 7, .inl f_s0f))] := hD
  refine lv_aload_n hx hb dX7_copyOf_15 rfl (lv_at hl 1 rfl) ?_
  refine va_get (D := D) (ci := 7) (v := .ref s0p) (C := RX7) (T := TX7) (N := 8) hx hb hts iX7_copyOf_X7 hown hK hP 6 rfl rfl 1 (by decide) (hts (.fieldLink RX7 15 "CatLeases$State" "places" "[I") (List.mem_of_getElem? (i := 6) rfl)) (fun _ h9 => h9) h_s0_places dX7_copyOf_16 ?_
  refine lv_iconst (v := 0) hx hb dX7_copyOf_19 (by decide) ?_
  refine lv_aload_n hx hb dX7_copyOf_20 rfl (lv_at hl 0 rfl) ?_
  refine va_get (D := D) (ci := 7) (v := .ref s1p) (C := RX7) (T := TX7) (N := 8) hx hb hts iX7_copyOf_X7 hown hK hP 0 rfl rfl 1 (by decide) (hts (.fieldLink RX7 15 "CatLeases$State" "places" "[I") (List.mem_of_getElem? (i := 6) rfl)) (fun _ h9 => h9) h_s1_places dX7_copyOf_21 ?_
  refine lv_iconst (v := 0) hx hb dX7_copyOf_24 (by decide) ?_
  refine lv_bipush (v := 7) hx hb dX7_copyOf_25 (by decide) ?_
  refine va_copyi hx hb (hml.trans hl.1.symm) hown (hts (.methodLink RX7 43 arraycopyName) (List.mem_of_getElem? (i := 2) rfl)) (hts (.native arraycopyName) (List.mem_of_getElem? (i := 3) rfl)) (hts (.static arraycopyName) (List.mem_of_getElem? (i := 4) rfl)) (hts (.initialized "java/lang/System") (List.mem_of_getElem? (i := 5) rfl)) hK hP hD hS 8 2 1 1 rfl rfl rfl rfl rfl (by decide) (by decide) (by decide) (by decide) (by decide) (fun i _ => rfl) (Nat.le_of_ble_eq_true rfl) (Nat.le_of_ble_eq_true rfl) dX7_copyOf_27 (fun H locs hP hD hS => ?_)
  have hP : va_P D vwCl [(s1, .inr (7, fs_s1)), (s1k, .inl (g 1, 8, .inl (va_cpy f_s0k f_s1k 0 0 8))), (s1p, .inl (g 1, 7, .inl (va_cpy f_s0p f_s1p 0 0 7))), (s1s, .inl (g 1, 7, .inl f_s1s)), (s1h, .inl (g 1, 7, .inl f_s1h)), (s1f, .inl (g 1, 7, .inl f_s1f)), (s0, .inr (7, fs_s0)), (s0k, .inl (g 1, 8, .inl f_s0k)), (s0p, .inl (g 1, 7, .inl f_s0p)), (s0s, .inl (g 1, 7, .inl f_s0s)), (s0h, .inl (g 1, 7, .inl f_s0h)), (s0f, .inl (g 1, 7, .inl f_s0f))] H := hP
  have hD : va_D A [(s1, .inr (7, fs_s1)), (s1k, .inl (g 1, 8, .inl (va_cpy f_s0k f_s1k 0 0 8))), (s1p, .inl (g 1, 7, .inl (va_cpy f_s0p f_s1p 0 0 7))), (s1s, .inl (g 1, 7, .inl f_s1s)), (s1h, .inl (g 1, 7, .inl f_s1h)), (s1f, .inl (g 1, 7, .inl f_s1f)), (s0, .inr (7, fs_s0)), (s0k, .inl (g 1, 8, .inl f_s0k)), (s0p, .inl (g 1, 7, .inl f_s0p)), (s0s, .inl (g 1, 7, .inl f_s0s)), (s0h, .inl (g 1, 7, .inl f_s0h)), (s0f, .inl (g 1, 7, .inl f_s0f))] := hD
  refine lv_aload_n hx hb dX7_copyOf_30 rfl (lv_at hl 1 rfl) ?_
  refine va_get (D := D) (ci := 7) (v := .ref s0s) (C := RX7) (T := TX7) (N := 8) hx hb hts iX7_copyOf_X7 hown hK hP 6 rfl rfl 2 (by decide) (hts (.fieldLink RX7 18 "CatLeases$State" "stays" "[I") (List.mem_of_getElem? (i := 7) rfl)) (fun _ h9 => h9) h_s0_stays dX7_copyOf_31 ?_
  refine lv_iconst (v := 0) hx hb dX7_copyOf_34 (by decide) ?_
  refine lv_aload_n hx hb dX7_copyOf_35 rfl (lv_at hl 0 rfl) ?_
  refine va_get (D := D) (ci := 7) (v := .ref s1s) (C := RX7) (T := TX7) (N := 8) hx hb hts iX7_copyOf_X7 hown hK hP 0 rfl rfl 2 (by decide) (hts (.fieldLink RX7 18 "CatLeases$State" "stays" "[I") (List.mem_of_getElem? (i := 7) rfl)) (fun _ h9 => h9) h_s1_stays dX7_copyOf_36 ?_
  refine lv_iconst (v := 0) hx hb dX7_copyOf_39 (by decide) ?_
  refine lv_bipush (v := 7) hx hb dX7_copyOf_40 (by decide) ?_
  refine va_copyi hx hb (hml.trans hl.1.symm) hown (hts (.methodLink RX7 43 arraycopyName) (List.mem_of_getElem? (i := 2) rfl)) (hts (.native arraycopyName) (List.mem_of_getElem? (i := 3) rfl)) (hts (.static arraycopyName) (List.mem_of_getElem? (i := 4) rfl)) (hts (.initialized "java/lang/System") (List.mem_of_getElem? (i := 5) rfl)) hK hP hD hS 9 3 1 1 rfl rfl rfl rfl rfl (by decide) (by decide) (by decide) (by decide) (by decide) (fun i _ => rfl) (Nat.le_of_ble_eq_true rfl) (Nat.le_of_ble_eq_true rfl) dX7_copyOf_42 (fun H locs hP hD hS => ?_)
  have hP : va_P D vwCl [(s1, .inr (7, fs_s1)), (s1k, .inl (g 1, 8, .inl (va_cpy f_s0k f_s1k 0 0 8))), (s1p, .inl (g 1, 7, .inl (va_cpy f_s0p f_s1p 0 0 7))), (s1s, .inl (g 1, 7, .inl (va_cpy f_s0s f_s1s 0 0 7))), (s1h, .inl (g 1, 7, .inl f_s1h)), (s1f, .inl (g 1, 7, .inl f_s1f)), (s0, .inr (7, fs_s0)), (s0k, .inl (g 1, 8, .inl f_s0k)), (s0p, .inl (g 1, 7, .inl f_s0p)), (s0s, .inl (g 1, 7, .inl f_s0s)), (s0h, .inl (g 1, 7, .inl f_s0h)), (s0f, .inl (g 1, 7, .inl f_s0f))] H := hP
  have hD : va_D A [(s1, .inr (7, fs_s1)), (s1k, .inl (g 1, 8, .inl (va_cpy f_s0k f_s1k 0 0 8))), (s1p, .inl (g 1, 7, .inl (va_cpy f_s0p f_s1p 0 0 7))), (s1s, .inl (g 1, 7, .inl (va_cpy f_s0s f_s1s 0 0 7))), (s1h, .inl (g 1, 7, .inl f_s1h)), (s1f, .inl (g 1, 7, .inl f_s1f)), (s0, .inr (7, fs_s0)), (s0k, .inl (g 1, 8, .inl f_s0k)), (s0p, .inl (g 1, 7, .inl f_s0p)), (s0s, .inl (g 1, 7, .inl f_s0s)), (s0h, .inl (g 1, 7, .inl f_s0h)), (s0f, .inl (g 1, 7, .inl f_s0f))] := hD
  refine lv_aload_n hx hb dX7_copyOf_45 rfl (lv_at hl 1 rfl) ?_
  refine va_get (D := D) (ci := 7) (v := .ref s0h) (C := RX7) (T := TX7) (N := 8) hx hb hts iX7_copyOf_X7 hown hK hP 6 rfl rfl 3 (by decide) (hts (.fieldLink RX7 21 "CatLeases$State" "hours" "[I") (List.mem_of_getElem? (i := 8) rfl)) (fun _ h9 => h9) h_s0_hours dX7_copyOf_46 ?_
  refine lv_iconst (v := 0) hx hb dX7_copyOf_49 (by decide) ?_
  refine lv_aload_n hx hb dX7_copyOf_50 rfl (lv_at hl 0 rfl) ?_
  refine va_get (D := D) (ci := 7) (v := .ref s1h) (C := RX7) (T := TX7) (N := 8) hx hb hts iX7_copyOf_X7 hown hK hP 0 rfl rfl 3 (by decide) (hts (.fieldLink RX7 21 "CatLeases$State" "hours" "[I") (List.mem_of_getElem? (i := 8) rfl)) (fun _ h9 => h9) h_s1_hours dX7_copyOf_51 ?_
  refine lv_iconst (v := 0) hx hb dX7_copyOf_54 (by decide) ?_
  refine lv_bipush (v := 7) hx hb dX7_copyOf_55 (by decide) ?_
  refine va_copyi hx hb (hml.trans hl.1.symm) hown (hts (.methodLink RX7 43 arraycopyName) (List.mem_of_getElem? (i := 2) rfl)) (hts (.native arraycopyName) (List.mem_of_getElem? (i := 3) rfl)) (hts (.static arraycopyName) (List.mem_of_getElem? (i := 4) rfl)) (hts (.initialized "java/lang/System") (List.mem_of_getElem? (i := 5) rfl)) hK hP hD hS 10 4 1 1 rfl rfl rfl rfl rfl (by decide) (by decide) (by decide) (by decide) (by decide) (fun i _ => rfl) (Nat.le_of_ble_eq_true rfl) (Nat.le_of_ble_eq_true rfl) dX7_copyOf_57 (fun H locs hP hD hS => ?_)
  have hP : va_P D vwCl [(s1, .inr (7, fs_s1)), (s1k, .inl (g 1, 8, .inl (va_cpy f_s0k f_s1k 0 0 8))), (s1p, .inl (g 1, 7, .inl (va_cpy f_s0p f_s1p 0 0 7))), (s1s, .inl (g 1, 7, .inl (va_cpy f_s0s f_s1s 0 0 7))), (s1h, .inl (g 1, 7, .inl (va_cpy f_s0h f_s1h 0 0 7))), (s1f, .inl (g 1, 7, .inl f_s1f)), (s0, .inr (7, fs_s0)), (s0k, .inl (g 1, 8, .inl f_s0k)), (s0p, .inl (g 1, 7, .inl f_s0p)), (s0s, .inl (g 1, 7, .inl f_s0s)), (s0h, .inl (g 1, 7, .inl f_s0h)), (s0f, .inl (g 1, 7, .inl f_s0f))] H := hP
  have hD : va_D A [(s1, .inr (7, fs_s1)), (s1k, .inl (g 1, 8, .inl (va_cpy f_s0k f_s1k 0 0 8))), (s1p, .inl (g 1, 7, .inl (va_cpy f_s0p f_s1p 0 0 7))), (s1s, .inl (g 1, 7, .inl (va_cpy f_s0s f_s1s 0 0 7))), (s1h, .inl (g 1, 7, .inl (va_cpy f_s0h f_s1h 0 0 7))), (s1f, .inl (g 1, 7, .inl f_s1f)), (s0, .inr (7, fs_s0)), (s0k, .inl (g 1, 8, .inl f_s0k)), (s0p, .inl (g 1, 7, .inl f_s0p)), (s0s, .inl (g 1, 7, .inl f_s0s)), (s0h, .inl (g 1, 7, .inl f_s0h)), (s0f, .inl (g 1, 7, .inl f_s0f))] := hD
  refine lv_aload_n hx hb dX7_copyOf_60 rfl (lv_at hl 1 rfl) ?_
  refine va_get (D := D) (ci := 7) (v := .ref s0f) (C := RX7) (T := TX7) (N := 8) hx hb hts iX7_copyOf_X7 hown hK hP 6 rfl rfl 4 (by decide) (hts (.fieldLink RX7 24 "CatLeases$State" "fidgets" "[I") (List.mem_of_getElem? (i := 9) rfl)) (fun _ h9 => h9) h_s0_fidgets dX7_copyOf_61 ?_
  refine lv_iconst (v := 0) hx hb dX7_copyOf_64 (by decide) ?_
  refine lv_aload_n hx hb dX7_copyOf_65 rfl (lv_at hl 0 rfl) ?_
  refine va_get (D := D) (ci := 7) (v := .ref s1f) (C := RX7) (T := TX7) (N := 8) hx hb hts iX7_copyOf_X7 hown hK hP 0 rfl rfl 4 (by decide) (hts (.fieldLink RX7 24 "CatLeases$State" "fidgets" "[I") (List.mem_of_getElem? (i := 9) rfl)) (fun _ h9 => h9) h_s1_fidgets dX7_copyOf_66 ?_
  refine lv_iconst (v := 0) hx hb dX7_copyOf_69 (by decide) ?_
  refine lv_bipush (v := 7) hx hb dX7_copyOf_70 (by decide) ?_
  refine va_copyi hx hb (hml.trans hl.1.symm) hown (hts (.methodLink RX7 43 arraycopyName) (List.mem_of_getElem? (i := 2) rfl)) (hts (.native arraycopyName) (List.mem_of_getElem? (i := 3) rfl)) (hts (.static arraycopyName) (List.mem_of_getElem? (i := 4) rfl)) (hts (.initialized "java/lang/System") (List.mem_of_getElem? (i := 5) rfl)) hK hP hD hS 11 5 1 1 rfl rfl rfl rfl rfl (by decide) (by decide) (by decide) (by decide) (by decide) (fun i _ => rfl) (Nat.le_of_ble_eq_true rfl) (Nat.le_of_ble_eq_true rfl) dX7_copyOf_72 (fun H locs hP hD hS => ?_)
  have hP : va_P D vwCl [(s1, .inr (7, fs_s1)), (s1k, .inl (g 1, 8, .inl (va_cpy f_s0k f_s1k 0 0 8))), (s1p, .inl (g 1, 7, .inl (va_cpy f_s0p f_s1p 0 0 7))), (s1s, .inl (g 1, 7, .inl (va_cpy f_s0s f_s1s 0 0 7))), (s1h, .inl (g 1, 7, .inl (va_cpy f_s0h f_s1h 0 0 7))), (s1f, .inl (g 1, 7, .inl (va_cpy f_s0f f_s1f 0 0 7))), (s0, .inr (7, fs_s0)), (s0k, .inl (g 1, 8, .inl f_s0k)), (s0p, .inl (g 1, 7, .inl f_s0p)), (s0s, .inl (g 1, 7, .inl f_s0s)), (s0h, .inl (g 1, 7, .inl f_s0h)), (s0f, .inl (g 1, 7, .inl f_s0f))] H := hP
  have hD : va_D A [(s1, .inr (7, fs_s1)), (s1k, .inl (g 1, 8, .inl (va_cpy f_s0k f_s1k 0 0 8))), (s1p, .inl (g 1, 7, .inl (va_cpy f_s0p f_s1p 0 0 7))), (s1s, .inl (g 1, 7, .inl (va_cpy f_s0s f_s1s 0 0 7))), (s1h, .inl (g 1, 7, .inl (va_cpy f_s0h f_s1h 0 0 7))), (s1f, .inl (g 1, 7, .inl (va_cpy f_s0f f_s1f 0 0 7))), (s0, .inr (7, fs_s0)), (s0k, .inl (g 1, 8, .inl f_s0k)), (s0p, .inl (g 1, 7, .inl f_s0p)), (s0s, .inl (g 1, 7, .inl f_s0s)), (s0h, .inl (g 1, 7, .inl f_s0h)), (s0f, .inl (g 1, 7, .inl f_s0f))] := hD
  refine lv_aload_n hx hb dX7_copyOf_75 rfl (lv_at hl 0 rfl) ?_
  refine lv_aload_n hx hb dX7_copyOf_76 rfl (lv_at hl 1 rfl) ?_
  refine va_get (D := D) (ci := 7) (v := .int 0) (C := RX7) (T := TX7) (N := 8) hx hb hts iX7_copyOf_X7 hown hK hP 6 rfl rfl 5 (by decide) (hts (.fieldLink RX7 27 "CatLeases$State" "living" "I") (List.mem_of_getElem? (i := 10) rfl)) (fun _ h9 => h9) h_s0_living dX7_copyOf_77 ?_
  refine va_put (D := D) (ci := 7) (v := .int 0) (ty := .int) (C := RX7) (T := TX7) (N := 8) hx hb hts iX7_copyOf_X7 tyX7 tyX7_ok nmX7 hown hK hP hD hS 0 rfl rfl 5 (by decide) (hts (.fieldLink RX7 27 "CatLeases$State" "living" "I") (List.mem_of_getElem? (i := 10) rfl)) (fun _ h9 => h9) rfl (by decide +kernel) rfl rfl ((k_len h_s1_living)) dX7_copyOf_80 (fun H locs hP hD hS => ?_)
  have hP : va_P D vwCl [(s1, .inr (7, (fs_s1.set 5 (.int 0)))), (s1k, .inl (g 1, 8, .inl (va_cpy f_s0k f_s1k 0 0 8))), (s1p, .inl (g 1, 7, .inl (va_cpy f_s0p f_s1p 0 0 7))), (s1s, .inl (g 1, 7, .inl (va_cpy f_s0s f_s1s 0 0 7))), (s1h, .inl (g 1, 7, .inl (va_cpy f_s0h f_s1h 0 0 7))), (s1f, .inl (g 1, 7, .inl (va_cpy f_s0f f_s1f 0 0 7))), (s0, .inr (7, fs_s0)), (s0k, .inl (g 1, 8, .inl f_s0k)), (s0p, .inl (g 1, 7, .inl f_s0p)), (s0s, .inl (g 1, 7, .inl f_s0s)), (s0h, .inl (g 1, 7, .inl f_s0h)), (s0f, .inl (g 1, 7, .inl f_s0f))] H := hP
  have hD : va_D A [(s1, .inr (7, (fs_s1.set 5 (.int 0)))), (s1k, .inl (g 1, 8, .inl (va_cpy f_s0k f_s1k 0 0 8))), (s1p, .inl (g 1, 7, .inl (va_cpy f_s0p f_s1p 0 0 7))), (s1s, .inl (g 1, 7, .inl (va_cpy f_s0s f_s1s 0 0 7))), (s1h, .inl (g 1, 7, .inl (va_cpy f_s0h f_s1h 0 0 7))), (s1f, .inl (g 1, 7, .inl (va_cpy f_s0f f_s1f 0 0 7))), (s0, .inr (7, fs_s0)), (s0k, .inl (g 1, 8, .inl f_s0k)), (s0p, .inl (g 1, 7, .inl f_s0p)), (s0s, .inl (g 1, 7, .inl f_s0s)), (s0h, .inl (g 1, 7, .inl f_s0h)), (s0f, .inl (g 1, 7, .inl f_s0f))] := hD
  refine lv_aload_n hx hb dX7_copyOf_83 rfl (lv_at hl 0 rfl) ?_
  refine lv_aload_n hx hb dX7_copyOf_84 rfl (lv_at hl 1 rfl) ?_
  refine va_get (D := D) (ci := 7) (v := .int 0) (C := RX7) (T := TX7) (N := 8) hx hb hts iX7_copyOf_X7 hown hK hP 6 rfl rfl 6 (by decide) (hts (.fieldLink RX7 31 "CatLeases$State" "quarters" "I") (List.mem_of_getElem? (i := 11) rfl)) (fun _ h9 => h9) h_s0_quarters dX7_copyOf_85 ?_
  refine va_put (D := D) (ci := 7) (v := .int 0) (ty := .int) (C := RX7) (T := TX7) (N := 8) hx hb hts iX7_copyOf_X7 tyX7 tyX7_ok nmX7 hown hK hP hD hS 0 rfl rfl 6 (by decide) (hts (.fieldLink RX7 31 "CatLeases$State" "quarters" "I") (List.mem_of_getElem? (i := 11) rfl)) (fun _ h9 => h9) rfl (by decide +kernel) rfl rfl ((k_len (k_sn (by decide) h_s1_quarters))) dX7_copyOf_88 (fun H locs hP hD hS => ?_)
  have hP : va_P D vwCl [(s1, .inr (7, ((fs_s1.set 5 (.int 0)).set 6 (.int 0)))), (s1k, .inl (g 1, 8, .inl (va_cpy f_s0k f_s1k 0 0 8))), (s1p, .inl (g 1, 7, .inl (va_cpy f_s0p f_s1p 0 0 7))), (s1s, .inl (g 1, 7, .inl (va_cpy f_s0s f_s1s 0 0 7))), (s1h, .inl (g 1, 7, .inl (va_cpy f_s0h f_s1h 0 0 7))), (s1f, .inl (g 1, 7, .inl (va_cpy f_s0f f_s1f 0 0 7))), (s0, .inr (7, fs_s0)), (s0k, .inl (g 1, 8, .inl f_s0k)), (s0p, .inl (g 1, 7, .inl f_s0p)), (s0s, .inl (g 1, 7, .inl f_s0s)), (s0h, .inl (g 1, 7, .inl f_s0h)), (s0f, .inl (g 1, 7, .inl f_s0f))] H := hP
  have hD : va_D A [(s1, .inr (7, ((fs_s1.set 5 (.int 0)).set 6 (.int 0)))), (s1k, .inl (g 1, 8, .inl (va_cpy f_s0k f_s1k 0 0 8))), (s1p, .inl (g 1, 7, .inl (va_cpy f_s0p f_s1p 0 0 7))), (s1s, .inl (g 1, 7, .inl (va_cpy f_s0s f_s1s 0 0 7))), (s1h, .inl (g 1, 7, .inl (va_cpy f_s0h f_s1h 0 0 7))), (s1f, .inl (g 1, 7, .inl (va_cpy f_s0f f_s1f 0 0 7))), (s0, .inr (7, fs_s0)), (s0k, .inl (g 1, 8, .inl f_s0k)), (s0p, .inl (g 1, 7, .inl f_s0p)), (s0s, .inl (g 1, 7, .inl f_s0s)), (s0h, .inl (g 1, 7, .inl f_s0h)), (s0f, .inl (g 1, 7, .inl f_s0f))] := hD
  refine lv_aload_n hx hb dX7_copyOf_91 rfl (lv_at hl 0 rfl) ?_
  refine lv_aload_n hx hb dX7_copyOf_92 rfl (lv_at hl 1 rfl) ?_
  refine va_get (D := D) (ci := 7) (v := .int 0) (C := RX7) (T := TX7) (N := 8) hx hb hts iX7_copyOf_X7 hown hK hP 6 rfl rfl 7 (by decide) (hts (.fieldLink RX7 34 "CatLeases$State" "seed" "I") (List.mem_of_getElem? (i := 12) rfl)) (fun _ h9 => h9) h_s0_seed dX7_copyOf_93 ?_
  refine va_put (D := D) (ci := 7) (v := .int 0) (ty := .int) (C := RX7) (T := TX7) (N := 8) hx hb hts iX7_copyOf_X7 tyX7 tyX7_ok nmX7 hown hK hP hD hS 0 rfl rfl 7 (by decide) (hts (.fieldLink RX7 34 "CatLeases$State" "seed" "I") (List.mem_of_getElem? (i := 12) rfl)) (fun _ h9 => h9) rfl (by decide +kernel) rfl rfl ((k_len (k_sn (by decide) (k_sn (by decide) h_s1_seed)))) dX7_copyOf_96 (fun H locs hP hD hS => ?_)
  have hP : va_P D vwCl [(s1, .inr (7, (((fs_s1.set 5 (.int 0)).set 6 (.int 0)).set 7 (.int 0)))), (s1k, .inl (g 1, 8, .inl (va_cpy f_s0k f_s1k 0 0 8))), (s1p, .inl (g 1, 7, .inl (va_cpy f_s0p f_s1p 0 0 7))), (s1s, .inl (g 1, 7, .inl (va_cpy f_s0s f_s1s 0 0 7))), (s1h, .inl (g 1, 7, .inl (va_cpy f_s0h f_s1h 0 0 7))), (s1f, .inl (g 1, 7, .inl (va_cpy f_s0f f_s1f 0 0 7))), (s0, .inr (7, fs_s0)), (s0k, .inl (g 1, 8, .inl f_s0k)), (s0p, .inl (g 1, 7, .inl f_s0p)), (s0s, .inl (g 1, 7, .inl f_s0s)), (s0h, .inl (g 1, 7, .inl f_s0h)), (s0f, .inl (g 1, 7, .inl f_s0f))] H := hP
  have hD : va_D A [(s1, .inr (7, (((fs_s1.set 5 (.int 0)).set 6 (.int 0)).set 7 (.int 0)))), (s1k, .inl (g 1, 8, .inl (va_cpy f_s0k f_s1k 0 0 8))), (s1p, .inl (g 1, 7, .inl (va_cpy f_s0p f_s1p 0 0 7))), (s1s, .inl (g 1, 7, .inl (va_cpy f_s0s f_s1s 0 0 7))), (s1h, .inl (g 1, 7, .inl (va_cpy f_s0h f_s1h 0 0 7))), (s1f, .inl (g 1, 7, .inl (va_cpy f_s0f f_s1f 0 0 7))), (s0, .inr (7, fs_s0)), (s0k, .inl (g 1, 8, .inl f_s0k)), (s0p, .inl (g 1, 7, .inl f_s0p)), (s0s, .inl (g 1, 7, .inl f_s0s)), (s0h, .inl (g 1, 7, .inl f_s0h)), (s0f, .inl (g 1, 7, .inl f_s0f))] := hD
  exact k_vret hx hb hr hlocks hK hP hD hS rfl dX7_copyOf_99
set_option maxHeartbeats 4000000 in
set_option maxRecDepth 100000 in
theorem c_begin (l : Launch) (D : va_G) (g : Nat → ClassId) (sz : Nat) (ac : Nat) (sa : Nat) (s0 : Nat) (s0k : Nat) (s0p : Nat) (s0s : Nat) (s0h : Nat) (s0f : Nat) (s1 : Nat) (s1k : Nat) (s1p : Nat) (s1s : Nat) (s1h : Nat) (s1f : Nat) (fs_ac : List Value) (v_ac_redoable : Value) (f_sa : Nat → Option Nat) (fs_s0 : List Value) (f_s0k : Nat → Int32) (f_s0p : Nat → Int32) (f_s0s : Nat → Int32) (f_s0h : Nat → Int32) (f_s0f : Nat → Int32) (fs_s1 : List Value) (v_s1_living : Value) (v_s1_quarters : Value) (v_s1_seed : Value) (f_s1k : Nat → Int32) (f_s1p : Nat → Int32) (f_s1s : Nat → Int32) (f_s1h : Nat → Int32) (f_s1f : Nat → Int32) (h_ac_undoable : fs_ac[0]? = some (.int 0)) (h_ac_redoable : fs_ac[1]? = some (v_ac_redoable)) (h_ac_states : fs_ac[2]? = some (.ref sa)) (h_ac_index : fs_ac[3]? = some (.int 0)) (h_s0_keepers : fs_s0[0]? = some (.ref s0k)) (h_s0_places : fs_s0[1]? = some (.ref s0p)) (h_s0_stays : fs_s0[2]? = some (.ref s0s)) (h_s0_hours : fs_s0[3]? = some (.ref s0h)) (h_s0_fidgets : fs_s0[4]? = some (.ref s0f)) (h_s0_living : fs_s0[5]? = some (.int 0)) (h_s0_quarters : fs_s0[6]? = some (.int 0)) (h_s0_seed : fs_s0[7]? = some (.int 0)) (h_s1_keepers : fs_s1[0]? = some (.ref s1k)) (h_s1_places : fs_s1[1]? = some (.ref s1p)) (h_s1_stays : fs_s1[2]? = some (.ref s1s)) (h_s1_hours : fs_s1[3]? = some (.ref s1h)) (h_s1_fidgets : fs_s1[4]? = some (.ref s1f)) (h_s1_living : fs_s1[5]? = some (v_s1_living)) (h_s1_quarters : fs_s1[6]? = some (v_s1_quarters)) (h_s1_seed : fs_s1[7]? = some (v_s1_seed)) (h_sa_at0 : f_sa 0 = some s0) (h_sa_at1 : f_sa 1 = some s1) : Met l yX0_begin wsX0_begin ({ frames := 2, cells := 0, slots := 0, locals := 61 }) (va_Pc [.ref ac] (kPre D g [(ac, .inr (0, fs_ac)), (sa, .inl (g 4, 41, .inr (.inr (.inr (.inr f_sa))))), (s0, .inr (7, fs_s0)), (s0k, .inl (g 1, 8, .inl f_s0k)), (s0p, .inl (g 1, 7, .inl f_s0p)), (s0s, .inl (g 1, 7, .inl f_s0s)), (s0h, .inl (g 1, 7, .inl f_s0h)), (s0f, .inl (g 1, 7, .inl f_s0f)), (s1, .inr (7, fs_s1)), (s1k, .inl (g 1, 8, .inl f_s1k)), (s1p, .inl (g 1, 7, .inl f_s1p)), (s1s, .inl (g 1, 7, .inl f_s1s)), (s1h, .inl (g 1, 7, .inl f_s1h)), (s1f, .inl (g 1, 7, .inl f_s1f))] sz)) (kQr D g (fun (r : Nat) (u : va_W) => s1 = r ∧ u = [(ac, .inr (0, (((fs_ac.set 3 (.int 1)).set 0 (.int 1)).set 1 (.int 0)))), (sa, .inl (g 4, 41, .inr (.inr (.inr (.inr f_sa))))), (s0, .inr (7, fs_s0)), (s0k, .inl (g 1, 8, .inl f_s0k)), (s0p, .inl (g 1, 7, .inl f_s0p)), (s0s, .inl (g 1, 7, .inl f_s0s)), (s0h, .inl (g 1, 7, .inl f_s0h)), (s0f, .inl (g 1, 7, .inl f_s0f)), (s1, .inr (7, (((fs_s1.set 5 (.int 0)).set 6 (.int 0)).set 7 (.int 0)))), (s1k, .inl (g 1, 8, .inl (va_cpy f_s0k f_s1k 0 0 8))), (s1p, .inl (g 1, 7, .inl (va_cpy f_s0p f_s1p 0 0 7))), (s1s, .inl (g 1, 7, .inl (va_cpy f_s0s f_s1s 0 0 7))), (s1h, .inl (g 1, 7, .inl (va_cpy f_s0h f_s1h 0 0 7))), (s1f, .inl (g 1, 7, .inl (va_cpy f_s0f f_s1f 0 0 7)))]) (va_A [(ac, .inr (0, fs_ac)), (sa, .inl (g 4, 41, .inr (.inr (.inr (.inr f_sa))))), (s0, .inr (7, fs_s0)), (s0k, .inl (g 1, 8, .inl f_s0k)), (s0p, .inl (g 1, 7, .inl f_s0p)), (s0s, .inl (g 1, 7, .inl f_s0s)), (s0h, .inl (g 1, 7, .inl f_s0h)), (s0f, .inl (g 1, 7, .inl f_s0f)), (s1, .inr (7, fs_s1)), (s1k, .inl (g 1, 8, .inl f_s1k)), (s1p, .inl (g 1, 7, .inl f_s1p)), (s1s, .inl (g 1, 7, .inl f_s1s)), (s1h, .inl (g 1, 7, .inl f_s1h)), (s1f, .inl (g 1, 7, .inl f_s1f))] sz)) 0 0 (va_A [(ac, .inr (0, fs_ac)), (sa, .inl (g 4, 41, .inr (.inr (.inr (.inr f_sa))))), (s0, .inr (7, fs_s0)), (s0k, .inl (g 1, 8, .inl f_s0k)), (s0p, .inl (g 1, 7, .inl f_s0p)), (s0s, .inl (g 1, 7, .inl f_s0s)), (s0h, .inl (g 1, 7, .inl f_s0h)), (s0f, .inl (g 1, 7, .inl f_s0f)), (s1, .inr (7, fs_s1)), (s1k, .inl (g 1, 8, .inl f_s1k)), (s1p, .inl (g 1, 7, .inl f_s1p)), (s1s, .inl (g 1, 7, .inl f_s1s)), (s1h, .inl (g 1, 7, .inl f_s1h)), (s1f, .inl (g 1, 7, .inl f_s1f))] sz) := by
  refine k_head (cc := cX0_begin) (maxL := 2) (ret := (some (.object "CatLeases$State"))) (by decide) rfl (Nat.le_of_ble_eq_true rfl) ?_
  intro p e s m below meth c ls A hx hb hr hlocks hml hown hin hts hA hP hK hD hS hl
  have hown : s.vm.findClass RX0 = some m.cls := hown
  have hl : lv_has ls 2 [(0, .ref ac)] := hl
  refine lv_aload_n hx hb dX0_begin_0 rfl (lv_at hl 0 rfl) ?_
  refine va_get (D := D) (ci := 0) (v := .ref sa) (C := RX0) (T := TX0) (N := 4) hx hb hts iX0_begin_X0 hown hK hP 0 rfl rfl 2 (by decide) (hts (.fieldLink RX0 20 "CatLeases$Acts" "states" "[LCatLeases$State;") (List.mem_of_getElem? (i := 1) rfl)) (fun _ h9 => h9) h_ac_states dX0_begin_1 ?_
  refine lv_aload_n hx hb dX0_begin_4 rfl (lv_at hl 0 rfl) ?_
  refine va_get (D := D) (ci := 0) (v := .int 0) (C := RX0) (T := TX0) (N := 4) hx hb hts iX0_begin_X0 hown hK hP 0 rfl rfl 3 (by decide) (hts (.fieldLink RX0 24 "CatLeases$Acts" "index" "I") (List.mem_of_getElem? (i := 2) rfl)) (fun _ h9 => h9) h_ac_index dX0_begin_5 ?_
  refine va_aldq hx hb hK hP 1 4 rfl rfl (k_in (i := 0) (n := 41) (by decide)) dX0_begin_8 ?_
  refine k_topq (v := s0) h_sa_at0 ?_
  refine lv_astore_n (lv' := [(1, .ref s0), (0, .ref ac)]) hx hb dX0_begin_9 rfl hl (by decide) rfl (fun ls hl => ?_)
  refine lv_aload_n hx hb dX0_begin_10 rfl (lv_at hl 1 rfl) ?_
  refine lv_aload_n hx hb dX0_begin_11 rfl (lv_at hl 1 rfl) ?_
  refine va_get (D := D) (ci := 0) (v := .int 0) (C := RX0) (T := TX0) (N := 4) hx hb hts iX0_begin_X0 hown hK hP 0 rfl rfl 3 (by decide) (hts (.fieldLink RX0 24 "CatLeases$Acts" "index" "I") (List.mem_of_getElem? (i := 2) rfl)) (fun _ h9 => h9) h_ac_index dX0_begin_12 ?_
  refine lv_iconst (v := 1) hx hb dX0_begin_15 (by decide) ?_
  refine lv_iadd hx hb dX0_begin_16 ?_
  refine k_top (v := 1) (by decide) ?_
  refine lv_bipush (v := 41) hx hb dX0_begin_17 (by decide) ?_
  refine lv_irem hx hb dX0_begin_19 (by decide) ?_
  refine k_top (v := 1) (by decide) ?_
  refine va_put (D := D) (ci := 0) (v := .int 1) (ty := .int) (C := RX0) (T := TX0) (N := 4) hx hb hts iX0_begin_X0 tyX0 tyX0_ok nmX0 hown hK hP hD hS 0 rfl rfl 3 (by decide) (hts (.fieldLink RX0 24 "CatLeases$Acts" "index" "I") (List.mem_of_getElem? (i := 2) rfl)) (fun _ h9 => h9) rfl (by decide +kernel) rfl rfl ((k_len h_ac_index)) dX0_begin_20 (fun H locs hP hD hS => ?_)
  have hP : va_P D vwCl [(ac, .inr (0, (fs_ac.set 3 (.int 1)))), (sa, .inl (g 4, 41, .inr (.inr (.inr (.inr f_sa))))), (s0, .inr (7, fs_s0)), (s0k, .inl (g 1, 8, .inl f_s0k)), (s0p, .inl (g 1, 7, .inl f_s0p)), (s0s, .inl (g 1, 7, .inl f_s0s)), (s0h, .inl (g 1, 7, .inl f_s0h)), (s0f, .inl (g 1, 7, .inl f_s0f)), (s1, .inr (7, fs_s1)), (s1k, .inl (g 1, 8, .inl f_s1k)), (s1p, .inl (g 1, 7, .inl f_s1p)), (s1s, .inl (g 1, 7, .inl f_s1s)), (s1h, .inl (g 1, 7, .inl f_s1h)), (s1f, .inl (g 1, 7, .inl f_s1f))] H := hP
  have hD : va_D A [(ac, .inr (0, (fs_ac.set 3 (.int 1)))), (sa, .inl (g 4, 41, .inr (.inr (.inr (.inr f_sa))))), (s0, .inr (7, fs_s0)), (s0k, .inl (g 1, 8, .inl f_s0k)), (s0p, .inl (g 1, 7, .inl f_s0p)), (s0s, .inl (g 1, 7, .inl f_s0s)), (s0h, .inl (g 1, 7, .inl f_s0h)), (s0f, .inl (g 1, 7, .inl f_s0f)), (s1, .inr (7, fs_s1)), (s1k, .inl (g 1, 8, .inl f_s1k)), (s1p, .inl (g 1, 7, .inl f_s1p)), (s1s, .inl (g 1, 7, .inl f_s1s)), (s1h, .inl (g 1, 7, .inl f_s1h)), (s1f, .inl (g 1, 7, .inl f_s1f))] := hD
  refine lv_aload_n hx hb dX0_begin_23 rfl (lv_at hl 1 rfl) ?_
  refine va_get (D := D) (ci := 0) (v := .ref sa) (C := RX0) (T := TX0) (N := 4) hx hb hts iX0_begin_X0 hown hK hP 0 rfl rfl 2 (by decide) (hts (.fieldLink RX0 20 "CatLeases$Acts" "states" "[LCatLeases$State;") (List.mem_of_getElem? (i := 1) rfl)) (fun _ h9 => h9) (k_sn (by decide) h_ac_states) dX0_begin_24 ?_
  refine lv_aload_n hx hb dX0_begin_27 rfl (lv_at hl 1 rfl) ?_
  refine va_get (D := D) (ci := 0) (v := .int 1) (C := RX0) (T := TX0) (N := 4) hx hb hts iX0_begin_X0 hown hK hP 0 rfl rfl 3 (by decide) (hts (.fieldLink RX0 24 "CatLeases$Acts" "index" "I") (List.mem_of_getElem? (i := 2) rfl)) (fun _ h9 => h9) (k_ss h_ac_index) dX0_begin_28 ?_
  refine va_aldq hx hb hK hP 1 4 rfl rfl (k_in (i := 1) (n := 41) (by decide)) dX0_begin_31 ?_
  refine k_topq (v := s1) h_sa_at1 ?_
  refine lv_aload_n hx hb dX0_begin_32 rfl (lv_at hl 0 rfl) ?_
  refine k_gov (wr := [(ac, .inr (0, (fs_ac.set 3 (.int 1)))), (sa, .inl (g 4, 41, .inr (.inr (.inr (.inr f_sa)))))]) hP hD hS hA [8, 9, 10, 11, 12, 13, 2, 3, 4, 5, 6, 7] [0, 1] rfl rfl (by decide) (by decide) (va_runV (As := [.ref s0]) (rest := []) ⟨hx, hb, hml, hown, hts⟩ (c_copyOf l D g _ s1 s0 s1k s1p s1s s1h s1f s0k s0p s0s s0h s0f fs_s1 (v_s1_living) (v_s1_quarters) (v_s1_seed) f_s1k f_s1p f_s1s f_s1h f_s1f fs_s0 f_s0k f_s0p f_s0s f_s0h f_s0f h_s1_keepers h_s1_places h_s1_stays h_s1_hours h_s1_fidgets h_s1_living h_s1_quarters h_s1_seed h_s0_keepers h_s0_places h_s0_stays h_s0_hours h_s0_fidgets h_s0_living h_s0_quarters h_s0_seed) (cwV 1 hts gX0_begin_X7_copyOf rfl rfl rfl (by decide +kernel) ⟨Nat.le_of_ble_eq_true rfl, Nat.le_of_ble_eq_true rfl⟩) (k_preV hK (hP.sub [8, 9, 10, 11, 12, 13, 2, 3, 4, 5, 6, 7] rfl) (hD.sub [8, 9, 10, 11, 12, 13, 2, 3, 4, 5, 6, 7] (by decide) rfl) 7 0 rfl rfl) rfl rfl hl.1 rfl (lv_room (Nat.le_of_ble_eq_true rfl)) dX0_begin_33 ⟨(Nat.le_of_ble_eq_true rfl), (Nat.le_of_ble_eq_true rfl)⟩) (fun u_2 H locs hw hP hD hS => ?_)
  rcases hw with rfl
  have hP := hP.sub (ws' := [(ac, .inr (0, (fs_ac.set 3 (.int 1)))), (sa, .inl (g 4, 41, .inr (.inr (.inr (.inr f_sa))))), (s0, .inr (7, fs_s0)), (s0k, .inl (g 1, 8, .inl f_s0k)), (s0p, .inl (g 1, 7, .inl f_s0p)), (s0s, .inl (g 1, 7, .inl f_s0s)), (s0h, .inl (g 1, 7, .inl f_s0h)), (s0f, .inl (g 1, 7, .inl f_s0f)), (s1, .inr (7, (((fs_s1.set 5 (.int 0)).set 6 (.int 0)).set 7 (.int 0)))), (s1k, .inl (g 1, 8, .inl (va_cpy f_s0k f_s1k 0 0 8))), (s1p, .inl (g 1, 7, .inl (va_cpy f_s0p f_s1p 0 0 7))), (s1s, .inl (g 1, 7, .inl (va_cpy f_s0s f_s1s 0 0 7))), (s1h, .inl (g 1, 7, .inl (va_cpy f_s0h f_s1h 0 0 7))), (s1f, .inl (g 1, 7, .inl (va_cpy f_s0f f_s1f 0 0 7)))]) [0, 1, 8, 9, 10, 11, 12, 13, 2, 3, 4, 5, 6, 7] rfl
  have hD := hD.sub (ws' := [(ac, .inr (0, (fs_ac.set 3 (.int 1)))), (sa, .inl (g 4, 41, .inr (.inr (.inr (.inr f_sa))))), (s0, .inr (7, fs_s0)), (s0k, .inl (g 1, 8, .inl f_s0k)), (s0p, .inl (g 1, 7, .inl f_s0p)), (s0s, .inl (g 1, 7, .inl f_s0s)), (s0h, .inl (g 1, 7, .inl f_s0h)), (s0f, .inl (g 1, 7, .inl f_s0f)), (s1, .inr (7, (((fs_s1.set 5 (.int 0)).set 6 (.int 0)).set 7 (.int 0)))), (s1k, .inl (g 1, 8, .inl (va_cpy f_s0k f_s1k 0 0 8))), (s1p, .inl (g 1, 7, .inl (va_cpy f_s0p f_s1p 0 0 7))), (s1s, .inl (g 1, 7, .inl (va_cpy f_s0s f_s1s 0 0 7))), (s1h, .inl (g 1, 7, .inl (va_cpy f_s0h f_s1h 0 0 7))), (s1f, .inl (g 1, 7, .inl (va_cpy f_s0f f_s1f 0 0 7)))]) [0, 1, 8, 9, 10, 11, 12, 13, 2, 3, 4, 5, 6, 7] (by decide) rfl
  refine lv_aload_n hx hb dX0_begin_36 rfl (lv_at hl 1 rfl) ?_
  refine lv_bipush (v := 40) hx hb dX0_begin_37 (by decide) ?_
  refine lv_aload_n hx hb dX0_begin_39 rfl (lv_at hl 1 rfl) ?_
  refine va_get (D := D) (ci := 0) (v := .int 0) (C := RX0) (T := TX0) (N := 4) hx hb hts iX0_begin_X0 hown hK hP 0 rfl rfl 0 (by decide) (hts (.fieldLink RX0 9 "CatLeases$Acts" "undoable" "I") (List.mem_of_getElem? (i := 3) rfl)) (fun _ h9 => h9) (k_sn (by decide) h_ac_undoable) dX0_begin_40 ?_
  refine lv_iconst (v := 1) hx hb dX0_begin_43 (by decide) ?_
  refine lv_iadd hx hb dX0_begin_44 ?_
  refine k_top (v := 1) (by decide) ?_
  refine va_mmin hx hb (hml.trans hl.1.symm) hown (hts (.methodLink RX0 32 Lib.Math.min.name) (List.mem_of_getElem? (i := 4) rfl)) (hts (.static Lib.Math.min.name) (List.mem_of_getElem? (i := 5) rfl)) (hts (.initialized "java/lang/Math") (List.mem_of_getElem? (i := 6) rfl)) (hts (.code Lib.Math.min.name Lib.Math.min.code 2 (some .int)) (List.mem_of_getElem? (i := 7) rfl)) (Nat.le_of_ble_eq_true rfl) (Nat.le_of_ble_eq_true rfl) (Nat.le_of_ble_eq_true rfl) (Nat.le_of_ble_eq_true rfl) dX0_begin_45 ?_
  refine k_top (v := 1) (by decide) ?_
  refine va_put (D := D) (ci := 0) (v := .int 1) (ty := .int) (C := RX0) (T := TX0) (N := 4) hx hb hts iX0_begin_X0 tyX0 tyX0_ok nmX0 hown hK hP hD hS 0 rfl rfl 0 (by decide) (hts (.fieldLink RX0 9 "CatLeases$Acts" "undoable" "I") (List.mem_of_getElem? (i := 3) rfl)) (fun _ h9 => h9) rfl (by decide +kernel) rfl rfl ((k_len (k_sn (by decide) h_ac_undoable))) dX0_begin_48 (fun H locs hP hD hS => ?_)
  have hP : va_P D vwCl [(ac, .inr (0, ((fs_ac.set 3 (.int 1)).set 0 (.int 1)))), (sa, .inl (g 4, 41, .inr (.inr (.inr (.inr f_sa))))), (s0, .inr (7, fs_s0)), (s0k, .inl (g 1, 8, .inl f_s0k)), (s0p, .inl (g 1, 7, .inl f_s0p)), (s0s, .inl (g 1, 7, .inl f_s0s)), (s0h, .inl (g 1, 7, .inl f_s0h)), (s0f, .inl (g 1, 7, .inl f_s0f)), (s1, .inr (7, (((fs_s1.set 5 (.int 0)).set 6 (.int 0)).set 7 (.int 0)))), (s1k, .inl (g 1, 8, .inl (va_cpy f_s0k f_s1k 0 0 8))), (s1p, .inl (g 1, 7, .inl (va_cpy f_s0p f_s1p 0 0 7))), (s1s, .inl (g 1, 7, .inl (va_cpy f_s0s f_s1s 0 0 7))), (s1h, .inl (g 1, 7, .inl (va_cpy f_s0h f_s1h 0 0 7))), (s1f, .inl (g 1, 7, .inl (va_cpy f_s0f f_s1f 0 0 7)))] H := hP
  have hD : va_D A [(ac, .inr (0, ((fs_ac.set 3 (.int 1)).set 0 (.int 1)))), (sa, .inl (g 4, 41, .inr (.inr (.inr (.inr f_sa))))), (s0, .inr (7, fs_s0)), (s0k, .inl (g 1, 8, .inl f_s0k)), (s0p, .inl (g 1, 7, .inl f_s0p)), (s0s, .inl (g 1, 7, .inl f_s0s)), (s0h, .inl (g 1, 7, .inl f_s0h)), (s0f, .inl (g 1, 7, .inl f_s0f)), (s1, .inr (7, (((fs_s1.set 5 (.int 0)).set 6 (.int 0)).set 7 (.int 0)))), (s1k, .inl (g 1, 8, .inl (va_cpy f_s0k f_s1k 0 0 8))), (s1p, .inl (g 1, 7, .inl (va_cpy f_s0p f_s1p 0 0 7))), (s1s, .inl (g 1, 7, .inl (va_cpy f_s0s f_s1s 0 0 7))), (s1h, .inl (g 1, 7, .inl (va_cpy f_s0h f_s1h 0 0 7))), (s1f, .inl (g 1, 7, .inl (va_cpy f_s0f f_s1f 0 0 7)))] := hD
  refine lv_aload_n hx hb dX0_begin_51 rfl (lv_at hl 1 rfl) ?_
  refine lv_iconst (v := 0) hx hb dX0_begin_52 (by decide) ?_
  refine va_put (D := D) (ci := 0) (v := .int 0) (ty := .int) (C := RX0) (T := TX0) (N := 4) hx hb hts iX0_begin_X0 tyX0 tyX0_ok nmX0 hown hK hP hD hS 0 rfl rfl 1 (by decide) (hts (.fieldLink RX0 15 "CatLeases$Acts" "redoable" "I") (List.mem_of_getElem? (i := 8) rfl)) (fun _ h9 => h9) rfl (by decide +kernel) rfl rfl ((k_len (k_sn (by decide) (k_sn (by decide) h_ac_redoable)))) dX0_begin_53 (fun H locs hP hD hS => ?_)
  have hP : va_P D vwCl [(ac, .inr (0, (((fs_ac.set 3 (.int 1)).set 0 (.int 1)).set 1 (.int 0)))), (sa, .inl (g 4, 41, .inr (.inr (.inr (.inr f_sa))))), (s0, .inr (7, fs_s0)), (s0k, .inl (g 1, 8, .inl f_s0k)), (s0p, .inl (g 1, 7, .inl f_s0p)), (s0s, .inl (g 1, 7, .inl f_s0s)), (s0h, .inl (g 1, 7, .inl f_s0h)), (s0f, .inl (g 1, 7, .inl f_s0f)), (s1, .inr (7, (((fs_s1.set 5 (.int 0)).set 6 (.int 0)).set 7 (.int 0)))), (s1k, .inl (g 1, 8, .inl (va_cpy f_s0k f_s1k 0 0 8))), (s1p, .inl (g 1, 7, .inl (va_cpy f_s0p f_s1p 0 0 7))), (s1s, .inl (g 1, 7, .inl (va_cpy f_s0s f_s1s 0 0 7))), (s1h, .inl (g 1, 7, .inl (va_cpy f_s0h f_s1h 0 0 7))), (s1f, .inl (g 1, 7, .inl (va_cpy f_s0f f_s1f 0 0 7)))] H := hP
  have hD : va_D A [(ac, .inr (0, (((fs_ac.set 3 (.int 1)).set 0 (.int 1)).set 1 (.int 0)))), (sa, .inl (g 4, 41, .inr (.inr (.inr (.inr f_sa))))), (s0, .inr (7, fs_s0)), (s0k, .inl (g 1, 8, .inl f_s0k)), (s0p, .inl (g 1, 7, .inl f_s0p)), (s0s, .inl (g 1, 7, .inl f_s0s)), (s0h, .inl (g 1, 7, .inl f_s0h)), (s0f, .inl (g 1, 7, .inl f_s0f)), (s1, .inr (7, (((fs_s1.set 5 (.int 0)).set 6 (.int 0)).set 7 (.int 0)))), (s1k, .inl (g 1, 8, .inl (va_cpy f_s0k f_s1k 0 0 8))), (s1p, .inl (g 1, 7, .inl (va_cpy f_s0p f_s1p 0 0 7))), (s1s, .inl (g 1, 7, .inl (va_cpy f_s0s f_s1s 0 0 7))), (s1h, .inl (g 1, 7, .inl (va_cpy f_s0h f_s1h 0 0 7))), (s1f, .inl (g 1, 7, .inl (va_cpy f_s0f f_s1f 0 0 7)))] := hD
  refine lv_aload_n hx hb dX0_begin_56 rfl (lv_at hl 1 rfl) ?_
  refine va_get (D := D) (ci := 0) (v := .ref sa) (C := RX0) (T := TX0) (N := 4) hx hb hts iX0_begin_X0 hown hK hP 0 rfl rfl 2 (by decide) (hts (.fieldLink RX0 20 "CatLeases$Acts" "states" "[LCatLeases$State;") (List.mem_of_getElem? (i := 1) rfl)) (fun _ h9 => h9) (k_sn (by decide) (k_sn (by decide) (k_sn (by decide) h_ac_states))) dX0_begin_57 ?_
  refine lv_aload_n hx hb dX0_begin_60 rfl (lv_at hl 1 rfl) ?_
  refine va_get (D := D) (ci := 0) (v := .int 1) (C := RX0) (T := TX0) (N := 4) hx hb hts iX0_begin_X0 hown hK hP 0 rfl rfl 3 (by decide) (hts (.fieldLink RX0 24 "CatLeases$Acts" "index" "I") (List.mem_of_getElem? (i := 2) rfl)) (fun _ h9 => h9) (k_sn (by decide) (k_sn (by decide) (k_ss h_ac_index))) dX0_begin_61 ?_
  refine va_aldq hx hb hK hP 1 4 rfl rfl (k_in (i := 1) (n := 41) (by decide)) dX0_begin_64 ?_
  refine k_topq (v := s1) h_sa_at1 ?_
  exact k_aret hx hb hr (Or.inl ⟨_, rfl⟩) hlocks hK hP hD hS ⟨rfl, rfl⟩ dX0_begin_65
set_option maxHeartbeats 4000000 in
set_option maxRecDepth 100000 in
theorem c_draw (l : Launch) (D : va_G) (g : Nat → ClassId) (sz : Nat) (mw : Nat) (s1 : Nat) (fs_mw : List Value) (h_mw_cats : fs_mw[0]? = some (.int 0)) : Met l yX4_draw wsX4_draw ({ frames := 0, cells := 0, slots := 0, locals := 0 }) (va_Pc [.ref mw, .ref s1] (kPre D g [(mw, .inr (4, fs_mw))] sz)) (kQi D g (fun (r : Int32) (u : va_W) => 0 = r ∧ u = [(mw, .inr (4, fs_mw))]) (va_A [(mw, .inr (4, fs_mw))] sz)) 0 0 (va_A [(mw, .inr (4, fs_mw))] sz) := by
  refine k_head (cc := cX4_draw) (maxL := 4) (ret := (some .int)) (by decide) rfl (Nat.le_of_ble_eq_true rfl) ?_
  intro p e s m below meth c ls A hx hb hr hlocks hml hown hin hts hA hP hK hD hS hl
  have hown : s.vm.findClass RX4 = some m.cls := hown
  have hl : lv_has ls 4 [(0, .ref mw), (1, .ref s1)] := hl
  refine lv_iconst (v := 0) hx hb dX4_draw_0 (by decide) ?_
  refine lv_istore_n (lv' := [(2, .int 0), (0, .ref mw), (1, .ref s1)]) hx hb dX4_draw_1 rfl hl (by decide) rfl (fun ls hl => ?_)
  refine lv_iconst (v := 0) hx hb dX4_draw_2 (by decide) ?_
  refine lv_istore_n (lv' := [(3, .int 0), (2, .int 0), (0, .ref mw), (1, .ref s1)]) hx hb dX4_draw_3 rfl hl (by decide) rfl (fun ls hl => ?_)
  refine lv_iload_n hx hb dX4_draw_4 rfl (lv_at hl 0 rfl) ?_
  refine lv_aload_n hx hb dX4_draw_5 rfl (lv_at hl 2 rfl) ?_
  refine va_get (D := D) (ci := 4) (v := .int 0) (C := RX4) (T := TX4) (N := 11) hx hb hts iX4_draw_X4 hown hK hP 0 rfl rfl 0 (by decide) (hts (.fieldLink RX4 9 "CatLeases$Mews" "cats" "I") (List.mem_of_getElem? (i := 1) rfl)) (fun _ h9 => h9) h_mw_cats dX4_draw_6 ?_
  refine lv_icmp_ge (tgt := 65) hx hb dX4_draw_9 (by decide) (fun _ => ?_) (fun c9 => absurd (by first | decide | rfl) c9)
  refine lv_iload_n hx hb dX4_draw_65 rfl (lv_at hl 1 rfl) ?_
  exact k_iret hx hb hr hlocks hK hP hD hS ⟨rfl, rfl⟩ dX4_draw_66
set_option maxHeartbeats 4000000 in
set_option maxRecDepth 100000 in
theorem c_die (l : Launch) (D : va_G) (g : Nat → ClassId) (sz : Nat) (mw : Nat) (s1 : Nat) (fs_mw : List Value) (fs_s1 : List Value) (h_mw_rooms : fs_mw[1]? = some (.int 0)) (h_s1_living : fs_s1[5]? = some (.int 0)) : Met l yX4_die wsX4_die ({ frames := 0, cells := 0, slots := 0, locals := 0 }) (va_Pc [.ref mw, .ref s1, .int 0] (kPre D g [(mw, .inr (4, fs_mw)), (s1, .inr (7, fs_s1))] sz)) (kQv D g (fun (u : va_W) => u = [(mw, .inr (4, fs_mw)), (s1, .inr (7, (fs_s1.set 5 (.int 0))))]) (va_A [(mw, .inr (4, fs_mw)), (s1, .inr (7, fs_s1))] sz)) 0 0 (va_A [(mw, .inr (4, fs_mw)), (s1, .inr (7, fs_s1))] sz) := by
  refine k_head (cc := cX4_die) (maxL := 4) (ret := none) (by decide) rfl (Nat.le_of_ble_eq_true rfl) ?_
  intro p e s m below meth c ls A hx hb hr hlocks hml hown hin hts hA hP hK hD hS hl
  have hown : s.vm.findClass RX4 = some m.cls := hown
  have hl : lv_has ls 4 [(0, .ref mw), (1, .ref s1), (2, .int 0)] := hl
  refine lv_aload_n hx hb dX4_die_0 rfl (lv_at hl 1 rfl) ?_
  refine lv_dup hx hb dX4_die_1 rfl ?_
  refine va_get (D := D) (ci := 7) (v := .int 0) (C := RX7) (T := TX7) (N := 8) hx hb hts iX4_die_X7 hown hK hP 1 rfl rfl 5 (by decide) (hts (.fieldLink RX4 121 "CatLeases$State" "living" "I") (List.mem_of_getElem? (i := 1) rfl)) (fun _ h9 => h9) h_s1_living dX4_die_2 ?_
  refine lv_iload_n hx hb dX4_die_5 rfl (lv_at hl 2 rfl) ?_
  refine lv_iconst (v := (-1)) hx hb dX4_die_6 (by decide) ?_
  refine lv_ixor hx hb dX4_die_7 ?_
  refine k_top (v := (-1)) (by decide) ?_
  refine lv_iand hx hb dX4_die_8 ?_
  refine k_top (v := 0) (by decide) ?_
  refine va_put (D := D) (ci := 7) (v := .int 0) (ty := .int) (C := RX7) (T := TX7) (N := 8) hx hb hts iX4_die_X7 tyX7 tyX7_ok nmX7 hown hK hP hD hS 1 rfl rfl 5 (by decide) (hts (.fieldLink RX4 121 "CatLeases$State" "living" "I") (List.mem_of_getElem? (i := 1) rfl)) (fun _ h9 => h9) rfl (by decide +kernel) rfl rfl ((k_len h_s1_living)) dX4_die_9 (fun H locs hP hD hS => ?_)
  have hP : va_P D vwCl [(mw, .inr (4, fs_mw)), (s1, .inr (7, (fs_s1.set 5 (.int 0))))] H := hP
  have hD : va_D A [(mw, .inr (4, fs_mw)), (s1, .inr (7, (fs_s1.set 5 (.int 0))))] := hD
  refine lv_iconst (v := 0) hx hb dX4_die_12 (by decide) ?_
  refine lv_istore_n (lv' := [(3, .int 0), (0, .ref mw), (1, .ref s1), (2, .int 0)]) hx hb dX4_die_13 rfl hl (by decide) rfl (fun ls hl => ?_)
  refine lv_iload_n hx hb dX4_die_14 rfl (lv_at hl 0 rfl) ?_
  refine lv_aload_n hx hb dX4_die_15 rfl (lv_at hl 1 rfl) ?_
  refine va_get (D := D) (ci := 4) (v := .int 0) (C := RX4) (T := TX4) (N := 11) hx hb hts iX4_die_X4 hown hK hP 0 rfl rfl 1 (by decide) (hts (.fieldLink RX4 15 "CatLeases$Mews" "rooms" "I") (List.mem_of_getElem? (i := 2) rfl)) (fun _ h9 => h9) h_mw_rooms dX4_die_16 ?_
  refine lv_icmp_ge (tgt := 48) hx hb dX4_die_19 (by decide) (fun _ => ?_) (fun c9 => absurd (by first | decide | rfl) c9)
  exact k_vret hx hb hr hlocks hK hP hD hS rfl dX4_die_48
set_option maxHeartbeats 4000000 in
set_option maxRecDepth 100000 in
theorem c_pass (l : Launch) (D : va_G) (g : Nat → ClassId) (sz : Nat) (mw : Nat) (s1 : Nat) (fs_mw : List Value) (fs_s1 : List Value) (h_mw_cats : fs_mw[0]? = some (.int 0)) (h_mw_rooms : fs_mw[1]? = some (.int 0)) (h_mw_tenants : fs_mw[2]? = some (.int 0)) (h_s1_living : fs_s1[5]? = some (.int 0)) (h_s1_quarters : fs_s1[6]? = some (.int 0)) : Met l yX4_pass wsX4_pass ({ frames := 1, cells := 0, slots := 0, locals := 24 }) (va_Pc [.ref mw, .ref s1] (kPre D g [(mw, .inr (4, fs_mw)), (s1, .inr (7, fs_s1))] sz)) (kQi D g (fun (r : Int32) (u : va_W) => 0 = r ∧ u = [(mw, .inr (4, fs_mw)), (s1, .inr (7, ((fs_s1.set 5 (.int 0)).set 6 (.int 1))))]) (va_A [(mw, .inr (4, fs_mw)), (s1, .inr (7, fs_s1))] sz)) 0 0 (va_A [(mw, .inr (4, fs_mw)), (s1, .inr (7, fs_s1))] sz) := by
  refine k_head (cc := cX4_pass) (maxL := 4) (ret := (some .int)) (by decide) rfl (Nat.le_of_ble_eq_true rfl) ?_
  intro p e s m below meth c ls A hx hb hr hlocks hml hown hin hts hA hP hK hD hS hl
  have hown : s.vm.findClass RX4 = some m.cls := hown
  have hl : lv_has ls 4 [(0, .ref mw), (1, .ref s1)] := hl
  refine lv_aload_n hx hb dX4_pass_0 rfl (lv_at hl 0 rfl) ?_
  refine lv_aload_n hx hb dX4_pass_1 rfl (lv_at hl 1 rfl) ?_
  refine k_goi (wr := [(s1, .inr (7, fs_s1))]) hP hD hS hA [0] [1] rfl rfl (by decide) (by decide) (va_runV (As := [.ref s1]) (rest := []) ⟨hx, hb, hml, hown, hts⟩ (c_thrownOut l D g _ mw s1 fs_mw h_mw_tenants) (cwV 1 hts gX4_pass_X4_thrownOut rfl rfl rfl (by decide +kernel) ⟨Nat.le_of_ble_eq_true rfl, Nat.le_of_ble_eq_true rfl⟩) (k_preV hK (hP.sub [0] rfl) (hD.sub [0] (by decide) rfl) 4 0 rfl rfl) rfl rfl hl.1 rfl (lv_room (Nat.le_of_ble_eq_true rfl)) dX4_pass_2 ⟨(Nat.le_of_ble_eq_true rfl), (Nat.le_of_ble_eq_true rfl)⟩) (fun r_1 u_2 H locs hw hP hD hS => ?_)
  rcases hw with ⟨rfl, rfl⟩
  have hP := hP.sub (ws' := [(mw, .inr (4, fs_mw)), (s1, .inr (7, fs_s1))]) [1, 0] rfl
  have hD := hD.sub (ws' := [(mw, .inr (4, fs_mw)), (s1, .inr (7, fs_s1))]) [1, 0] (by decide) rfl
  refine lv_istore_n (lv' := [(2, .int 0), (0, .ref mw), (1, .ref s1)]) hx hb dX4_pass_5 rfl hl (by decide) rfl (fun ls hl => ?_)
  refine lv_iconst (v := 0) hx hb dX4_pass_6 (by decide) ?_
  refine lv_istore_n (lv' := [(3, .int 0), (2, .int 0), (0, .ref mw), (1, .ref s1)]) hx hb dX4_pass_7 rfl hl (by decide) rfl (fun ls hl => ?_)
  refine lv_iload_n hx hb dX4_pass_8 rfl (lv_at hl 0 rfl) ?_
  refine lv_aload_n hx hb dX4_pass_9 rfl (lv_at hl 2 rfl) ?_
  refine va_get (D := D) (ci := 4) (v := .int 0) (C := RX4) (T := TX4) (N := 11) hx hb hts iX4_pass_X4 hown hK hP 0 rfl rfl 2 (by decide) (hts (.fieldLink RX4 18 "CatLeases$Mews" "tenants" "I") (List.mem_of_getElem? (i := 1) rfl)) (fun _ h9 => h9) h_mw_tenants dX4_pass_10 ?_
  refine lv_icmp_ge (tgt := 71) hx hb dX4_pass_13 (by decide) (fun _ => ?_) (fun c9 => absurd (by first | decide | rfl) c9)
  refine lv_aload_n hx hb dX4_pass_71 rfl (lv_at hl 2 rfl) ?_
  refine lv_aload_n hx hb dX4_pass_72 rfl (lv_at hl 3 rfl) ?_
  refine lv_aload_n hx hb dX4_pass_73 rfl (lv_at hl 2 rfl) ?_
  refine lv_aload_n hx hb dX4_pass_74 rfl (lv_at hl 3 rfl) ?_
  refine k_goi (wr := [(s1, .inr (7, fs_s1))]) hP hD hS hA [0] [1] rfl rfl (by decide) (by decide) (va_runV (As := [.ref s1]) (rest := [.ref s1, .ref mw]) ⟨hx, hb, hml, hown, hts⟩ (c_draw l D g _ mw s1 fs_mw h_mw_cats) (cwV 1 hts gX4_pass_X4_draw rfl rfl rfl (by decide +kernel) ⟨Nat.le_of_ble_eq_true rfl, Nat.le_of_ble_eq_true rfl⟩) (k_preV hK (hP.sub [0] rfl) (hD.sub [0] (by decide) rfl) 4 0 rfl rfl) rfl rfl hl.1 rfl (lv_room (Nat.le_of_ble_eq_true rfl)) dX4_pass_75 ⟨(Nat.le_of_ble_eq_true rfl), (Nat.le_of_ble_eq_true rfl)⟩) (fun r_3 u_4 H locs hw hP hD hS => ?_)
  rcases hw with ⟨rfl, rfl⟩
  have hP := hP.sub (ws' := [(mw, .inr (4, fs_mw)), (s1, .inr (7, fs_s1))]) [1, 0] rfl
  have hD := hD.sub (ws' := [(mw, .inr (4, fs_mw)), (s1, .inr (7, fs_s1))]) [1, 0] (by decide) rfl
  refine k_gov (wr := []) hP hD hS hA [0, 1] [] rfl rfl (by decide) (by decide) (va_runV (As := [.ref s1, .int 0]) (rest := []) ⟨hx, hb, hml, hown, hts⟩ (c_die l D g _ mw s1 fs_mw fs_s1 h_mw_rooms h_s1_living) (cwV 2 hts gX4_pass_X4_die rfl rfl rfl (by decide +kernel) ⟨Nat.le_of_ble_eq_true rfl, Nat.le_of_ble_eq_true rfl⟩) (k_preV hK (hP.sub [0, 1] rfl) (hD.sub [0, 1] (by decide) rfl) 4 0 rfl rfl) rfl rfl hl.1 rfl (lv_room (Nat.le_of_ble_eq_true rfl)) dX4_pass_78 ⟨(Nat.le_of_ble_eq_true rfl), (Nat.le_of_ble_eq_true rfl)⟩) (fun u_6 H locs hw hP hD hS => ?_)
  rcases hw with rfl
  have hP := hP.sub (ws' := [(mw, .inr (4, fs_mw)), (s1, .inr (7, (fs_s1.set 5 (.int 0))))]) [0, 1] rfl
  have hD := hD.sub (ws' := [(mw, .inr (4, fs_mw)), (s1, .inr (7, (fs_s1.set 5 (.int 0))))]) [0, 1] (by decide) rfl
  refine lv_aload_n hx hb dX4_pass_81 rfl (lv_at hl 3 rfl) ?_
  refine lv_dup hx hb dX4_pass_82 rfl ?_
  refine va_get (D := D) (ci := 7) (v := .int 0) (C := RX7) (T := TX7) (N := 8) hx hb hts iX4_pass_X7 hown hK hP 1 rfl rfl 6 (by decide) (hts (.fieldLink RX4 81 "CatLeases$State" "quarters" "I") (List.mem_of_getElem? (i := 4) rfl)) (fun _ h9 => h9) (k_sn (by decide) h_s1_quarters) dX4_pass_83 ?_
  refine lv_iconst (v := 1) hx hb dX4_pass_86 (by decide) ?_
  refine lv_iadd hx hb dX4_pass_87 ?_
  refine k_top (v := 1) (by decide) ?_
  refine va_put (D := D) (ci := 7) (v := .int 1) (ty := .int) (C := RX7) (T := TX7) (N := 8) hx hb hts iX4_pass_X7 tyX7 tyX7_ok nmX7 hown hK hP hD hS 1 rfl rfl 6 (by decide) (hts (.fieldLink RX4 81 "CatLeases$State" "quarters" "I") (List.mem_of_getElem? (i := 4) rfl)) (fun _ h9 => h9) rfl (by decide +kernel) rfl rfl ((k_len (k_sn (by decide) h_s1_quarters))) dX4_pass_88 (fun H locs hP hD hS => ?_)
  have hP : va_P D vwCl [(mw, .inr (4, fs_mw)), (s1, .inr (7, ((fs_s1.set 5 (.int 0)).set 6 (.int 1))))] H := hP
  have hD : va_D A [(mw, .inr (4, fs_mw)), (s1, .inr (7, ((fs_s1.set 5 (.int 0)).set 6 (.int 1))))] := hD
  refine lv_iload_n hx hb dX4_pass_91 rfl (lv_at hl 1 rfl) ?_
  exact k_iret hx hb hr hlocks hK hP hD hS ⟨rfl, rfl⟩ dX4_pass_92
set_option maxHeartbeats 4000000 in
set_option maxRecDepth 100000 in
theorem c_quarter (l : Launch) (D : va_G) (g : Nat → ClassId) (sz : Nat) (x : Nat) (mw : Nat) (ac : Nat) (sa : Nat) (s0 : Nat) (s0k : Nat) (s0p : Nat) (s0s : Nat) (s0h : Nat) (s0f : Nat) (s1 : Nat) (s1k : Nat) (s1p : Nat) (s1s : Nat) (s1h : Nat) (s1f : Nat) (fs_x : List Value) (fs_mw : List Value) (fs_ac : List Value) (v_ac_redoable : Value) (f_sa : Nat → Option Nat) (fs_s0 : List Value) (f_s0k : Nat → Int32) (f_s0p : Nat → Int32) (f_s0s : Nat → Int32) (f_s0h : Nat → Int32) (f_s0f : Nat → Int32) (fs_s1 : List Value) (v_s1_living : Value) (v_s1_quarters : Value) (v_s1_seed : Value) (f_s1k : Nat → Int32) (f_s1p : Nat → Int32) (f_s1s : Nat → Int32) (f_s1h : Nat → Int32) (f_s1f : Nat → Int32) (h_x_mews : fs_x[3]? = some (.ref mw)) (h_x_acts : fs_x[4]? = some (.ref ac)) (h_mw_cats : fs_mw[0]? = some (.int 0)) (h_mw_rooms : fs_mw[1]? = some (.int 0)) (h_mw_tenants : fs_mw[2]? = some (.int 0)) (h_ac_undoable : fs_ac[0]? = some (.int 0)) (h_ac_redoable : fs_ac[1]? = some (v_ac_redoable)) (h_ac_states : fs_ac[2]? = some (.ref sa)) (h_ac_index : fs_ac[3]? = some (.int 0)) (h_s0_keepers : fs_s0[0]? = some (.ref s0k)) (h_s0_places : fs_s0[1]? = some (.ref s0p)) (h_s0_stays : fs_s0[2]? = some (.ref s0s)) (h_s0_hours : fs_s0[3]? = some (.ref s0h)) (h_s0_fidgets : fs_s0[4]? = some (.ref s0f)) (h_s0_living : fs_s0[5]? = some (.int 0)) (h_s0_quarters : fs_s0[6]? = some (.int 0)) (h_s0_seed : fs_s0[7]? = some (.int 0)) (h_s1_keepers : fs_s1[0]? = some (.ref s1k)) (h_s1_places : fs_s1[1]? = some (.ref s1p)) (h_s1_stays : fs_s1[2]? = some (.ref s1s)) (h_s1_hours : fs_s1[3]? = some (.ref s1h)) (h_s1_fidgets : fs_s1[4]? = some (.ref s1f)) (h_s1_living : fs_s1[5]? = some (v_s1_living)) (h_s1_quarters : fs_s1[6]? = some (v_s1_quarters)) (h_s1_seed : fs_s1[7]? = some (v_s1_seed)) (h_sa_at0 : f_sa 0 = some s0) (h_sa_at1 : f_sa 1 = some s1) : Met l yX8_quarter wsX8_quarter ({ frames := 3, cells := 0, slots := 0, locals := 82 }) (va_Pc [.ref x] (kPre D g [(x, .inr (8, fs_x)), (mw, .inr (4, fs_mw)), (ac, .inr (0, fs_ac)), (sa, .inl (g 4, 41, .inr (.inr (.inr (.inr f_sa))))), (s0, .inr (7, fs_s0)), (s0k, .inl (g 1, 8, .inl f_s0k)), (s0p, .inl (g 1, 7, .inl f_s0p)), (s0s, .inl (g 1, 7, .inl f_s0s)), (s0h, .inl (g 1, 7, .inl f_s0h)), (s0f, .inl (g 1, 7, .inl f_s0f)), (s1, .inr (7, fs_s1)), (s1k, .inl (g 1, 8, .inl f_s1k)), (s1p, .inl (g 1, 7, .inl f_s1p)), (s1s, .inl (g 1, 7, .inl f_s1s)), (s1h, .inl (g 1, 7, .inl f_s1h)), (s1f, .inl (g 1, 7, .inl f_s1f))] sz)) (kQi D g (fun (r : Int32) (u : va_W) => 0 = r) (va_A [(x, .inr (8, fs_x)), (mw, .inr (4, fs_mw)), (ac, .inr (0, fs_ac)), (sa, .inl (g 4, 41, .inr (.inr (.inr (.inr f_sa))))), (s0, .inr (7, fs_s0)), (s0k, .inl (g 1, 8, .inl f_s0k)), (s0p, .inl (g 1, 7, .inl f_s0p)), (s0s, .inl (g 1, 7, .inl f_s0s)), (s0h, .inl (g 1, 7, .inl f_s0h)), (s0f, .inl (g 1, 7, .inl f_s0f)), (s1, .inr (7, fs_s1)), (s1k, .inl (g 1, 8, .inl f_s1k)), (s1p, .inl (g 1, 7, .inl f_s1p)), (s1s, .inl (g 1, 7, .inl f_s1s)), (s1h, .inl (g 1, 7, .inl f_s1h)), (s1f, .inl (g 1, 7, .inl f_s1f))] sz)) 0 0 (va_A [(x, .inr (8, fs_x)), (mw, .inr (4, fs_mw)), (ac, .inr (0, fs_ac)), (sa, .inl (g 4, 41, .inr (.inr (.inr (.inr f_sa))))), (s0, .inr (7, fs_s0)), (s0k, .inl (g 1, 8, .inl f_s0k)), (s0p, .inl (g 1, 7, .inl f_s0p)), (s0s, .inl (g 1, 7, .inl f_s0s)), (s0h, .inl (g 1, 7, .inl f_s0h)), (s0f, .inl (g 1, 7, .inl f_s0f)), (s1, .inr (7, fs_s1)), (s1k, .inl (g 1, 8, .inl f_s1k)), (s1p, .inl (g 1, 7, .inl f_s1p)), (s1s, .inl (g 1, 7, .inl f_s1s)), (s1h, .inl (g 1, 7, .inl f_s1h)), (s1f, .inl (g 1, 7, .inl f_s1f))] sz) := by
  refine k_head (cc := cX8_quarter) (maxL := 1) (ret := (some .int)) (by decide) rfl (Nat.le_of_ble_eq_true rfl) ?_
  intro p e s m below meth c ls A hx hb hr hlocks hml hown hin hts hA hP hK hD hS hl
  have hown : s.vm.findClass RX8 = some m.cls := hown
  have hl : lv_has ls 1 [(0, .ref x)] := hl
  refine lv_aload_n hx hb dX8_quarter_0 rfl (lv_at hl 0 rfl) ?_
  refine va_get (D := D) (ci := 8) (v := .ref ac) (C := RX8) (T := TX8) (N := 14) hx hb hts iX8_quarter_X8 hown hK hP 0 rfl rfl 4 (by decide) (hts (.fieldLink RX8 34 "CatLeases" "acts" "LCatLeases$Acts;") (List.mem_of_getElem? (i := 1) rfl)) (fun _ h9 => h9) h_x_acts dX8_quarter_1 ?_
  refine k_gor (wr := [(x, .inr (8, fs_x)), (mw, .inr (4, fs_mw)), (s0, .inr (7, fs_s0)), (s0k, .inl (g 1, 8, .inl f_s0k)), (s0p, .inl (g 1, 7, .inl f_s0p)), (s0s, .inl (g 1, 7, .inl f_s0s)), (s0h, .inl (g 1, 7, .inl f_s0h)), (s0f, .inl (g 1, 7, .inl f_s0f)), (s1, .inr (7, fs_s1)), (s1k, .inl (g 1, 8, .inl f_s1k)), (s1p, .inl (g 1, 7, .inl f_s1p)), (s1s, .inl (g 1, 7, .inl f_s1s)), (s1h, .inl (g 1, 7, .inl f_s1h)), (s1f, .inl (g 1, 7, .inl f_s1f))]) hP hD hS hA [2, 3] [0, 1, 4, 5, 6, 7, 8, 9, 10, 11, 12, 13, 14, 15] rfl rfl (by decide) (by decide) (va_runV (As := []) (rest := []) ⟨hx, hb, hml, hown, hts⟩ (c_current l D g _ ac sa s0 fs_ac f_sa h_ac_states h_ac_index h_sa_at0) (cwV 0 hts gX8_quarter_X0_current rfl rfl rfl (by decide +kernel) ⟨Nat.le_of_ble_eq_true rfl, Nat.le_of_ble_eq_true rfl⟩) (k_preV hK (hP.sub [2, 3] rfl) (hD.sub [2, 3] (by decide) rfl) 0 0 rfl rfl) rfl rfl hl.1 rfl (lv_room (Nat.le_of_ble_eq_true rfl)) dX8_quarter_4 ⟨(Nat.le_of_ble_eq_true rfl), (Nat.le_of_ble_eq_true rfl)⟩) (fun r_1 u_2 H locs hw hP hD hS => ?_)
  rcases hw with ⟨rfl, rfl⟩
  have hP := hP.sub (ws' := [(x, .inr (8, fs_x)), (mw, .inr (4, fs_mw)), (ac, .inr (0, fs_ac)), (sa, .inl (g 4, 41, .inr (.inr (.inr (.inr f_sa))))), (s0, .inr (7, fs_s0)), (s0k, .inl (g 1, 8, .inl f_s0k)), (s0p, .inl (g 1, 7, .inl f_s0p)), (s0s, .inl (g 1, 7, .inl f_s0s)), (s0h, .inl (g 1, 7, .inl f_s0h)), (s0f, .inl (g 1, 7, .inl f_s0f)), (s1, .inr (7, fs_s1)), (s1k, .inl (g 1, 8, .inl f_s1k)), (s1p, .inl (g 1, 7, .inl f_s1p)), (s1s, .inl (g 1, 7, .inl f_s1s)), (s1h, .inl (g 1, 7, .inl f_s1h)), (s1f, .inl (g 1, 7, .inl f_s1f))]) [0, 1, 14, 15, 2, 3, 4, 5, 6, 7, 8, 9, 10, 11, 12, 13] rfl
  have hD := hD.sub (ws' := [(x, .inr (8, fs_x)), (mw, .inr (4, fs_mw)), (ac, .inr (0, fs_ac)), (sa, .inl (g 4, 41, .inr (.inr (.inr (.inr f_sa))))), (s0, .inr (7, fs_s0)), (s0k, .inl (g 1, 8, .inl f_s0k)), (s0p, .inl (g 1, 7, .inl f_s0p)), (s0s, .inl (g 1, 7, .inl f_s0s)), (s0h, .inl (g 1, 7, .inl f_s0h)), (s0f, .inl (g 1, 7, .inl f_s0f)), (s1, .inr (7, fs_s1)), (s1k, .inl (g 1, 8, .inl f_s1k)), (s1p, .inl (g 1, 7, .inl f_s1p)), (s1s, .inl (g 1, 7, .inl f_s1s)), (s1h, .inl (g 1, 7, .inl f_s1h)), (s1f, .inl (g 1, 7, .inl f_s1f))]) [0, 1, 14, 15, 2, 3, 4, 5, 6, 7, 8, 9, 10, 11, 12, 13] (by decide) rfl
  refine va_get (D := D) (ci := 7) (v := .int 0) (C := RX7) (T := TX7) (N := 8) hx hb hts iX8_quarter_X7 hown hK hP 4 rfl rfl 6 (by decide) (hts (.fieldLink RX8 176 "CatLeases$State" "quarters" "I") (List.mem_of_getElem? (i := 2) rfl)) (fun _ h9 => h9) h_s0_quarters dX8_quarter_7 ?_
  refine lv_sipush (v := 999) hx hb dX8_quarter_10 (by decide) ?_
  refine lv_icmp_lt (tgt := 18) hx hb dX8_quarter_13 (by decide) (fun _ => ?_) (fun c9 => absurd (by first | decide | rfl) c9)
  refine lv_aload_n hx hb dX8_quarter_18 rfl (lv_at hl 0 rfl) ?_
  refine va_get (D := D) (ci := 8) (v := .ref mw) (C := RX8) (T := TX8) (N := 14) hx hb hts iX8_quarter_X8 hown hK hP 0 rfl rfl 3 (by decide) (hts (.fieldLink RX8 27 "CatLeases" "mews" "LCatLeases$Mews;") (List.mem_of_getElem? (i := 3) rfl)) (fun _ h9 => h9) h_x_mews dX8_quarter_19 ?_
  refine lv_aload_n hx hb dX8_quarter_22 rfl (lv_at hl 0 rfl) ?_
  refine va_get (D := D) (ci := 8) (v := .ref ac) (C := RX8) (T := TX8) (N := 14) hx hb hts iX8_quarter_X8 hown hK hP 0 rfl rfl 4 (by decide) (hts (.fieldLink RX8 34 "CatLeases" "acts" "LCatLeases$Acts;") (List.mem_of_getElem? (i := 1) rfl)) (fun _ h9 => h9) h_x_acts dX8_quarter_23 ?_
  refine k_gor (wr := [(x, .inr (8, fs_x)), (mw, .inr (4, fs_mw))]) hP hD hS hA [2, 3, 4, 5, 6, 7, 8, 9, 10, 11, 12, 13, 14, 15] [0, 1] rfl rfl (by decide) (by decide) (va_runV (As := []) (rest := [.ref mw]) ⟨hx, hb, hml, hown, hts⟩ (c_begin l D g _ ac sa s0 s0k s0p s0s s0h s0f s1 s1k s1p s1s s1h s1f fs_ac (v_ac_redoable) f_sa fs_s0 f_s0k f_s0p f_s0s f_s0h f_s0f fs_s1 (v_s1_living) (v_s1_quarters) (v_s1_seed) f_s1k f_s1p f_s1s f_s1h f_s1f h_ac_undoable h_ac_redoable h_ac_states h_ac_index h_s0_keepers h_s0_places h_s0_stays h_s0_hours h_s0_fidgets h_s0_living h_s0_quarters h_s0_seed h_s1_keepers h_s1_places h_s1_stays h_s1_hours h_s1_fidgets h_s1_living h_s1_quarters h_s1_seed h_sa_at0 h_sa_at1) (cwV 0 hts gX8_quarter_X0_begin rfl rfl rfl (by decide +kernel) ⟨Nat.le_of_ble_eq_true rfl, Nat.le_of_ble_eq_true rfl⟩) (k_preV hK (hP.sub [2, 3, 4, 5, 6, 7, 8, 9, 10, 11, 12, 13, 14, 15] rfl) (hD.sub [2, 3, 4, 5, 6, 7, 8, 9, 10, 11, 12, 13, 14, 15] (by decide) rfl) 0 0 rfl rfl) rfl rfl hl.1 rfl (lv_room (Nat.le_of_ble_eq_true rfl)) dX8_quarter_26 ⟨(Nat.le_of_ble_eq_true rfl), (Nat.le_of_ble_eq_true rfl)⟩) (fun r_3 u_4 H locs hw hP hD hS => ?_)
  rcases hw with ⟨rfl, rfl⟩
  have hP := hP.sub (ws' := [(x, .inr (8, fs_x)), (mw, .inr (4, fs_mw)), (ac, .inr (0, (((fs_ac.set 3 (.int 1)).set 0 (.int 1)).set 1 (.int 0)))), (sa, .inl (g 4, 41, .inr (.inr (.inr (.inr f_sa))))), (s0, .inr (7, fs_s0)), (s0k, .inl (g 1, 8, .inl f_s0k)), (s0p, .inl (g 1, 7, .inl f_s0p)), (s0s, .inl (g 1, 7, .inl f_s0s)), (s0h, .inl (g 1, 7, .inl f_s0h)), (s0f, .inl (g 1, 7, .inl f_s0f)), (s1, .inr (7, (((fs_s1.set 5 (.int 0)).set 6 (.int 0)).set 7 (.int 0)))), (s1k, .inl (g 1, 8, .inl (va_cpy f_s0k f_s1k 0 0 8))), (s1p, .inl (g 1, 7, .inl (va_cpy f_s0p f_s1p 0 0 7))), (s1s, .inl (g 1, 7, .inl (va_cpy f_s0s f_s1s 0 0 7))), (s1h, .inl (g 1, 7, .inl (va_cpy f_s0h f_s1h 0 0 7))), (s1f, .inl (g 1, 7, .inl (va_cpy f_s0f f_s1f 0 0 7)))]) [0, 1, 2, 3, 4, 5, 6, 7, 8, 9, 10, 11, 12, 13, 14, 15] rfl
  have hD := hD.sub (ws' := [(x, .inr (8, fs_x)), (mw, .inr (4, fs_mw)), (ac, .inr (0, (((fs_ac.set 3 (.int 1)).set 0 (.int 1)).set 1 (.int 0)))), (sa, .inl (g 4, 41, .inr (.inr (.inr (.inr f_sa))))), (s0, .inr (7, fs_s0)), (s0k, .inl (g 1, 8, .inl f_s0k)), (s0p, .inl (g 1, 7, .inl f_s0p)), (s0s, .inl (g 1, 7, .inl f_s0s)), (s0h, .inl (g 1, 7, .inl f_s0h)), (s0f, .inl (g 1, 7, .inl f_s0f)), (s1, .inr (7, (((fs_s1.set 5 (.int 0)).set 6 (.int 0)).set 7 (.int 0)))), (s1k, .inl (g 1, 8, .inl (va_cpy f_s0k f_s1k 0 0 8))), (s1p, .inl (g 1, 7, .inl (va_cpy f_s0p f_s1p 0 0 7))), (s1s, .inl (g 1, 7, .inl (va_cpy f_s0s f_s1s 0 0 7))), (s1h, .inl (g 1, 7, .inl (va_cpy f_s0h f_s1h 0 0 7))), (s1f, .inl (g 1, 7, .inl (va_cpy f_s0f f_s1f 0 0 7)))]) [0, 1, 2, 3, 4, 5, 6, 7, 8, 9, 10, 11, 12, 13, 14, 15] (by decide) rfl
  refine k_goi (wr := [(x, .inr (8, fs_x)), (ac, .inr (0, (((fs_ac.set 3 (.int 1)).set 0 (.int 1)).set 1 (.int 0)))), (sa, .inl (g 4, 41, .inr (.inr (.inr (.inr f_sa))))), (s0, .inr (7, fs_s0)), (s0k, .inl (g 1, 8, .inl f_s0k)), (s0p, .inl (g 1, 7, .inl f_s0p)), (s0s, .inl (g 1, 7, .inl f_s0s)), (s0h, .inl (g 1, 7, .inl f_s0h)), (s0f, .inl (g 1, 7, .inl f_s0f)), (s1k, .inl (g 1, 8, .inl (va_cpy f_s0k f_s1k 0 0 8))), (s1p, .inl (g 1, 7, .inl (va_cpy f_s0p f_s1p 0 0 7))), (s1s, .inl (g 1, 7, .inl (va_cpy f_s0s f_s1s 0 0 7))), (s1h, .inl (g 1, 7, .inl (va_cpy f_s0h f_s1h 0 0 7))), (s1f, .inl (g 1, 7, .inl (va_cpy f_s0f f_s1f 0 0 7)))]) hP hD hS hA [1, 10] [0, 2, 3, 4, 5, 6, 7, 8, 9, 11, 12, 13, 14, 15] rfl rfl (by decide) (by decide) (va_runV (As := [.ref s1]) (rest := []) ⟨hx, hb, hml, hown, hts⟩ (c_pass l D g _ mw s1 fs_mw (((fs_s1.set 5 (.int 0)).set 6 (.int 0)).set 7 (.int 0)) h_mw_cats h_mw_rooms h_mw_tenants (k_sn (by decide) (k_sn (by decide) (k_ss h_s1_living))) (k_sn (by decide) (k_ss (k_sn (by decide) h_s1_quarters)))) (cwV 1 hts gX8_quarter_X4_pass rfl rfl rfl (by decide +kernel) ⟨Nat.le_of_ble_eq_true rfl, Nat.le_of_ble_eq_true rfl⟩) (k_preV hK (hP.sub [1, 10] rfl) (hD.sub [1, 10] (by decide) rfl) 4 0 rfl rfl) rfl rfl hl.1 rfl (lv_room (Nat.le_of_ble_eq_true rfl)) dX8_quarter_29 ⟨(Nat.le_of_ble_eq_true rfl), (Nat.le_of_ble_eq_true rfl)⟩) (fun r_5 u_6 H locs hw hP hD hS => ?_)
  rcases hw with ⟨rfl, rfl⟩
  have hP := hP.sub (ws' := [(x, .inr (8, fs_x)), (mw, .inr (4, fs_mw)), (ac, .inr (0, (((fs_ac.set 3 (.int 1)).set 0 (.int 1)).set 1 (.int 0)))), (sa, .inl (g 4, 41, .inr (.inr (.inr (.inr f_sa))))), (s0, .inr (7, fs_s0)), (s0k, .inl (g 1, 8, .inl f_s0k)), (s0p, .inl (g 1, 7, .inl f_s0p)), (s0s, .inl (g 1, 7, .inl f_s0s)), (s0h, .inl (g 1, 7, .inl f_s0h)), (s0f, .inl (g 1, 7, .inl f_s0f)), (s1, .inr (7, (((((fs_s1.set 5 (.int 0)).set 6 (.int 0)).set 7 (.int 0)).set 5 (.int 0)).set 6 (.int 1)))), (s1k, .inl (g 1, 8, .inl (va_cpy f_s0k f_s1k 0 0 8))), (s1p, .inl (g 1, 7, .inl (va_cpy f_s0p f_s1p 0 0 7))), (s1s, .inl (g 1, 7, .inl (va_cpy f_s0s f_s1s 0 0 7))), (s1h, .inl (g 1, 7, .inl (va_cpy f_s0h f_s1h 0 0 7))), (s1f, .inl (g 1, 7, .inl (va_cpy f_s0f f_s1f 0 0 7)))]) [0, 14, 1, 2, 3, 4, 5, 6, 7, 8, 15, 9, 10, 11, 12, 13] rfl
  have hD := hD.sub (ws' := [(x, .inr (8, fs_x)), (mw, .inr (4, fs_mw)), (ac, .inr (0, (((fs_ac.set 3 (.int 1)).set 0 (.int 1)).set 1 (.int 0)))), (sa, .inl (g 4, 41, .inr (.inr (.inr (.inr f_sa))))), (s0, .inr (7, fs_s0)), (s0k, .inl (g 1, 8, .inl f_s0k)), (s0p, .inl (g 1, 7, .inl f_s0p)), (s0s, .inl (g 1, 7, .inl f_s0s)), (s0h, .inl (g 1, 7, .inl f_s0h)), (s0f, .inl (g 1, 7, .inl f_s0f)), (s1, .inr (7, (((((fs_s1.set 5 (.int 0)).set 6 (.int 0)).set 7 (.int 0)).set 5 (.int 0)).set 6 (.int 1)))), (s1k, .inl (g 1, 8, .inl (va_cpy f_s0k f_s1k 0 0 8))), (s1p, .inl (g 1, 7, .inl (va_cpy f_s0p f_s1p 0 0 7))), (s1s, .inl (g 1, 7, .inl (va_cpy f_s0s f_s1s 0 0 7))), (s1h, .inl (g 1, 7, .inl (va_cpy f_s0h f_s1h 0 0 7))), (s1f, .inl (g 1, 7, .inl (va_cpy f_s0f f_s1f 0 0 7)))]) [0, 14, 1, 2, 3, 4, 5, 6, 7, 8, 15, 9, 10, 11, 12, 13] (by decide) rfl
  exact k_iret hx hb hr hlocks hK hP hD hS rfl dX8_quarter_32
set_option maxHeartbeats 4000000 in
set_option maxRecDepth 100000 in
theorem c_lweigh (l : Launch) (D : va_G) (g : Nat → ClassId) (sz : Nat) (le : Nat) (mw : Nat) (s0 : Nat) (fs_le : List Value) (h_le_tenants : fs_le[2]? = some (.int 0)) : Met l yX3_weigh wsX3_weigh ({ frames := 0, cells := 0, slots := 0, locals := 0 }) (va_Pc [.ref le, .ref mw, .ref s0] (kPre D g [(le, .inr (3, fs_le))] sz)) (kQv D g (fun (u : va_W) => u = [(le, .inr (3, fs_le))]) (va_A [(le, .inr (3, fs_le))] sz)) 0 0 (va_A [(le, .inr (3, fs_le))] sz) := by
  refine k_head (cc := cX3_weigh) (maxL := 6) (ret := none) (by decide) rfl (Nat.le_of_ble_eq_true rfl) ?_
  intro p e s m below meth c ls A hx hb hr hlocks hml hown hin hts hA hP hK hD hS hl
  have hown : s.vm.findClass RX3 = some m.cls := hown
  have hl : lv_has ls 6 [(0, .ref le), (1, .ref mw), (2, .ref s0)] := hl
  refine lv_iconst (v := 0) hx hb dX3_weigh_0 (by decide) ?_
  refine lv_istore_n (lv' := [(3, .int 0), (0, .ref le), (1, .ref mw), (2, .ref s0)]) hx hb dX3_weigh_1 rfl hl (by decide) rfl (fun ls hl => ?_)
  refine lv_iload_n hx hb dX3_weigh_2 rfl (lv_at hl 0 rfl) ?_
  refine lv_aload_n hx hb dX3_weigh_3 rfl (lv_at hl 1 rfl) ?_
  refine va_get (D := D) (ci := 3) (v := .int 0) (C := RX3) (T := TX3) (N := 4) hx hb hts iX3_weigh_X3 hown hK hP 0 rfl rfl 2 (by decide) (hts (.fieldLink RX3 18 "CatLeases$Letting" "tenants" "I") (List.mem_of_getElem? (i := 1) rfl)) (fun _ h9 => h9) h_le_tenants dX3_weigh_4 ?_
  refine lv_icmp_ge (tgt := 81) hx hb dX3_weigh_7 (by decide) (fun _ => ?_) (fun c9 => absurd (by first | decide | rfl) c9)
  exact k_vret hx hb hr hlocks hK hP hD hS rfl dX3_weigh_81
set_option maxHeartbeats 4000000 in
set_option maxRecDepth 100000 in
theorem c_solve (l : Launch) (D : va_G) (g : Nat → ClassId) (sz : Nat) (le : Nat) (mw : Nat) (s0 : Nat) (bs : Nat) (fs_mw : List Value) (fs_le : List Value) (v_le_worths : Value) (v_le_tenants : Value) (v_le_rooms : Value) (f_bs : Nat → Int32) (h_mw_rooms : fs_mw[1]? = some (.int 0)) (h_mw_tenants : fs_mw[2]? = some (.int 0)) (h_le_worths : fs_le[0]? = some (v_le_worths)) (h_le_best : fs_le[1]? = some (.ref bs)) (h_le_tenants : fs_le[2]? = some (v_le_tenants)) (h_le_rooms : fs_le[3]? = some (v_le_rooms)) : Met l yX3_solve wsX3_solve ({ frames := 1, cells := 0, slots := 0, locals := 25 }) (va_Pc [.ref le, .ref mw, .ref s0] (kPre D g [(mw, .inr (4, fs_mw)), (le, .inr (3, fs_le)), (bs, .inl (g 1, 2048, .inl f_bs))] sz)) (kQv D g (fun (u : va_W) => ∃ (fe_bs : Nat → Int32), (fe_bs 0 = 0) ∧ u = [(mw, .inr (4, fs_mw)), (le, .inr (3, ((fs_le.set 2 (.int 0)).set 3 (.int 0)))), (bs, .inl (g 1, 2048, .inl fe_bs))]) (va_A [(mw, .inr (4, fs_mw)), (le, .inr (3, fs_le)), (bs, .inl (g 1, 2048, .inl f_bs))] sz)) 0 0 (va_A [(mw, .inr (4, fs_mw)), (le, .inr (3, fs_le)), (bs, .inl (g 1, 2048, .inl f_bs))] sz) := by
  refine k_head (cc := cX3_solve) (maxL := 6) (ret := none) (by decide) rfl (Nat.le_of_ble_eq_true rfl) ?_
  intro p e s m below meth c ls A hx hb hr hlocks hml hown hin hts hA hP hK hD hS hl
  have hown : s.vm.findClass RX3 = some m.cls := hown
  have hl : lv_has ls 6 [(0, .ref le), (1, .ref mw), (2, .ref s0)] := hl
  refine lv_aload_n hx hb dX3_solve_0 rfl (lv_at hl 0 rfl) ?_
  refine lv_aload_n hx hb dX3_solve_1 rfl (lv_at hl 1 rfl) ?_
  refine va_get (D := D) (ci := 4) (v := .int 0) (C := RX4) (T := TX4) (N := 11) hx hb hts iX3_solve_X4 hown hK hP 0 rfl rfl 2 (by decide) (hts (.fieldLink RX3 25 "CatLeases$Mews" "tenants" "I") (List.mem_of_getElem? (i := 1) rfl)) (fun _ h9 => h9) h_mw_tenants dX3_solve_2 ?_
  refine va_put (D := D) (ci := 3) (v := .int 0) (ty := .int) (C := RX3) (T := TX3) (N := 4) hx hb hts iX3_solve_X3 tyX3 tyX3_ok nmX3 hown hK hP hD hS 1 rfl rfl 2 (by decide) (hts (.fieldLink RX3 18 "CatLeases$Letting" "tenants" "I") (List.mem_of_getElem? (i := 2) rfl)) (fun _ h9 => h9) rfl (by decide +kernel) rfl rfl ((k_len h_le_tenants)) dX3_solve_5 (fun H locs hP hD hS => ?_)
  have hP : va_P D vwCl [(mw, .inr (4, fs_mw)), (le, .inr (3, (fs_le.set 2 (.int 0)))), (bs, .inl (g 1, 2048, .inl f_bs))] H := hP
  have hD : va_D A [(mw, .inr (4, fs_mw)), (le, .inr (3, (fs_le.set 2 (.int 0)))), (bs, .inl (g 1, 2048, .inl f_bs))] := hD
  refine lv_aload_n hx hb dX3_solve_8 rfl (lv_at hl 0 rfl) ?_
  refine lv_aload_n hx hb dX3_solve_9 rfl (lv_at hl 1 rfl) ?_
  refine va_get (D := D) (ci := 4) (v := .int 0) (C := RX4) (T := TX4) (N := 11) hx hb hts iX3_solve_X4 hown hK hP 0 rfl rfl 1 (by decide) (hts (.fieldLink RX3 28 "CatLeases$Mews" "rooms" "I") (List.mem_of_getElem? (i := 3) rfl)) (fun _ h9 => h9) h_mw_rooms dX3_solve_10 ?_
  refine va_put (D := D) (ci := 3) (v := .int 0) (ty := .int) (C := RX3) (T := TX3) (N := 4) hx hb hts iX3_solve_X3 tyX3 tyX3_ok nmX3 hown hK hP hD hS 1 rfl rfl 3 (by decide) (hts (.fieldLink RX3 22 "CatLeases$Letting" "rooms" "I") (List.mem_of_getElem? (i := 4) rfl)) (fun _ h9 => h9) rfl (by decide +kernel) rfl rfl ((k_len (k_sn (by decide) h_le_rooms))) dX3_solve_13 (fun H locs hP hD hS => ?_)
  have hP : va_P D vwCl [(mw, .inr (4, fs_mw)), (le, .inr (3, ((fs_le.set 2 (.int 0)).set 3 (.int 0)))), (bs, .inl (g 1, 2048, .inl f_bs))] H := hP
  have hD : va_D A [(mw, .inr (4, fs_mw)), (le, .inr (3, ((fs_le.set 2 (.int 0)).set 3 (.int 0)))), (bs, .inl (g 1, 2048, .inl f_bs))] := hD
  refine lv_aload_n hx hb dX3_solve_16 rfl (lv_at hl 0 rfl) ?_
  refine lv_aload_n hx hb dX3_solve_17 rfl (lv_at hl 1 rfl) ?_
  refine lv_aload_n hx hb dX3_solve_18 rfl (lv_at hl 2 rfl) ?_
  refine k_gov (wr := [(mw, .inr (4, fs_mw)), (bs, .inl (g 1, 2048, .inl f_bs))]) hP hD hS hA [1] [0, 2] rfl rfl (by decide) (by decide) (va_runV (As := [.ref mw, .ref s0]) (rest := []) ⟨hx, hb, hml, hown, hts⟩ (c_lweigh l D g _ le mw s0 ((fs_le.set 2 (.int 0)).set 3 (.int 0)) (k_sn (by decide) (k_ss h_le_tenants))) (cwV 2 hts gX3_solve_X3_weigh rfl rfl rfl (by decide +kernel) ⟨Nat.le_of_ble_eq_true rfl, Nat.le_of_ble_eq_true rfl⟩) (k_preV hK (hP.sub [1] rfl) (hD.sub [1] (by decide) rfl) 3 0 rfl rfl) rfl rfl hl.1 rfl (lv_room (Nat.le_of_ble_eq_true rfl)) dX3_solve_19 ⟨(Nat.le_of_ble_eq_true rfl), (Nat.le_of_ble_eq_true rfl)⟩) (fun u_2 H locs hw hP hD hS => ?_)
  rcases hw with rfl
  have hP := hP.sub (ws' := [(mw, .inr (4, fs_mw)), (le, .inr (3, ((fs_le.set 2 (.int 0)).set 3 (.int 0)))), (bs, .inl (g 1, 2048, .inl f_bs))]) [0, 2, 1] rfl
  have hD := hD.sub (ws' := [(mw, .inr (4, fs_mw)), (le, .inr (3, ((fs_le.set 2 (.int 0)).set 3 (.int 0)))), (bs, .inl (g 1, 2048, .inl f_bs))]) [0, 2, 1] (by decide) rfl
  refine lv_iconst (v := 1) hx hb dX3_solve_22 (by decide) ?_
  refine lv_aload_n hx hb dX3_solve_23 rfl (lv_at hl 0 rfl) ?_
  refine va_get (D := D) (ci := 3) (v := .int 0) (C := RX3) (T := TX3) (N := 4) hx hb hts iX3_solve_X3 hown hK hP 1 rfl rfl 3 (by decide) (hts (.fieldLink RX3 22 "CatLeases$Letting" "rooms" "I") (List.mem_of_getElem? (i := 4) rfl)) (fun _ h9 => h9) (k_ss (k_sn (by decide) h_le_rooms)) dX3_solve_24 ?_
  refine lv_ishl hx hb dX3_solve_27 ?_
  refine k_top (v := 1) (by decide) ?_
  refine lv_istore_n (lv' := [(3, .int 1), (0, .ref le), (1, .ref mw), (2, .ref s0)]) hx hb dX3_solve_28 rfl hl (by decide) rfl (fun ls hl => ?_)
  refine lv_iconst (v := 0) hx hb dX3_solve_29 (by decide) ?_
  refine lv_istore (lv' := [(4, .int 0), (3, .int 1), (0, .ref le), (1, .ref mw), (2, .ref s0)]) hx hb dX3_solve_30 hl (by decide) rfl (fun ls hl => ?_)
  refine lv_iload hx hb dX3_solve_32 (lv_at hl 0 rfl) ?_
  refine lv_iload_n hx hb dX3_solve_34 rfl (lv_at hl 1 rfl) ?_
  refine lv_icmp_ge (tgt := 61) hx hb dX3_solve_35 (by decide) (fun c9 => absurd c9 (by first | decide | simp)) (fun _ => ?_)
  refine lv_aload_n hx hb dX3_solve_38 rfl (lv_at hl 2 rfl) ?_
  refine va_get (D := D) (ci := 3) (v := .ref bs) (C := RX3) (T := TX3) (N := 4) hx hb hts iX3_solve_X3 hown hK hP 1 rfl rfl 1 (by decide) (hts (.fieldLink RX3 15 "CatLeases$Letting" "best" "[I") (List.mem_of_getElem? (i := 5) rfl)) (fun _ h9 => h9) (k_sn (by decide) (k_sn (by decide) h_le_best)) dX3_solve_39 ?_
  refine lv_aload_n hx hb dX3_solve_42 rfl (lv_at hl 2 rfl) ?_
  refine va_get (D := D) (ci := 3) (v := .int 0) (C := RX3) (T := TX3) (N := 4) hx hb hts iX3_solve_X3 hown hK hP 1 rfl rfl 2 (by decide) (hts (.fieldLink RX3 18 "CatLeases$Letting" "tenants" "I") (List.mem_of_getElem? (i := 2) rfl)) (fun _ h9 => h9) (k_sn (by decide) (k_ss h_le_tenants)) dX3_solve_43 ?_
  refine lv_sipush (v := 256) hx hb dX3_solve_46 (by decide) ?_
  refine lv_imul hx hb dX3_solve_49 ?_
  refine k_top (v := 0) (by decide) ?_
  refine lv_iload hx hb dX3_solve_50 (lv_at hl 0 rfl) ?_
  refine lv_iadd hx hb dX3_solve_52 ?_
  refine k_top (v := 0) (by decide) ?_
  refine lv_iconst (v := 0) hx hb dX3_solve_53 (by decide) ?_
  refine va_iast hx hb hK hP hD hS 2 1 rfl rfl (k_in (i := 0) (n := 2048) (by decide)) dX3_solve_54 (fun H locs hP hD hS => ?_)
  have hP : va_P D vwCl [(mw, .inr (4, fs_mw)), (le, .inr (3, ((fs_le.set 2 (.int 0)).set 3 (.int 0)))), (bs, .inl (g 1, 2048, .inl (upd f_bs 0 0)))] H := hP
  have hD : va_D A [(mw, .inr (4, fs_mw)), (le, .inr (3, ((fs_le.set 2 (.int 0)).set 3 (.int 0)))), (bs, .inl (g 1, 2048, .inl (upd f_bs 0 0)))] := hD
  refine lv_iinc (v := 1) (lv' := [(4, .int 1), (3, .int 1), (0, .ref le), (1, .ref mw), (2, .ref s0)]) hx hb dX3_solve_55 hl (k := 0) rfl (by decide) (by decide) rfl (fun ls hl => ?_)
  refine lv_goto (tgt := 32) hx hb dX3_solve_58 (by decide) ?_
  refine lv_iload hx hb dX3_solve_32 (lv_at hl 0 rfl) ?_
  refine lv_iload_n hx hb dX3_solve_34 rfl (lv_at hl 1 rfl) ?_
  refine lv_icmp_ge (tgt := 61) hx hb dX3_solve_35 (by decide) (fun _ => ?_) (fun c9 => absurd (by first | decide | rfl) c9)
  refine lv_aload_n hx hb dX3_solve_61 rfl (lv_at hl 2 rfl) ?_
  refine va_get (D := D) (ci := 3) (v := .int 0) (C := RX3) (T := TX3) (N := 4) hx hb hts iX3_solve_X3 hown hK hP 1 rfl rfl 2 (by decide) (hts (.fieldLink RX3 18 "CatLeases$Letting" "tenants" "I") (List.mem_of_getElem? (i := 2) rfl)) (fun _ h9 => h9) (k_sn (by decide) (k_ss h_le_tenants)) dX3_solve_62 ?_
  refine lv_iconst (v := 1) hx hb dX3_solve_65 (by decide) ?_
  refine lv_isub hx hb dX3_solve_66 ?_
  refine k_top (v := (-1)) (by decide) ?_
  refine lv_istore (lv' := [(4, .int (-1)), (3, .int 1), (0, .ref le), (1, .ref mw), (2, .ref s0)]) hx hb dX3_solve_67 hl (by decide) rfl (fun ls hl => ?_)
  refine lv_iload hx hb dX3_solve_69 (lv_at hl 0 rfl) ?_
  refine lv_if_lt (tgt := 117) hx hb dX3_solve_71 (by decide) (fun _ => ?_) (fun c9 => absurd (by first | decide | rfl) c9)
  exact k_vret hx hb hr hlocks hK hP hD hS ⟨(upd f_bs 0 0), rfl, rfl⟩ dX3_solve_117
set_option maxHeartbeats 4000000 in
set_option maxRecDepth 100000 in
theorem c_tell (l : Launch) (D : va_G) (g : Nat → ClassId) (sz : Nat) (le : Nat) (ly : Nat) (fs_le : List Value) (h_le_tenants : fs_le[2]? = some (.int 0)) : Met l yX3_tell wsX3_tell ({ frames := 0, cells := 0, slots := 0, locals := 0 }) (va_Pc [.ref le, .ref ly, .int 0] (kPre D g [(le, .inr (3, fs_le))] sz)) (kQv D g (fun (u : va_W) => u = [(le, .inr (3, fs_le))]) (va_A [(le, .inr (3, fs_le))] sz)) 0 0 (va_A [(le, .inr (3, fs_le))] sz) := by
  refine k_head (cc := cX3_tell) (maxL := 6) (ret := none) (by decide) rfl (Nat.le_of_ble_eq_true rfl) ?_
  intro p e s m below meth c ls A hx hb hr hlocks hml hown hin hts hA hP hK hD hS hl
  have hown : s.vm.findClass RX3 = some m.cls := hown
  have hl : lv_has ls 6 [(0, .ref le), (1, .ref ly), (2, .int 0)] := hl
  refine lv_iconst (v := 0) hx hb dX3_tell_0 (by decide) ?_
  refine lv_istore_n (lv' := [(3, .int 0), (0, .ref le), (1, .ref ly), (2, .int 0)]) hx hb dX3_tell_1 rfl hl (by decide) rfl (fun ls hl => ?_)
  refine lv_iconst (v := 0) hx hb dX3_tell_2 (by decide) ?_
  refine lv_istore (lv' := [(4, .int 0), (3, .int 0), (0, .ref le), (1, .ref ly), (2, .int 0)]) hx hb dX3_tell_3 hl (by decide) rfl (fun ls hl => ?_)
  refine lv_iload hx hb dX3_tell_5 (lv_at hl 0 rfl) ?_
  refine lv_aload_n hx hb dX3_tell_7 rfl (lv_at hl 2 rfl) ?_
  refine va_get (D := D) (ci := 3) (v := .int 0) (C := RX3) (T := TX3) (N := 4) hx hb hts iX3_tell_X3 hown hK hP 0 rfl rfl 2 (by decide) (hts (.fieldLink RX3 18 "CatLeases$Letting" "tenants" "I") (List.mem_of_getElem? (i := 1) rfl)) (fun _ h9 => h9) h_le_tenants dX3_tell_8 ?_
  refine lv_icmp_ge (tgt := 112) hx hb dX3_tell_11 (by decide) (fun _ => ?_) (fun c9 => absurd (by first | decide | rfl) c9)
  exact k_vret hx hb hr hlocks hK hP hD hS rfl dX3_tell_112
set_option maxHeartbeats 4000000 in
set_option maxRecDepth 100000 in
theorem c_count (l : Launch) (D : va_G) (g : Nat → ClassId) (sz : Nat) (le : Nat) (bs : Nat) (fs_le : List Value) (f_bs : Nat → Int32) (h_le_best : fs_le[1]? = some (.ref bs)) (h_bs_at0 : f_bs 0 = 0) : Met l yX3_count wsX3_count ({ frames := 0, cells := 0, slots := 0, locals := 0 }) (va_Pc [.ref le] (kPre D g [(le, .inr (3, fs_le)), (bs, .inl (g 1, 2048, .inl f_bs))] sz)) (kQi D g (fun (r : Int32) (u : va_W) => 0 = r ∧ u = [(le, .inr (3, fs_le)), (bs, .inl (g 1, 2048, .inl f_bs))]) (va_A [(le, .inr (3, fs_le)), (bs, .inl (g 1, 2048, .inl f_bs))] sz)) 0 0 (va_A [(le, .inr (3, fs_le)), (bs, .inl (g 1, 2048, .inl f_bs))] sz) := by
  refine k_head (cc := cX3_count) (maxL := 1) (ret := (some .int)) (by decide) rfl (Nat.le_of_ble_eq_true rfl) ?_
  intro p e s m below meth c ls A hx hb hr hlocks hml hown hin hts hA hP hK hD hS hl
  have hown : s.vm.findClass RX3 = some m.cls := hown
  have hl : lv_has ls 1 [(0, .ref le)] := hl
  refine lv_aload_n hx hb dX3_count_0 rfl (lv_at hl 0 rfl) ?_
  refine va_get (D := D) (ci := 3) (v := .ref bs) (C := RX3) (T := TX3) (N := 4) hx hb hts iX3_count_X3 hown hK hP 0 rfl rfl 1 (by decide) (hts (.fieldLink RX3 15 "CatLeases$Letting" "best" "[I") (List.mem_of_getElem? (i := 1) rfl)) (fun _ h9 => h9) h_le_best dX3_count_1 ?_
  refine lv_iconst (v := 0) hx hb dX3_count_4 (by decide) ?_
  refine va_iald hx hb hK hP 1 1 rfl rfl (k_in (i := 0) (n := 2048) (by decide)) dX3_count_5 ?_
  refine k_top (v := 0) h_bs_at0 ?_
  refine lv_ldc (v := 100000) hx hb hown (hts (.constant RX3 59 (100000)) (List.mem_of_getElem? (i := 2) rfl)) dX3_count_6 ?_
  refine lv_idiv hx hb dX3_count_8 (by decide) ?_
  refine k_top (v := 0) (by decide) ?_
  exact k_iret hx hb hr hlocks hK hP hD hS ⟨rfl, rfl⟩ dX3_count_9
set_option maxHeartbeats 4000000 in
set_option maxRecDepth 100000 in
theorem c_together (l : Launch) (D : va_G) (g : Nat → ClassId) (sz : Nat) (le : Nat) (bs : Nat) (fs_le : List Value) (f_bs : Nat → Int32) (h_le_best : fs_le[1]? = some (.ref bs)) (h_bs_at0 : f_bs 0 = 0) : Met l yX3_together wsX3_together ({ frames := 0, cells := 0, slots := 0, locals := 0 }) (va_Pc [.ref le] (kPre D g [(le, .inr (3, fs_le)), (bs, .inl (g 1, 2048, .inl f_bs))] sz)) (kQi D g (fun (r : Int32) (u : va_W) => 0 = r ∧ u = [(le, .inr (3, fs_le)), (bs, .inl (g 1, 2048, .inl f_bs))]) (va_A [(le, .inr (3, fs_le)), (bs, .inl (g 1, 2048, .inl f_bs))] sz)) 0 0 (va_A [(le, .inr (3, fs_le)), (bs, .inl (g 1, 2048, .inl f_bs))] sz) := by
  refine k_head (cc := cX3_together) (maxL := 1) (ret := (some .int)) (by decide) rfl (Nat.le_of_ble_eq_true rfl) ?_
  intro p e s m below meth c ls A hx hb hr hlocks hml hown hin hts hA hP hK hD hS hl
  have hown : s.vm.findClass RX3 = some m.cls := hown
  have hl : lv_has ls 1 [(0, .ref le)] := hl
  refine lv_aload_n hx hb dX3_together_0 rfl (lv_at hl 0 rfl) ?_
  refine va_get (D := D) (ci := 3) (v := .ref bs) (C := RX3) (T := TX3) (N := 4) hx hb hts iX3_together_X3 hown hK hP 0 rfl rfl 1 (by decide) (hts (.fieldLink RX3 15 "CatLeases$Letting" "best" "[I") (List.mem_of_getElem? (i := 1) rfl)) (fun _ h9 => h9) h_le_best dX3_together_1 ?_
  refine lv_iconst (v := 0) hx hb dX3_together_4 (by decide) ?_
  refine va_iald hx hb hK hP 1 1 rfl rfl (k_in (i := 0) (n := 2048) (by decide)) dX3_together_5 ?_
  refine k_top (v := 0) h_bs_at0 ?_
  refine lv_ldc (v := 100000) hx hb hown (hts (.constant RX3 59 (100000)) (List.mem_of_getElem? (i := 2) rfl)) dX3_together_6 ?_
  refine lv_irem hx hb dX3_together_8 (by decide) ?_
  refine k_top (v := 0) (by decide) ?_
  exact k_iret hx hb hr hlocks hK hP hD hS ⟨rfl, rfl⟩ dX3_together_9
set_option maxHeartbeats 4000000 in
set_option maxRecDepth 100000 in
theorem c_letting (l : Launch) (D : va_G) (g : Nat → ClassId) (sz : Nat) (x : Nat) (mw : Nat) (ac : Nat) (sa : Nat) (le : Nat) (bs : Nat) (s0 : Nat) (fs_x : List Value) (ly : Nat) (v_x_lyingCount : Value) (fs_mw : List Value) (fs_ac : List Value) (f_sa : Nat → Option Nat) (fs_le : List Value) (v_le_worths : Value) (v_le_tenants : Value) (v_le_rooms : Value) (f_bs : Nat → Int32) (h_x_mews : fs_x[3]? = some (.ref mw)) (h_x_acts : fs_x[4]? = some (.ref ac)) (h_x_let : fs_x[8]? = some (.ref le)) (h_x_lying : fs_x[10]? = some (.ref ly)) (h_x_lyingCount : fs_x[11]? = some (v_x_lyingCount)) (h_mw_rooms : fs_mw[1]? = some (.int 0)) (h_mw_tenants : fs_mw[2]? = some (.int 0)) (h_ac_states : fs_ac[2]? = some (.ref sa)) (h_ac_index : fs_ac[3]? = some (.int 0)) (h_le_worths : fs_le[0]? = some (v_le_worths)) (h_le_best : fs_le[1]? = some (.ref bs)) (h_le_tenants : fs_le[2]? = some (v_le_tenants)) (h_le_rooms : fs_le[3]? = some (v_le_rooms)) (h_sa_at0 : f_sa 0 = some s0) : Met l yX8_letting wsX8_letting ({ frames := 2, cells := 0, slots := 0, locals := 50 }) (va_Pc [.ref x] (kPre D g [(x, .inr (8, fs_x)), (mw, .inr (4, fs_mw)), (ac, .inr (0, fs_ac)), (sa, .inl (g 4, 41, .inr (.inr (.inr (.inr f_sa))))), (le, .inr (3, fs_le)), (bs, .inl (g 1, 2048, .inl f_bs))] sz)) (kQi D g (fun (r : Int32) (u : va_W) => 0 = r) (va_A [(x, .inr (8, fs_x)), (mw, .inr (4, fs_mw)), (ac, .inr (0, fs_ac)), (sa, .inl (g 4, 41, .inr (.inr (.inr (.inr f_sa))))), (le, .inr (3, fs_le)), (bs, .inl (g 1, 2048, .inl f_bs))] sz)) 0 0 (va_A [(x, .inr (8, fs_x)), (mw, .inr (4, fs_mw)), (ac, .inr (0, fs_ac)), (sa, .inl (g 4, 41, .inr (.inr (.inr (.inr f_sa))))), (le, .inr (3, fs_le)), (bs, .inl (g 1, 2048, .inl f_bs))] sz) := by
  refine k_head (cc := cX8_letting) (maxL := 1) (ret := (some .int)) (by decide) rfl (Nat.le_of_ble_eq_true rfl) ?_
  intro p e s m below meth c ls A hx hb hr hlocks hml hown hin hts hA hP hK hD hS hl
  have hown : s.vm.findClass RX8 = some m.cls := hown
  have hl : lv_has ls 1 [(0, .ref x)] := hl
  refine lv_aload_n hx hb dX8_letting_0 rfl (lv_at hl 0 rfl) ?_
  refine va_get (D := D) (ci := 8) (v := .ref le) (C := RX8) (T := TX8) (N := 14) hx hb hts iX8_letting_X8 hown hK hP 0 rfl rfl 8 (by decide) (hts (.fieldLink RX8 55 "CatLeases" "let" "LCatLeases$Letting;") (List.mem_of_getElem? (i := 1) rfl)) (fun _ h9 => h9) h_x_let dX8_letting_1 ?_
  refine lv_aload_n hx hb dX8_letting_4 rfl (lv_at hl 0 rfl) ?_
  refine va_get (D := D) (ci := 8) (v := .ref mw) (C := RX8) (T := TX8) (N := 14) hx hb hts iX8_letting_X8 hown hK hP 0 rfl rfl 3 (by decide) (hts (.fieldLink RX8 27 "CatLeases" "mews" "LCatLeases$Mews;") (List.mem_of_getElem? (i := 2) rfl)) (fun _ h9 => h9) h_x_mews dX8_letting_5 ?_
  refine lv_aload_n hx hb dX8_letting_8 rfl (lv_at hl 0 rfl) ?_
  refine va_get (D := D) (ci := 8) (v := .ref ac) (C := RX8) (T := TX8) (N := 14) hx hb hts iX8_letting_X8 hown hK hP 0 rfl rfl 4 (by decide) (hts (.fieldLink RX8 34 "CatLeases" "acts" "LCatLeases$Acts;") (List.mem_of_getElem? (i := 3) rfl)) (fun _ h9 => h9) h_x_acts dX8_letting_9 ?_
  refine k_gor (wr := [(x, .inr (8, fs_x)), (mw, .inr (4, fs_mw)), (le, .inr (3, fs_le)), (bs, .inl (g 1, 2048, .inl f_bs))]) hP hD hS hA [2, 3] [0, 1, 4, 5] rfl rfl (by decide) (by decide) (va_runV (As := []) (rest := [.ref mw, .ref le]) ⟨hx, hb, hml, hown, hts⟩ (c_current l D g _ ac sa s0 fs_ac f_sa h_ac_states h_ac_index h_sa_at0) (cwV 0 hts gX8_letting_X0_current rfl rfl rfl (by decide +kernel) ⟨Nat.le_of_ble_eq_true rfl, Nat.le_of_ble_eq_true rfl⟩) (k_preV hK (hP.sub [2, 3] rfl) (hD.sub [2, 3] (by decide) rfl) 0 0 rfl rfl) rfl rfl hl.1 rfl (lv_room (Nat.le_of_ble_eq_true rfl)) dX8_letting_12 ⟨(Nat.le_of_ble_eq_true rfl), (Nat.le_of_ble_eq_true rfl)⟩) (fun r_1 u_2 H locs hw hP hD hS => ?_)
  rcases hw with ⟨rfl, rfl⟩
  have hP := hP.sub (ws' := [(x, .inr (8, fs_x)), (mw, .inr (4, fs_mw)), (ac, .inr (0, fs_ac)), (sa, .inl (g 4, 41, .inr (.inr (.inr (.inr f_sa))))), (le, .inr (3, fs_le)), (bs, .inl (g 1, 2048, .inl f_bs))]) [0, 1, 4, 5, 2, 3] rfl
  have hD := hD.sub (ws' := [(x, .inr (8, fs_x)), (mw, .inr (4, fs_mw)), (ac, .inr (0, fs_ac)), (sa, .inl (g 4, 41, .inr (.inr (.inr (.inr f_sa))))), (le, .inr (3, fs_le)), (bs, .inl (g 1, 2048, .inl f_bs))]) [0, 1, 4, 5, 2, 3] (by decide) rfl
  refine k_gov (wr := [(x, .inr (8, fs_x)), (ac, .inr (0, fs_ac)), (sa, .inl (g 4, 41, .inr (.inr (.inr (.inr f_sa)))))]) hP hD hS hA [1, 4, 5] [0, 2, 3] rfl rfl (by decide) (by decide) (va_runV (As := [.ref mw, .ref s0]) (rest := []) ⟨hx, hb, hml, hown, hts⟩ (c_solve l D g _ le mw s0 bs fs_mw fs_le (v_le_worths) (v_le_tenants) (v_le_rooms) f_bs h_mw_rooms h_mw_tenants h_le_worths h_le_best h_le_tenants h_le_rooms) (cwV 2 hts gX8_letting_X3_solve rfl rfl rfl (by decide +kernel) ⟨Nat.le_of_ble_eq_true rfl, Nat.le_of_ble_eq_true rfl⟩) (k_preV hK (hP.sub [1, 4, 5] rfl) (hD.sub [1, 4, 5] (by decide) rfl) 3 1 rfl rfl) rfl rfl hl.1 rfl (lv_room (Nat.le_of_ble_eq_true rfl)) dX8_letting_15 ⟨(Nat.le_of_ble_eq_true rfl), (Nat.le_of_ble_eq_true rfl)⟩) (fun u_4 H locs hw hP hD hS => ?_)
  rcases hw with ⟨f_5, c_6, rfl⟩
  have hP := hP.sub (ws' := [(x, .inr (8, fs_x)), (mw, .inr (4, fs_mw)), (ac, .inr (0, fs_ac)), (sa, .inl (g 4, 41, .inr (.inr (.inr (.inr f_sa))))), (le, .inr (3, ((fs_le.set 2 (.int 0)).set 3 (.int 0)))), (bs, .inl (g 1, 2048, .inl f_5))]) [0, 3, 1, 2, 4, 5] rfl
  have hD := hD.sub (ws' := [(x, .inr (8, fs_x)), (mw, .inr (4, fs_mw)), (ac, .inr (0, fs_ac)), (sa, .inl (g 4, 41, .inr (.inr (.inr (.inr f_sa))))), (le, .inr (3, ((fs_le.set 2 (.int 0)).set 3 (.int 0)))), (bs, .inl (g 1, 2048, .inl f_5))]) [0, 3, 1, 2, 4, 5] (by decide) rfl
  refine lv_aload_n hx hb dX8_letting_18 rfl (lv_at hl 0 rfl) ?_
  refine lv_aload_n hx hb dX8_letting_19 rfl (lv_at hl 0 rfl) ?_
  refine va_get (D := D) (ci := 8) (v := .ref mw) (C := RX8) (T := TX8) (N := 14) hx hb hts iX8_letting_X8 hown hK hP 0 rfl rfl 3 (by decide) (hts (.fieldLink RX8 27 "CatLeases" "mews" "LCatLeases$Mews;") (List.mem_of_getElem? (i := 2) rfl)) (fun _ h9 => h9) h_x_mews dX8_letting_20 ?_
  refine va_get (D := D) (ci := 4) (v := .int 0) (C := RX4) (T := TX4) (N := 11) hx hb hts iX8_letting_X4 hown hK hP 1 rfl rfl 2 (by decide) (hts (.fieldLink RX8 102 "CatLeases$Mews" "tenants" "I") (List.mem_of_getElem? (i := 4) rfl)) (fun _ h9 => h9) h_mw_tenants dX8_letting_23 ?_
  refine va_put (D := D) (ci := 8) (v := .int 0) (ty := .int) (C := RX8) (T := TX8) (N := 14) hx hb hts iX8_letting_X8 tyX8 tyX8_ok nmX8 hown hK hP hD hS 0 rfl rfl 11 (by decide) (hts (.fieldLink RX8 70 "CatLeases" "lyingCount" "I") (List.mem_of_getElem? (i := 5) rfl)) (fun _ h9 => h9) rfl (by decide +kernel) rfl rfl ((k_len h_x_lyingCount)) dX8_letting_26 (fun H locs hP hD hS => ?_)
  have hP : va_P D vwCl [(x, .inr (8, (fs_x.set 11 (.int 0)))), (mw, .inr (4, fs_mw)), (ac, .inr (0, fs_ac)), (sa, .inl (g 4, 41, .inr (.inr (.inr (.inr f_sa))))), (le, .inr (3, ((fs_le.set 2 (.int 0)).set 3 (.int 0)))), (bs, .inl (g 1, 2048, .inl f_5))] H := hP
  have hD : va_D A [(x, .inr (8, (fs_x.set 11 (.int 0)))), (mw, .inr (4, fs_mw)), (ac, .inr (0, fs_ac)), (sa, .inl (g 4, 41, .inr (.inr (.inr (.inr f_sa))))), (le, .inr (3, ((fs_le.set 2 (.int 0)).set 3 (.int 0)))), (bs, .inl (g 1, 2048, .inl f_5))] := hD
  refine lv_aload_n hx hb dX8_letting_29 rfl (lv_at hl 0 rfl) ?_
  refine va_get (D := D) (ci := 8) (v := .ref le) (C := RX8) (T := TX8) (N := 14) hx hb hts iX8_letting_X8 hown hK hP 0 rfl rfl 8 (by decide) (hts (.fieldLink RX8 55 "CatLeases" "let" "LCatLeases$Letting;") (List.mem_of_getElem? (i := 1) rfl)) (fun _ h9 => h9) (k_sn (by decide) h_x_let) dX8_letting_30 ?_
  refine lv_aload_n hx hb dX8_letting_33 rfl (lv_at hl 0 rfl) ?_
  refine va_get (D := D) (ci := 8) (v := .ref ly) (C := RX8) (T := TX8) (N := 14) hx hb hts iX8_letting_X8 hown hK hP 0 rfl rfl 10 (by decide) (hts (.fieldLink RX8 66 "CatLeases" "lying" "[I") (List.mem_of_getElem? (i := 6) rfl)) (fun _ h9 => h9) (k_sn (by decide) h_x_lying) dX8_letting_34 ?_
  refine lv_aload_n hx hb dX8_letting_37 rfl (lv_at hl 0 rfl) ?_
  refine va_get (D := D) (ci := 8) (v := .int 0) (C := RX8) (T := TX8) (N := 14) hx hb hts iX8_letting_X8 hown hK hP 0 rfl rfl 11 (by decide) (hts (.fieldLink RX8 70 "CatLeases" "lyingCount" "I") (List.mem_of_getElem? (i := 5) rfl)) (fun _ h9 => h9) (k_ss h_x_lyingCount) dX8_letting_38 ?_
  refine k_gov (wr := [(x, .inr (8, (fs_x.set 11 (.int 0)))), (mw, .inr (4, fs_mw)), (ac, .inr (0, fs_ac)), (sa, .inl (g 4, 41, .inr (.inr (.inr (.inr f_sa))))), (bs, .inl (g 1, 2048, .inl f_5))]) hP hD hS hA [4] [0, 1, 2, 3, 5] rfl rfl (by decide) (by decide) (va_runV (As := [.ref ly, .int 0]) (rest := []) ⟨hx, hb, hml, hown, hts⟩ (c_tell l D g _ le ly ((fs_le.set 2 (.int 0)).set 3 (.int 0)) (k_sn (by decide) (k_ss h_le_tenants))) (cwV 2 hts gX8_letting_X3_tell rfl rfl rfl (by decide +kernel) ⟨Nat.le_of_ble_eq_true rfl, Nat.le_of_ble_eq_true rfl⟩) (k_preV hK (hP.sub [4] rfl) (hD.sub [4] (by decide) rfl) 3 0 rfl rfl) rfl rfl hl.1 rfl (lv_room (Nat.le_of_ble_eq_true rfl)) dX8_letting_41 ⟨(Nat.le_of_ble_eq_true rfl), (Nat.le_of_ble_eq_true rfl)⟩) (fun u_8 H locs hw hP hD hS => ?_)
  rcases hw with rfl
  have hP := hP.sub (ws' := [(x, .inr (8, (fs_x.set 11 (.int 0)))), (mw, .inr (4, fs_mw)), (ac, .inr (0, fs_ac)), (sa, .inl (g 4, 41, .inr (.inr (.inr (.inr f_sa))))), (le, .inr (3, ((fs_le.set 2 (.int 0)).set 3 (.int 0)))), (bs, .inl (g 1, 2048, .inl f_5))]) [0, 1, 2, 3, 5, 4] rfl
  have hD := hD.sub (ws' := [(x, .inr (8, (fs_x.set 11 (.int 0)))), (mw, .inr (4, fs_mw)), (ac, .inr (0, fs_ac)), (sa, .inl (g 4, 41, .inr (.inr (.inr (.inr f_sa))))), (le, .inr (3, ((fs_le.set 2 (.int 0)).set 3 (.int 0)))), (bs, .inl (g 1, 2048, .inl f_5))]) [0, 1, 2, 3, 5, 4] (by decide) rfl
  refine lv_aload_n hx hb dX8_letting_44 rfl (lv_at hl 0 rfl) ?_
  refine va_get (D := D) (ci := 8) (v := .ref le) (C := RX8) (T := TX8) (N := 14) hx hb hts iX8_letting_X8 hown hK hP 0 rfl rfl 8 (by decide) (hts (.fieldLink RX8 55 "CatLeases" "let" "LCatLeases$Letting;") (List.mem_of_getElem? (i := 1) rfl)) (fun _ h9 => h9) (k_sn (by decide) h_x_let) dX8_letting_45 ?_
  refine k_goi (wr := [(x, .inr (8, (fs_x.set 11 (.int 0)))), (mw, .inr (4, fs_mw)), (ac, .inr (0, fs_ac)), (sa, .inl (g 4, 41, .inr (.inr (.inr (.inr f_sa)))))]) hP hD hS hA [4, 5] [0, 1, 2, 3] rfl rfl (by decide) (by decide) (va_runV (As := []) (rest := []) ⟨hx, hb, hml, hown, hts⟩ (c_count l D g _ le bs ((fs_le.set 2 (.int 0)).set 3 (.int 0)) f_5 (k_sn (by decide) (k_sn (by decide) h_le_best)) c_6) (cwV 0 hts gX8_letting_X3_count rfl rfl rfl (by decide +kernel) ⟨Nat.le_of_ble_eq_true rfl, Nat.le_of_ble_eq_true rfl⟩) (k_preV hK (hP.sub [4, 5] rfl) (hD.sub [4, 5] (by decide) rfl) 3 0 rfl rfl) rfl rfl hl.1 rfl (lv_room (Nat.le_of_ble_eq_true rfl)) dX8_letting_48 ⟨(Nat.le_of_ble_eq_true rfl), (Nat.le_of_ble_eq_true rfl)⟩) (fun r_9 u_10 H locs hw hP hD hS => ?_)
  rcases hw with ⟨rfl, rfl⟩
  have hP := hP.sub (ws' := [(x, .inr (8, (fs_x.set 11 (.int 0)))), (mw, .inr (4, fs_mw)), (ac, .inr (0, fs_ac)), (sa, .inl (g 4, 41, .inr (.inr (.inr (.inr f_sa))))), (le, .inr (3, ((fs_le.set 2 (.int 0)).set 3 (.int 0)))), (bs, .inl (g 1, 2048, .inl f_5))]) [0, 1, 2, 3, 4, 5] rfl
  have hD := hD.sub (ws' := [(x, .inr (8, (fs_x.set 11 (.int 0)))), (mw, .inr (4, fs_mw)), (ac, .inr (0, fs_ac)), (sa, .inl (g 4, 41, .inr (.inr (.inr (.inr f_sa))))), (le, .inr (3, ((fs_le.set 2 (.int 0)).set 3 (.int 0)))), (bs, .inl (g 1, 2048, .inl f_5))]) [0, 1, 2, 3, 4, 5] (by decide) rfl
  exact k_iret hx hb hr hlocks hK hP hD hS rfl dX8_letting_51
set_option maxHeartbeats 4000000 in
set_option maxRecDepth 100000 in
theorem c_pleasure (l : Launch) (D : va_G) (g : Nat → ClassId) (sz : Nat) (x : Nat) (mw : Nat) (ac : Nat) (sa : Nat) (le : Nat) (bs : Nat) (s0 : Nat) (fs_x : List Value) (fs_mw : List Value) (fs_ac : List Value) (f_sa : Nat → Option Nat) (fs_le : List Value) (v_le_worths : Value) (v_le_tenants : Value) (v_le_rooms : Value) (f_bs : Nat → Int32) (h_x_mews : fs_x[3]? = some (.ref mw)) (h_x_acts : fs_x[4]? = some (.ref ac)) (h_x_let : fs_x[8]? = some (.ref le)) (h_mw_rooms : fs_mw[1]? = some (.int 0)) (h_mw_tenants : fs_mw[2]? = some (.int 0)) (h_ac_states : fs_ac[2]? = some (.ref sa)) (h_ac_index : fs_ac[3]? = some (.int 0)) (h_le_worths : fs_le[0]? = some (v_le_worths)) (h_le_best : fs_le[1]? = some (.ref bs)) (h_le_tenants : fs_le[2]? = some (v_le_tenants)) (h_le_rooms : fs_le[3]? = some (v_le_rooms)) (h_sa_at0 : f_sa 0 = some s0) : Met l yX8_pleasure wsX8_pleasure ({ frames := 2, cells := 0, slots := 0, locals := 50 }) (va_Pc [.ref x] (kPre D g [(x, .inr (8, fs_x)), (mw, .inr (4, fs_mw)), (ac, .inr (0, fs_ac)), (sa, .inl (g 4, 41, .inr (.inr (.inr (.inr f_sa))))), (le, .inr (3, fs_le)), (bs, .inl (g 1, 2048, .inl f_bs))] sz)) (kQi D g (fun (r : Int32) (u : va_W) => 0 = r) (va_A [(x, .inr (8, fs_x)), (mw, .inr (4, fs_mw)), (ac, .inr (0, fs_ac)), (sa, .inl (g 4, 41, .inr (.inr (.inr (.inr f_sa))))), (le, .inr (3, fs_le)), (bs, .inl (g 1, 2048, .inl f_bs))] sz)) 0 0 (va_A [(x, .inr (8, fs_x)), (mw, .inr (4, fs_mw)), (ac, .inr (0, fs_ac)), (sa, .inl (g 4, 41, .inr (.inr (.inr (.inr f_sa))))), (le, .inr (3, fs_le)), (bs, .inl (g 1, 2048, .inl f_bs))] sz) := by
  refine k_head (cc := cX8_pleasure) (maxL := 1) (ret := (some .int)) (by decide) rfl (Nat.le_of_ble_eq_true rfl) ?_
  intro p e s m below meth c ls A hx hb hr hlocks hml hown hin hts hA hP hK hD hS hl
  have hown : s.vm.findClass RX8 = some m.cls := hown
  have hl : lv_has ls 1 [(0, .ref x)] := hl
  refine lv_aload_n hx hb dX8_pleasure_0 rfl (lv_at hl 0 rfl) ?_
  refine va_get (D := D) (ci := 8) (v := .ref le) (C := RX8) (T := TX8) (N := 14) hx hb hts iX8_pleasure_X8 hown hK hP 0 rfl rfl 8 (by decide) (hts (.fieldLink RX8 55 "CatLeases" "let" "LCatLeases$Letting;") (List.mem_of_getElem? (i := 1) rfl)) (fun _ h9 => h9) h_x_let dX8_pleasure_1 ?_
  refine lv_aload_n hx hb dX8_pleasure_4 rfl (lv_at hl 0 rfl) ?_
  refine va_get (D := D) (ci := 8) (v := .ref mw) (C := RX8) (T := TX8) (N := 14) hx hb hts iX8_pleasure_X8 hown hK hP 0 rfl rfl 3 (by decide) (hts (.fieldLink RX8 27 "CatLeases" "mews" "LCatLeases$Mews;") (List.mem_of_getElem? (i := 2) rfl)) (fun _ h9 => h9) h_x_mews dX8_pleasure_5 ?_
  refine lv_aload_n hx hb dX8_pleasure_8 rfl (lv_at hl 0 rfl) ?_
  refine va_get (D := D) (ci := 8) (v := .ref ac) (C := RX8) (T := TX8) (N := 14) hx hb hts iX8_pleasure_X8 hown hK hP 0 rfl rfl 4 (by decide) (hts (.fieldLink RX8 34 "CatLeases" "acts" "LCatLeases$Acts;") (List.mem_of_getElem? (i := 3) rfl)) (fun _ h9 => h9) h_x_acts dX8_pleasure_9 ?_
  refine k_gor (wr := [(x, .inr (8, fs_x)), (mw, .inr (4, fs_mw)), (le, .inr (3, fs_le)), (bs, .inl (g 1, 2048, .inl f_bs))]) hP hD hS hA [2, 3] [0, 1, 4, 5] rfl rfl (by decide) (by decide) (va_runV (As := []) (rest := [.ref mw, .ref le]) ⟨hx, hb, hml, hown, hts⟩ (c_current l D g _ ac sa s0 fs_ac f_sa h_ac_states h_ac_index h_sa_at0) (cwV 0 hts gX8_pleasure_X0_current rfl rfl rfl (by decide +kernel) ⟨Nat.le_of_ble_eq_true rfl, Nat.le_of_ble_eq_true rfl⟩) (k_preV hK (hP.sub [2, 3] rfl) (hD.sub [2, 3] (by decide) rfl) 0 0 rfl rfl) rfl rfl hl.1 rfl (lv_room (Nat.le_of_ble_eq_true rfl)) dX8_pleasure_12 ⟨(Nat.le_of_ble_eq_true rfl), (Nat.le_of_ble_eq_true rfl)⟩) (fun r_1 u_2 H locs hw hP hD hS => ?_)
  rcases hw with ⟨rfl, rfl⟩
  have hP := hP.sub (ws' := [(x, .inr (8, fs_x)), (mw, .inr (4, fs_mw)), (ac, .inr (0, fs_ac)), (sa, .inl (g 4, 41, .inr (.inr (.inr (.inr f_sa))))), (le, .inr (3, fs_le)), (bs, .inl (g 1, 2048, .inl f_bs))]) [0, 1, 4, 5, 2, 3] rfl
  have hD := hD.sub (ws' := [(x, .inr (8, fs_x)), (mw, .inr (4, fs_mw)), (ac, .inr (0, fs_ac)), (sa, .inl (g 4, 41, .inr (.inr (.inr (.inr f_sa))))), (le, .inr (3, fs_le)), (bs, .inl (g 1, 2048, .inl f_bs))]) [0, 1, 4, 5, 2, 3] (by decide) rfl
  refine k_gov (wr := [(x, .inr (8, fs_x)), (ac, .inr (0, fs_ac)), (sa, .inl (g 4, 41, .inr (.inr (.inr (.inr f_sa)))))]) hP hD hS hA [1, 4, 5] [0, 2, 3] rfl rfl (by decide) (by decide) (va_runV (As := [.ref mw, .ref s0]) (rest := []) ⟨hx, hb, hml, hown, hts⟩ (c_solve l D g _ le mw s0 bs fs_mw fs_le (v_le_worths) (v_le_tenants) (v_le_rooms) f_bs h_mw_rooms h_mw_tenants h_le_worths h_le_best h_le_tenants h_le_rooms) (cwV 2 hts gX8_pleasure_X3_solve rfl rfl rfl (by decide +kernel) ⟨Nat.le_of_ble_eq_true rfl, Nat.le_of_ble_eq_true rfl⟩) (k_preV hK (hP.sub [1, 4, 5] rfl) (hD.sub [1, 4, 5] (by decide) rfl) 3 1 rfl rfl) rfl rfl hl.1 rfl (lv_room (Nat.le_of_ble_eq_true rfl)) dX8_pleasure_15 ⟨(Nat.le_of_ble_eq_true rfl), (Nat.le_of_ble_eq_true rfl)⟩) (fun u_4 H locs hw hP hD hS => ?_)
  rcases hw with ⟨f_5, c_6, rfl⟩
  have hP := hP.sub (ws' := [(x, .inr (8, fs_x)), (mw, .inr (4, fs_mw)), (ac, .inr (0, fs_ac)), (sa, .inl (g 4, 41, .inr (.inr (.inr (.inr f_sa))))), (le, .inr (3, ((fs_le.set 2 (.int 0)).set 3 (.int 0)))), (bs, .inl (g 1, 2048, .inl f_5))]) [0, 3, 1, 2, 4, 5] rfl
  have hD := hD.sub (ws' := [(x, .inr (8, fs_x)), (mw, .inr (4, fs_mw)), (ac, .inr (0, fs_ac)), (sa, .inl (g 4, 41, .inr (.inr (.inr (.inr f_sa))))), (le, .inr (3, ((fs_le.set 2 (.int 0)).set 3 (.int 0)))), (bs, .inl (g 1, 2048, .inl f_5))]) [0, 3, 1, 2, 4, 5] (by decide) rfl
  refine lv_aload_n hx hb dX8_pleasure_18 rfl (lv_at hl 0 rfl) ?_
  refine va_get (D := D) (ci := 8) (v := .ref le) (C := RX8) (T := TX8) (N := 14) hx hb hts iX8_pleasure_X8 hown hK hP 0 rfl rfl 8 (by decide) (hts (.fieldLink RX8 55 "CatLeases" "let" "LCatLeases$Letting;") (List.mem_of_getElem? (i := 1) rfl)) (fun _ h9 => h9) h_x_let dX8_pleasure_19 ?_
  refine k_goi (wr := [(x, .inr (8, fs_x)), (mw, .inr (4, fs_mw)), (ac, .inr (0, fs_ac)), (sa, .inl (g 4, 41, .inr (.inr (.inr (.inr f_sa)))))]) hP hD hS hA [4, 5] [0, 1, 2, 3] rfl rfl (by decide) (by decide) (va_runV (As := []) (rest := []) ⟨hx, hb, hml, hown, hts⟩ (c_together l D g _ le bs ((fs_le.set 2 (.int 0)).set 3 (.int 0)) f_5 (k_sn (by decide) (k_sn (by decide) h_le_best)) c_6) (cwV 0 hts gX8_pleasure_X3_together rfl rfl rfl (by decide +kernel) ⟨Nat.le_of_ble_eq_true rfl, Nat.le_of_ble_eq_true rfl⟩) (k_preV hK (hP.sub [4, 5] rfl) (hD.sub [4, 5] (by decide) rfl) 3 0 rfl rfl) rfl rfl hl.1 rfl (lv_room (Nat.le_of_ble_eq_true rfl)) dX8_pleasure_22 ⟨(Nat.le_of_ble_eq_true rfl), (Nat.le_of_ble_eq_true rfl)⟩) (fun r_7 u_8 H locs hw hP hD hS => ?_)
  rcases hw with ⟨rfl, rfl⟩
  have hP := hP.sub (ws' := [(x, .inr (8, fs_x)), (mw, .inr (4, fs_mw)), (ac, .inr (0, fs_ac)), (sa, .inl (g 4, 41, .inr (.inr (.inr (.inr f_sa))))), (le, .inr (3, ((fs_le.set 2 (.int 0)).set 3 (.int 0)))), (bs, .inl (g 1, 2048, .inl f_5))]) [0, 1, 2, 3, 4, 5] rfl
  have hD := hD.sub (ws' := [(x, .inr (8, fs_x)), (mw, .inr (4, fs_mw)), (ac, .inr (0, fs_ac)), (sa, .inl (g 4, 41, .inr (.inr (.inr (.inr f_sa))))), (le, .inr (3, ((fs_le.set 2 (.int 0)).set 3 (.int 0)))), (bs, .inl (g 1, 2048, .inl f_5))]) [0, 1, 2, 3, 4, 5] (by decide) rfl
  exact k_iret hx hb hr hlocks hK hP hD hS rfl dX8_pleasure_25
set_option maxHeartbeats 4000000 in
set_option maxRecDepth 100000 in
theorem c_foresee (l : Launch) (D : va_G) (g : Nat → ClassId) (sz : Nat) (sg : Nat) (mw : Nat) (fs_sg : List Value) (fs_mw : List Value) (h_sg_foreseen : fs_sg[7]? = some (.int 0)) (h_sg_anyCats : fs_sg[8]? = some (.int 0)) (h_mw_cats : fs_mw[0]? = some (.int 0)) (h_mw_tenants : fs_mw[2]? = some (.int 0)) : Met l yX6_foresee wsX6_foresee ({ frames := 0, cells := 0, slots := 0, locals := 0 }) (va_Pc [.ref sg, .ref mw] (kPre D g [(sg, .inr (6, fs_sg)), (mw, .inr (4, fs_mw))] sz)) (kQv D g (fun (u : va_W) => u = [(sg, .inr (6, ((fs_sg.set 7 (.int 1)).set 8 (.int 0)))), (mw, .inr (4, fs_mw))]) (va_A [(sg, .inr (6, fs_sg)), (mw, .inr (4, fs_mw))] sz)) 0 0 (va_A [(sg, .inr (6, fs_sg)), (mw, .inr (4, fs_mw))] sz) := by
  refine k_head (cc := cX6_foresee) (maxL := 7) (ret := none) (by decide) rfl (Nat.le_of_ble_eq_true rfl) ?_
  intro p e s m below meth c ls A hx hb hr hlocks hml hown hin hts hA hP hK hD hS hl
  have hown : s.vm.findClass RX6 = some m.cls := hown
  have hl : lv_has ls 7 [(0, .ref sg), (1, .ref mw)] := hl
  refine lv_aload_n hx hb dX6_foresee_0 rfl (lv_at hl 0 rfl) ?_
  refine va_get (D := D) (ci := 6) (v := .int 0) (C := RX6) (T := TX6) (N := 9) hx hb hts iX6_foresee_X6 hown hK hP 0 rfl rfl 7 (by decide) (hts (.fieldLink RX6 35 "CatLeases$Sightings" "foreseen" "Z") (List.mem_of_getElem? (i := 1) rfl)) (fun _ h9 => h9) h_sg_foreseen dX6_foresee_1 ?_
  refine lv_if_eq (tgt := 8) hx hb dX6_foresee_4 (by decide) (fun _ => ?_) (fun c9 => absurd (by first | decide | rfl) c9)
  refine lv_aload_n hx hb dX6_foresee_8 rfl (lv_at hl 0 rfl) ?_
  refine lv_iconst (v := 1) hx hb dX6_foresee_9 (by decide) ?_
  refine va_put (D := D) (ci := 6) (v := .int 1) (ty := .boolean) (C := RX6) (T := TX6) (N := 9) hx hb hts iX6_foresee_X6 tyX6 tyX6_ok nmX6 hown hK hP hD hS 0 rfl rfl 7 (by decide) (hts (.fieldLink RX6 35 "CatLeases$Sightings" "foreseen" "Z") (List.mem_of_getElem? (i := 1) rfl)) (fun _ h9 => h9) rfl (by decide +kernel) rfl rfl ((k_len h_sg_foreseen)) dX6_foresee_10 (fun H locs hP hD hS => ?_)
  have hP : va_P D vwCl [(sg, .inr (6, (fs_sg.set 7 (.int 1)))), (mw, .inr (4, fs_mw))] H := hP
  have hD : va_D A [(sg, .inr (6, (fs_sg.set 7 (.int 1)))), (mw, .inr (4, fs_mw))] := hD
  refine lv_aload_n hx hb dX6_foresee_13 rfl (lv_at hl 0 rfl) ?_
  refine lv_aload_n hx hb dX6_foresee_14 rfl (lv_at hl 1 rfl) ?_
  refine va_get (D := D) (ci := 4) (v := .int 0) (C := RX4) (T := TX4) (N := 11) hx hb hts iX6_foresee_X4 hown hK hP 1 rfl rfl 0 (by decide) (hts (.fieldLink RX6 42 "CatLeases$Mews" "cats" "I") (List.mem_of_getElem? (i := 2) rfl)) (fun _ h9 => h9) h_mw_cats dX6_foresee_15 ?_
  refine lv_if_le (tgt := 25) hx hb dX6_foresee_18 (by decide) (fun _ => ?_) (fun c9 => absurd (by first | decide | rfl) c9)
  refine lv_iconst (v := 0) hx hb dX6_foresee_25 (by decide) ?_
  refine va_put (D := D) (ci := 6) (v := .int 0) (ty := .boolean) (C := RX6) (T := TX6) (N := 9) hx hb hts iX6_foresee_X6 tyX6 tyX6_ok nmX6 hown hK hP hD hS 0 rfl rfl 8 (by decide) (hts (.fieldLink RX6 39 "CatLeases$Sightings" "anyCats" "Z") (List.mem_of_getElem? (i := 3) rfl)) (fun _ h9 => h9) rfl (by decide +kernel) rfl rfl ((k_len (k_sn (by decide) h_sg_anyCats))) dX6_foresee_26 (fun H locs hP hD hS => ?_)
  have hP : va_P D vwCl [(sg, .inr (6, ((fs_sg.set 7 (.int 1)).set 8 (.int 0)))), (mw, .inr (4, fs_mw))] H := hP
  have hD : va_D A [(sg, .inr (6, ((fs_sg.set 7 (.int 1)).set 8 (.int 0)))), (mw, .inr (4, fs_mw))] := hD
  refine lv_iconst (v := 0) hx hb dX6_foresee_29 (by decide) ?_
  refine lv_istore_n (lv' := [(2, .int 0), (0, .ref sg), (1, .ref mw)]) hx hb dX6_foresee_30 rfl hl (by decide) rfl (fun ls hl => ?_)
  refine lv_iload_n hx hb dX6_foresee_31 rfl (lv_at hl 0 rfl) ?_
  refine lv_aload_n hx hb dX6_foresee_32 rfl (lv_at hl 2 rfl) ?_
  refine va_get (D := D) (ci := 4) (v := .int 0) (C := RX4) (T := TX4) (N := 11) hx hb hts iX6_foresee_X4 hown hK hP 1 rfl rfl 2 (by decide) (hts (.fieldLink RX6 47 "CatLeases$Mews" "tenants" "I") (List.mem_of_getElem? (i := 4) rfl)) (fun _ h9 => h9) h_mw_tenants dX6_foresee_33 ?_
  refine lv_icmp_ge (tgt := 155) hx hb dX6_foresee_36 (by decide) (fun _ => ?_) (fun c9 => absurd (by first | decide | rfl) c9)
  exact k_vret hx hb hr hlocks hK hP hD hS rfl dX6_foresee_155
set_option maxHeartbeats 4000000 in
set_option maxRecDepth 100000 in
theorem c_allow (l : Launch) (D : va_G) (g : Nat → ClassId) (sz : Nat) (sg : Nat) (p0 : Int32) (p1 : Int32) (fs_sg : List Value) (h_sg_count : fs_sg[0]? = some (.int 0)) (h_sg_anyCats : fs_sg[8]? = some (.int 0)) : Met l yX6_allow wsX6_allow ({ frames := 0, cells := 0, slots := 0, locals := 0 }) (va_Pc [.ref sg, .int p0, .int p1] (kPre D g [(sg, .inr (6, fs_sg))] sz)) (kQi D g (fun (r : Int32) (u : va_W) => 0 = r ∧ u = [(sg, .inr (6, fs_sg))]) (va_A [(sg, .inr (6, fs_sg))] sz)) 0 0 (va_A [(sg, .inr (6, fs_sg))] sz) := by
  refine k_head (cc := cX6_allow) (maxL := 4) (ret := (some .boolean)) (by decide) rfl (Nat.le_of_ble_eq_true rfl) ?_
  intro p e s m below meth c ls A hx hb hr hlocks hml hown hin hts hA hP hK hD hS hl
  have hown : s.vm.findClass RX6 = some m.cls := hown
  have hl : lv_has ls 4 [(0, .ref sg), (1, .int p0), (2, .int p1)] := hl
  refine lv_iconst (v := 0) hx hb dX6_allow_0 (by decide) ?_
  refine lv_istore_n (lv' := [(3, .int 0), (0, .ref sg), (1, .int p0), (2, .int p1)]) hx hb dX6_allow_1 rfl hl (by decide) rfl (fun ls hl => ?_)
  refine lv_iload_n hx hb dX6_allow_2 rfl (lv_at hl 0 rfl) ?_
  refine lv_aload_n hx hb dX6_allow_3 rfl (lv_at hl 1 rfl) ?_
  refine va_get (D := D) (ci := 6) (v := .int 0) (C := RX6) (T := TX6) (N := 9) hx hb hts iX6_allow_X6 hown hK hP 0 rfl rfl 0 (by decide) (hts (.fieldLink RX6 9 "CatLeases$Sightings" "count" "I") (List.mem_of_getElem? (i := 1) rfl)) (fun _ h9 => h9) h_sg_count dX6_allow_4 ?_
  refine lv_icmp_ge (tgt := 53) hx hb dX6_allow_7 (by decide) (fun _ => ?_) (fun c9 => absurd (by first | decide | rfl) c9)
  refine lv_aload_n hx hb dX6_allow_53 rfl (lv_at hl 1 rfl) ?_
  refine va_get (D := D) (ci := 6) (v := .int 0) (C := RX6) (T := TX6) (N := 9) hx hb hts iX6_allow_X6 hown hK hP 0 rfl rfl 8 (by decide) (hts (.fieldLink RX6 39 "CatLeases$Sightings" "anyCats" "Z") (List.mem_of_getElem? (i := 5) rfl)) (fun _ h9 => h9) h_sg_anyCats dX6_allow_54 ?_
  exact k_zret hx hb hr hlocks rfl hK hP hD hS ⟨rfl, rfl⟩ dX6_allow_57
set_option maxHeartbeats 4000000 in
set_option maxRecDepth 100000 in
theorem c_fits (l : Launch) (D : va_G) (g : Nat → ClassId) (sz : Nat) (x : Nat) (p0 : Int32) (sg : Nat) (mw : Nat) (fs_x : List Value) (fs_sg : List Value) (fs_mw : List Value) (h_x_mews : fs_x[3]? = some (.ref mw)) (h_x_sightings : fs_x[12]? = some (.ref sg)) (h_sg_count : fs_sg[0]? = some (.int 0)) (h_sg_foreseen : fs_sg[7]? = some (.int 0)) (h_sg_anyCats : fs_sg[8]? = some (.int 0)) (h_mw_cats : fs_mw[0]? = some (.int 0)) (h_mw_tenants : fs_mw[2]? = some (.int 0)) : Met l yX8_fits wsX8_fits ({ frames := 1, cells := 0, slots := 0, locals := 26 }) (va_Pc [.ref x, .int p0] (kPre D g [(x, .inr (8, fs_x)), (sg, .inr (6, fs_sg)), (mw, .inr (4, fs_mw))] sz)) (kQi D g (fun (r : Int32) (u : va_W) => 0 = r ∧ u = [(x, .inr (8, fs_x)), (sg, .inr (6, ((fs_sg.set 7 (.int 1)).set 8 (.int 0)))), (mw, .inr (4, fs_mw))]) (va_A [(x, .inr (8, fs_x)), (sg, .inr (6, fs_sg)), (mw, .inr (4, fs_mw))] sz)) 0 0 (va_A [(x, .inr (8, fs_x)), (sg, .inr (6, fs_sg)), (mw, .inr (4, fs_mw))] sz) := by
  refine k_headQ (cc := cX8_fits) (maxL := 4) (ret := (some .int)) (by decide) rfl (Nat.le_of_ble_eq_true rfl) ?_
  intro p e s m below meth c ls A Q ar hQ hx hb hr hlocks hml hown hin hts hA hP hK hD hS hl
  have hown : s.vm.findClass RX8 = some m.cls := hown
  have hl : lv_has ls 4 [(0, .ref x), (1, .int p0)] := hl
  refine lv_aload_n hx hb dX8_fits_0 rfl (lv_at hl 0 rfl) ?_
  refine va_get (D := D) (ci := 8) (v := .ref sg) (C := RX8) (T := TX8) (N := 14) hx hb hts iX8_fits_X8 hown hK hP 0 rfl rfl 12 (by decide) (hts (.fieldLink RX8 76 "CatLeases" "sightings" "LCatLeases$Sightings;") (List.mem_of_getElem? (i := 1) rfl)) (fun _ h9 => h9) h_x_sightings dX8_fits_1 ?_
  refine lv_aload_n hx hb dX8_fits_4 rfl (lv_at hl 0 rfl) ?_
  refine va_get (D := D) (ci := 8) (v := .ref mw) (C := RX8) (T := TX8) (N := 14) hx hb hts iX8_fits_X8 hown hK hP 0 rfl rfl 3 (by decide) (hts (.fieldLink RX8 27 "CatLeases" "mews" "LCatLeases$Mews;") (List.mem_of_getElem? (i := 2) rfl)) (fun _ h9 => h9) h_x_mews dX8_fits_5 ?_
  refine k_gov (wr := [(x, .inr (8, fs_x))]) hP hD hS hA [1, 2] [0] rfl rfl (by decide) (by decide) (va_runV (As := [.ref mw]) (rest := []) ⟨hx, hb, hml, hown, hts⟩ (c_foresee l D g _ sg mw fs_sg fs_mw h_sg_foreseen h_sg_anyCats h_mw_cats h_mw_tenants) (cwV 1 hts gX8_fits_X6_foresee rfl rfl rfl (by decide +kernel) ⟨Nat.le_of_ble_eq_true rfl, Nat.le_of_ble_eq_true rfl⟩) (k_preV hK (hP.sub [1, 2] rfl) (hD.sub [1, 2] (by decide) rfl) 6 0 rfl rfl) rfl rfl hl.1 rfl (lv_room (Nat.le_of_ble_eq_true rfl)) dX8_fits_8 ⟨(Nat.le_of_ble_eq_true rfl), (Nat.le_of_ble_eq_true rfl)⟩) (fun u_2 H locs hw hP hD hS => ?_)
  rcases hw with rfl
  have hP := hP.sub (ws' := [(x, .inr (8, fs_x)), (sg, .inr (6, ((fs_sg.set 7 (.int 1)).set 8 (.int 0)))), (mw, .inr (4, fs_mw))]) [0, 1, 2] rfl
  have hD := hD.sub (ws' := [(x, .inr (8, fs_x)), (sg, .inr (6, ((fs_sg.set 7 (.int 1)).set 8 (.int 0)))), (mw, .inr (4, fs_mw))]) [0, 1, 2] (by decide) rfl
  refine lv_iconst (v := 0) hx hb dX8_fits_11 (by decide) ?_
  refine lv_istore_n (lv' := [(2, .int 0), (0, .ref x), (1, .int p0)]) hx hb dX8_fits_12 rfl hl (by decide) rfl (fun ls hl => ?_)
  refine lv_iconst (v := 0) hx hb dX8_fits_13 (by decide) ?_
  refine lv_istore_n (lv' := [(3, .int 0), (2, .int 0), (0, .ref x), (1, .int p0)]) hx hb dX8_fits_14 rfl hl (by decide) rfl (fun ls hl => ?_)
  have hloop_7 : ∀ (n_4 i_3 : Nat), i_3 ≤ 100 → 100 < i_3 + n_4 → ∀ (H : Heap) (locs : List Loc) (ls : Array Slot), va_P D vwCl [(x, .inr (8, fs_x)), (sg, .inr (6, ((fs_sg.set 7 (.int 1)).set 8 (.int 0)))), (mw, .inr (4, fs_mw))] H → va_D A [(x, .inr (8, fs_x)), (sg, .inr (6, ((fs_sg.set 7 (.int 1)).set 8 (.int 0)))), (mw, .inr (4, fs_mw))] → va_S A s.heap H locs → lv_has ls 4 [(3, .int (nI i_3)), (2, .int 0), (0, .ref x), (1, .int p0)] → W p l e (headSpec wsX8_fits ({ frames := 1, cells := 0, slots := 0, locals := 26 })).room s m ar below meth c H locs 0 0 Q (F0 m 15 ls []) := by
    intro n_4
    induction n_4 with
    | zero =>
      intro i_3  h_5 h_6
      exact absurd h_6 (by omega)
    | succ n_4 ih =>
      intro i_3  h_5 h_6  H locs ls hP hD hS hl
      refine lv_iload_n hx hb dX8_fits_15 rfl (lv_at hl 0 rfl) ?_
      refine lv_bipush (v := 99) hx hb dX8_fits_16 (by decide) ?_
      refine lv_icmp_gt (tgt := 42) hx hb dX8_fits_18 (by decide) (fun c_8 => ?_) (fun c_8 => ?_)
      · have h_9 := k_gt1 (N := 99) rfl h_5 (by decide) c_8
        subst h_9
        refine lv_iload_n hx hb dX8_fits_42 rfl (lv_at hl 1 rfl) ?_
        rw [hQ]
        exact k_iret hx hb hr hlocks hK hP hD hS ⟨rfl, rfl⟩ dX8_fits_43
      · have h_9 : i_3 < 100 := k_gt2 (N := 99) rfl (by decide) h_5 c_8
        refine lv_aload_n hx hb dX8_fits_21 rfl (lv_at hl 2 rfl) ?_
        refine va_get (D := D) (ci := 8) (v := .ref sg) (C := RX8) (T := TX8) (N := 14) hx hb hts iX8_fits_X8 hown hK hP 0 rfl rfl 12 (by decide) (hts (.fieldLink RX8 76 "CatLeases" "sightings" "LCatLeases$Sightings;") (List.mem_of_getElem? (i := 1) rfl)) (fun _ h9 => h9) h_x_sightings dX8_fits_22 ?_
        refine lv_iload_n hx hb dX8_fits_25 rfl (lv_at hl 0 rfl) ?_
        refine lv_iload_n hx hb dX8_fits_26 rfl (lv_at hl 3 rfl) ?_
        refine k_goi (wr := [(x, .inr (8, fs_x)), (mw, .inr (4, fs_mw))]) hP hD hS hA [1] [0, 2] rfl rfl (by decide) (by decide) (va_runV (As := [.int (nI i_3), .int p0]) (rest := []) ⟨hx, hb, hml, hown, hts⟩ (c_allow l D g _ sg (nI i_3) p0 ((fs_sg.set 7 (.int 1)).set 8 (.int 0)) (k_sn (by decide) (k_sn (by decide) h_sg_count)) (k_ss (k_sn (by decide) h_sg_anyCats))) (cwV 2 hts gX8_fits_X6_allow rfl rfl rfl (by decide +kernel) ⟨Nat.le_of_ble_eq_true rfl, Nat.le_of_ble_eq_true rfl⟩) (k_preV hK (hP.sub [1] rfl) (hD.sub [1] (by decide) rfl) 6 0 rfl rfl) rfl rfl hl.1 rfl (lv_room (Nat.le_of_ble_eq_true rfl)) dX8_fits_27 ⟨(Nat.le_of_ble_eq_true rfl), (Nat.le_of_ble_eq_true rfl)⟩) (fun r_10 u_11 H locs hw hP hD hS => ?_)
        rcases hw with ⟨rfl, rfl⟩
        have hP := hP.sub (ws' := [(x, .inr (8, fs_x)), (sg, .inr (6, ((fs_sg.set 7 (.int 1)).set 8 (.int 0)))), (mw, .inr (4, fs_mw))]) [0, 2, 1] rfl
        have hD := hD.sub (ws' := [(x, .inr (8, fs_x)), (sg, .inr (6, ((fs_sg.set 7 (.int 1)).set 8 (.int 0)))), (mw, .inr (4, fs_mw))]) [0, 2, 1] (by decide) rfl
        refine lv_if_eq (tgt := 36) hx hb dX8_fits_30 (by decide) (fun _ => ?_) (fun c9 => absurd (by first | decide | rfl) c9)
        refine lv_iinc (v := nI (i_3 + 1)) (lv' := [(3, .int (nI (i_3 + 1))), (2, .int 0), (0, .ref x), (1, .int p0)]) hx hb dX8_fits_36 hl (k := 0) rfl (k_inc i_3) (by decide) rfl (fun ls hl => ?_)
        refine lv_goto (tgt := 15) hx hb dX8_fits_39 (by decide) ?_
        exact ih (i_3 + 1)  (by omega) (by omega)  _ _ _ hP hD hS (lv_sub hl [0, 1, 2, 3] rfl)
  exact hloop_7 (100 + 1) 0  (by omega) (by omega)  _ _ _ hP hD hS hl
set_option maxHeartbeats 4000000 in
set_option maxRecDepth 100000 in
theorem c_sure (l : Launch) (D : va_G) (g : Nat → ClassId) (sz : Nat) (x : Nat) (p0 : Int32) (p1 : Int32) (sg : Nat) (mw : Nat) (fs_x : List Value) (fs_sg : List Value) (fs_mw : List Value) (h_x_mews : fs_x[3]? = some (.ref mw)) (h_x_sightings : fs_x[12]? = some (.ref sg)) (h_sg_count : fs_sg[0]? = some (.int 0)) (h_sg_foreseen : fs_sg[7]? = some (.int 0)) (h_sg_anyCats : fs_sg[8]? = some (.int 0)) (h_mw_cats : fs_mw[0]? = some (.int 0)) (h_mw_tenants : fs_mw[2]? = some (.int 0)) : Met l yX8_sure wsX8_sure ({ frames := 1, cells := 0, slots := 0, locals := 26 }) (va_Pc [.ref x, .int p0, .int p1] (kPre D g [(x, .inr (8, fs_x)), (sg, .inr (6, fs_sg)), (mw, .inr (4, fs_mw))] sz)) (kQi D g (fun (r : Int32) (u : va_W) => (-1) = r) (va_A [(x, .inr (8, fs_x)), (sg, .inr (6, fs_sg)), (mw, .inr (4, fs_mw))] sz)) 0 0 (va_A [(x, .inr (8, fs_x)), (sg, .inr (6, fs_sg)), (mw, .inr (4, fs_mw))] sz) := by
  refine k_headQ (cc := cX8_sure) (maxL := 5) (ret := (some .int)) (by decide) rfl (Nat.le_of_ble_eq_true rfl) ?_
  intro p e s m below meth c ls A Q ar hQ hx hb hr hlocks hml hown hin hts hA hP hK hD hS hl
  have hown : s.vm.findClass RX8 = some m.cls := hown
  have hl : lv_has ls 5 [(0, .ref x), (1, .int p0), (2, .int p1)] := hl
  refine lv_iload_n hx hb dX8_sure_0 rfl (lv_at hl 1 rfl) ?_
  refine lv_if_lt (tgt := 9) hx hb dX8_sure_1 (by decide) (fun c_1 => ?_) (fun c_1 => ?_)
  · refine lv_iconst (v := (-1)) hx hb dX8_sure_9 (by decide) ?_
    rw [hQ]
    exact k_iret hx hb hr hlocks hK hP hD hS rfl dX8_sure_10
  · refine lv_iload_n hx hb dX8_sure_4 rfl (lv_at hl 1 rfl) ?_
    refine lv_iconst (v := 1) hx hb dX8_sure_5 (by decide) ?_
    refine lv_icmp_le (tgt := 11) hx hb dX8_sure_6 (by decide) (fun c_2 => ?_) (fun c_2 => ?_)
    · refine lv_aload_n hx hb dX8_sure_11 rfl (lv_at hl 0 rfl) ?_
      refine va_get (D := D) (ci := 8) (v := .ref sg) (C := RX8) (T := TX8) (N := 14) hx hb hts iX8_sure_X8 hown hK hP 0 rfl rfl 12 (by decide) (hts (.fieldLink RX8 76 "CatLeases" "sightings" "LCatLeases$Sightings;") (List.mem_of_getElem? (i := 1) rfl)) (fun _ h9 => h9) h_x_sightings dX8_sure_12 ?_
      refine lv_aload_n hx hb dX8_sure_15 rfl (lv_at hl 0 rfl) ?_
      refine va_get (D := D) (ci := 8) (v := .ref mw) (C := RX8) (T := TX8) (N := 14) hx hb hts iX8_sure_X8 hown hK hP 0 rfl rfl 3 (by decide) (hts (.fieldLink RX8 27 "CatLeases" "mews" "LCatLeases$Mews;") (List.mem_of_getElem? (i := 2) rfl)) (fun _ h9 => h9) h_x_mews dX8_sure_16 ?_
      refine k_gov (wr := [(x, .inr (8, fs_x))]) hP hD hS hA [1, 2] [0] rfl rfl (by decide) (by decide) (va_runV (As := [.ref mw]) (rest := []) ⟨hx, hb, hml, hown, hts⟩ (c_foresee l D g _ sg mw fs_sg fs_mw h_sg_foreseen h_sg_anyCats h_mw_cats h_mw_tenants) (cwV 1 hts gX8_sure_X6_foresee rfl rfl rfl (by decide +kernel) ⟨Nat.le_of_ble_eq_true rfl, Nat.le_of_ble_eq_true rfl⟩) (k_preV hK (hP.sub [1, 2] rfl) (hD.sub [1, 2] (by decide) rfl) 6 0 rfl rfl) rfl rfl hl.1 rfl (lv_room (Nat.le_of_ble_eq_true rfl)) dX8_sure_19 ⟨(Nat.le_of_ble_eq_true rfl), (Nat.le_of_ble_eq_true rfl)⟩) (fun u_4 H locs hw hP hD hS => ?_)
      rcases hw with rfl
      have hP := hP.sub (ws' := [(x, .inr (8, fs_x)), (sg, .inr (6, ((fs_sg.set 7 (.int 1)).set 8 (.int 0)))), (mw, .inr (4, fs_mw))]) [0, 1, 2] rfl
      have hD := hD.sub (ws' := [(x, .inr (8, fs_x)), (sg, .inr (6, ((fs_sg.set 7 (.int 1)).set 8 (.int 0)))), (mw, .inr (4, fs_mw))]) [0, 1, 2] (by decide) rfl
      refine lv_iconst (v := 0) hx hb dX8_sure_22 (by decide) ?_
      refine lv_istore_n (lv' := [(3, .int 0), (0, .ref x), (1, .int p0), (2, .int p1)]) hx hb dX8_sure_23 rfl hl (by decide) rfl (fun ls hl => ?_)
      have hloop_9 : ∀ (n_6 i_5 : Nat), i_5 ≤ 100 → 100 < i_5 + n_6 → ∀ (H : Heap) (locs : List Loc) (ls : Array Slot), va_P D vwCl [(x, .inr (8, fs_x)), (sg, .inr (6, ((fs_sg.set 7 (.int 1)).set 8 (.int 0)))), (mw, .inr (4, fs_mw))] H → va_D A [(x, .inr (8, fs_x)), (sg, .inr (6, ((fs_sg.set 7 (.int 1)).set 8 (.int 0)))), (mw, .inr (4, fs_mw))] → va_S A s.heap H locs → lv_has ls 5 [(3, .int (nI i_5)), (0, .ref x), (1, .int p0), (2, .int p1)] → W p l e (headSpec wsX8_sure ({ frames := 1, cells := 0, slots := 0, locals := 26 })).room s m ar below meth c H locs 0 0 Q (F0 m 24 ls []) := by
        intro n_6
        induction n_6 with
        | zero =>
          intro i_5  h_7 h_8
          exact absurd h_8 (by omega)
        | succ n_6 ih =>
          intro i_5  h_7 h_8  H locs ls hP hD hS hl
          refine lv_iload_n hx hb dX8_sure_24 rfl (lv_at hl 0 rfl) ?_
          refine lv_bipush (v := 99) hx hb dX8_sure_25 (by decide) ?_
          refine lv_icmp_gt (tgt := 66) hx hb dX8_sure_27 (by decide) (fun c_10 => ?_) (fun c_10 => ?_)
          · have h_11 := k_gt1 (N := 99) rfl h_7 (by decide) c_10
            subst h_11
            refine lv_iconst (v := (-1)) hx hb dX8_sure_66 (by decide) ?_
            rw [hQ]
            exact k_iret hx hb hr hlocks hK hP hD hS rfl dX8_sure_67
          · have h_11 : i_5 < 100 := k_gt2 (N := 99) rfl (by decide) h_7 c_10
            refine lv_iload_n hx hb dX8_sure_30 rfl (lv_at hl 2 rfl) ?_
            refine lv_if_ne (tgt := 38) hx hb dX8_sure_31 (by decide) (fun c_12 => ?_) (fun c_12 => ?_)
            · refine lv_bipush (v := 99) hx hb dX8_sure_38 (by decide) ?_
              refine lv_iload_n hx hb dX8_sure_40 rfl (lv_at hl 0 rfl) ?_
              refine lv_isub hx hb dX8_sure_41 ?_
              refine lv_istore (lv' := [(4, .int (99 - (nI i_5))), (3, .int (nI i_5)), (0, .ref x), (1, .int p0), (2, .int p1)]) hx hb dX8_sure_42 hl (by decide) rfl (fun ls hl => ?_)
              refine lv_aload_n hx hb dX8_sure_44 rfl (lv_at hl 2 rfl) ?_
              refine va_get (D := D) (ci := 8) (v := .ref sg) (C := RX8) (T := TX8) (N := 14) hx hb hts iX8_sure_X8 hown hK hP 0 rfl rfl 12 (by decide) (hts (.fieldLink RX8 76 "CatLeases" "sightings" "LCatLeases$Sightings;") (List.mem_of_getElem? (i := 1) rfl)) (fun _ h9 => h9) h_x_sightings dX8_sure_45 ?_
              refine lv_iload hx hb dX8_sure_48 (lv_at hl 0 rfl) ?_
              refine lv_iload_n hx hb dX8_sure_50 rfl (lv_at hl 4 rfl) ?_
              refine k_goi (wr := [(x, .inr (8, fs_x)), (mw, .inr (4, fs_mw))]) hP hD hS hA [1] [0, 2] rfl rfl (by decide) (by decide) (va_runV (As := [.int (99 - (nI i_5)), .int p1]) (rest := []) ⟨hx, hb, hml, hown, hts⟩ (c_allow l D g _ sg (99 - (nI i_5)) p1 ((fs_sg.set 7 (.int 1)).set 8 (.int 0)) (k_sn (by decide) (k_sn (by decide) h_sg_count)) (k_ss (k_sn (by decide) h_sg_anyCats))) (cwV 2 hts gX8_sure_X6_allow rfl rfl rfl (by decide +kernel) ⟨Nat.le_of_ble_eq_true rfl, Nat.le_of_ble_eq_true rfl⟩) (k_preV hK (hP.sub [1] rfl) (hD.sub [1] (by decide) rfl) 6 0 rfl rfl) rfl rfl hl.1 rfl (lv_room (Nat.le_of_ble_eq_true rfl)) dX8_sure_51 ⟨(Nat.le_of_ble_eq_true rfl), (Nat.le_of_ble_eq_true rfl)⟩) (fun r_13 u_14 H locs hw hP hD hS => ?_)
              rcases hw with ⟨rfl, rfl⟩
              have hP := hP.sub (ws' := [(x, .inr (8, fs_x)), (sg, .inr (6, ((fs_sg.set 7 (.int 1)).set 8 (.int 0)))), (mw, .inr (4, fs_mw))]) [0, 2, 1] rfl
              have hD := hD.sub (ws' := [(x, .inr (8, fs_x)), (sg, .inr (6, ((fs_sg.set 7 (.int 1)).set 8 (.int 0)))), (mw, .inr (4, fs_mw))]) [0, 2, 1] (by decide) rfl
              refine lv_if_eq (tgt := 60) hx hb dX8_sure_54 (by decide) (fun _ => ?_) (fun c9 => absurd (by first | decide | rfl) c9)
              refine lv_iinc (v := nI (i_5 + 1)) (lv' := [(3, .int (nI (i_5 + 1))), (4, .int (99 - (nI i_5))), (0, .ref x), (1, .int p0), (2, .int p1)]) hx hb dX8_sure_60 hl (k := 1) rfl (k_inc i_5) (by decide) rfl (fun ls hl => ?_)
              refine lv_goto (tgt := 24) hx hb dX8_sure_63 (by decide) ?_
              exact ih (i_5 + 1)  (by omega) (by omega)  _ _ _ hP hD hS (lv_sub hl [0, 2, 3, 4] rfl)
            · refine lv_iload_n hx hb dX8_sure_34 rfl (lv_at hl 0 rfl) ?_
              refine lv_goto (tgt := 42) hx hb dX8_sure_35 (by decide) ?_
              refine lv_istore (lv' := [(4, .int (nI i_5)), (3, .int (nI i_5)), (0, .ref x), (1, .int p0), (2, .int p1)]) hx hb dX8_sure_42 hl (by decide) rfl (fun ls hl => ?_)
              refine lv_aload_n hx hb dX8_sure_44 rfl (lv_at hl 2 rfl) ?_
              refine va_get (D := D) (ci := 8) (v := .ref sg) (C := RX8) (T := TX8) (N := 14) hx hb hts iX8_sure_X8 hown hK hP 0 rfl rfl 12 (by decide) (hts (.fieldLink RX8 76 "CatLeases" "sightings" "LCatLeases$Sightings;") (List.mem_of_getElem? (i := 1) rfl)) (fun _ h9 => h9) h_x_sightings dX8_sure_45 ?_
              refine lv_iload hx hb dX8_sure_48 (lv_at hl 0 rfl) ?_
              refine lv_iload_n hx hb dX8_sure_50 rfl (lv_at hl 4 rfl) ?_
              refine k_goi (wr := [(x, .inr (8, fs_x)), (mw, .inr (4, fs_mw))]) hP hD hS hA [1] [0, 2] rfl rfl (by decide) (by decide) (va_runV (As := [.int (nI i_5), .int p1]) (rest := []) ⟨hx, hb, hml, hown, hts⟩ (c_allow l D g _ sg (nI i_5) p1 ((fs_sg.set 7 (.int 1)).set 8 (.int 0)) (k_sn (by decide) (k_sn (by decide) h_sg_count)) (k_ss (k_sn (by decide) h_sg_anyCats))) (cwV 2 hts gX8_sure_X6_allow rfl rfl rfl (by decide +kernel) ⟨Nat.le_of_ble_eq_true rfl, Nat.le_of_ble_eq_true rfl⟩) (k_preV hK (hP.sub [1] rfl) (hD.sub [1] (by decide) rfl) 6 0 rfl rfl) rfl rfl hl.1 rfl (lv_room (Nat.le_of_ble_eq_true rfl)) dX8_sure_51 ⟨(Nat.le_of_ble_eq_true rfl), (Nat.le_of_ble_eq_true rfl)⟩) (fun r_15 u_16 H locs hw hP hD hS => ?_)
              rcases hw with ⟨rfl, rfl⟩
              have hP := hP.sub (ws' := [(x, .inr (8, fs_x)), (sg, .inr (6, ((fs_sg.set 7 (.int 1)).set 8 (.int 0)))), (mw, .inr (4, fs_mw))]) [0, 2, 1] rfl
              have hD := hD.sub (ws' := [(x, .inr (8, fs_x)), (sg, .inr (6, ((fs_sg.set 7 (.int 1)).set 8 (.int 0)))), (mw, .inr (4, fs_mw))]) [0, 2, 1] (by decide) rfl
              refine lv_if_eq (tgt := 60) hx hb dX8_sure_54 (by decide) (fun _ => ?_) (fun c9 => absurd (by first | decide | rfl) c9)
              refine lv_iinc (v := nI (i_5 + 1)) (lv' := [(3, .int (nI (i_5 + 1))), (4, .int (nI i_5)), (0, .ref x), (1, .int p0), (2, .int p1)]) hx hb dX8_sure_60 hl (k := 1) rfl (k_inc i_5) (by decide) rfl (fun ls hl => ?_)
              refine lv_goto (tgt := 24) hx hb dX8_sure_63 (by decide) ?_
              exact ih (i_5 + 1)  (by omega) (by omega)  _ _ _ hP hD hS (lv_sub hl [0, 2, 3, 4] rfl)
      exact hloop_9 (100 + 1) 0  (by omega) (by omega)  _ _ _ hP hD hS hl
    · refine lv_iconst (v := (-1)) hx hb dX8_sure_9 (by decide) ?_
      rw [hQ]
      exact k_iret hx hb hr hlocks hK hP hD hS rfl dX8_sure_10
set_option maxHeartbeats 4000000 in
set_option maxRecDepth 100000 in
theorem c_ask (l : Launch) (D : va_G) (g : Nat → ClassId) (sz : Nat) (x : Nat) (p0 : Int32) (p1 : Int32) (p2 : Int32) (sg : Nat) (mw : Nat) (fs_x : List Value) (fs_sg : List Value) (fs_mw : List Value) (h_x_mews : fs_x[3]? = some (.ref mw)) (h_x_sightings : fs_x[12]? = some (.ref sg)) (h_sg_count : fs_sg[0]? = some (.int 0)) (h_sg_foreseen : fs_sg[7]? = some (.int 0)) (h_sg_anyCats : fs_sg[8]? = some (.int 0)) (h_mw_cats : fs_mw[0]? = some (.int 0)) (h_mw_tenants : fs_mw[2]? = some (.int 0)) : Met l yX8_ask wsX8_ask ({ frames := 2, cells := 0, slots := 0, locals := 49 }) (va_Pc [.ref x, .int p0, .int p1, .int p2] (kPre D g [(x, .inr (8, fs_x)), (sg, .inr (6, fs_sg)), (mw, .inr (4, fs_mw))] sz)) (kQi D g (fun (r : Int32) (u : va_W) => (-1) = r) (va_A [(x, .inr (8, fs_x)), (sg, .inr (6, fs_sg)), (mw, .inr (4, fs_mw))] sz)) 0 0 (va_A [(x, .inr (8, fs_x)), (sg, .inr (6, fs_sg)), (mw, .inr (4, fs_mw))] sz) := by
  refine k_head (cc := cX8_ask) (maxL := 10) (ret := (some .int)) (by decide) rfl (Nat.le_of_ble_eq_true rfl) ?_
  intro p e s m below meth c ls A hx hb hr hlocks hml hown hin hts hA hP hK hD hS hl
  have hown : s.vm.findClass RX8 = some m.cls := hown
  have hl : lv_has ls 10 [(0, .ref x), (1, .int p0), (2, .int p1), (3, .int p2)] := hl
  refine lv_iload_n hx hb dX8_ask_0 rfl (lv_at hl 1 rfl) ?_
  refine k_goi (wr := [(x, .inr (8, fs_x)), (sg, .inr (6, fs_sg)), (mw, .inr (4, fs_mw))]) hP hD hS hA [] [0, 1, 2] rfl rfl (by decide) (by decide) (va_runS (As := [.int p0]) (rest := []) ⟨hx, hb, hml, hown, hts⟩ (c_isSeenQuarter l D g _ p0) (va_cwS 1 hts gX8_ask_X8_isSeenQuarter rfl rfl rfl (by decide +kernel) ⟨Nat.le_of_ble_eq_true rfl, Nat.le_of_ble_eq_true rfl⟩) (k_preS hK (hP.sub [] rfl) (hD.sub [] (by decide) rfl)) rfl rfl hl.1 rfl (lv_room (Nat.le_of_ble_eq_true rfl)) dX8_ask_1 ⟨(Nat.le_of_ble_eq_true rfl), (Nat.le_of_ble_eq_true rfl)⟩) (fun r_1 u_2 H locs hw hP hD hS => ?_)
  rcases hw with ⟨c_3, rfl, rfl⟩ | ⟨c_4, c_5, rfl, rfl⟩ | ⟨c_6, c_7, rfl, rfl⟩
  · have hP := hP.sub (ws' := [(x, .inr (8, fs_x)), (sg, .inr (6, fs_sg)), (mw, .inr (4, fs_mw))]) [0, 1, 2] rfl
    have hD := hD.sub (ws' := [(x, .inr (8, fs_x)), (sg, .inr (6, fs_sg)), (mw, .inr (4, fs_mw))]) [0, 1, 2] (by decide) rfl
    refine lv_if_eq (tgt := 16) hx hb dX8_ask_4 (by decide) (fun _ => ?_) (fun c9 => absurd (by first | decide | rfl) c9)
    refine lv_iconst (v := (-1)) hx hb dX8_ask_16 (by decide) ?_
    exact k_iret hx hb hr hlocks hK hP hD hS rfl dX8_ask_17
  · have hP := hP.sub (ws' := [(x, .inr (8, fs_x)), (sg, .inr (6, fs_sg)), (mw, .inr (4, fs_mw))]) [0, 1, 2] rfl
    have hD := hD.sub (ws' := [(x, .inr (8, fs_x)), (sg, .inr (6, fs_sg)), (mw, .inr (4, fs_mw))]) [0, 1, 2] (by decide) rfl
    refine lv_if_eq (tgt := 16) hx hb dX8_ask_4 (by decide) (fun _ => ?_) (fun c9 => absurd (by first | decide | rfl) c9)
    refine lv_iconst (v := (-1)) hx hb dX8_ask_16 (by decide) ?_
    exact k_iret hx hb hr hlocks hK hP hD hS rfl dX8_ask_17
  · have hP := hP.sub (ws' := [(x, .inr (8, fs_x)), (sg, .inr (6, fs_sg)), (mw, .inr (4, fs_mw))]) [0, 1, 2] rfl
    have hD := hD.sub (ws' := [(x, .inr (8, fs_x)), (sg, .inr (6, fs_sg)), (mw, .inr (4, fs_mw))]) [0, 1, 2] (by decide) rfl
    refine lv_if_eq (tgt := 16) hx hb dX8_ask_4 (by decide) (fun c9 => absurd c9 (by first | decide | simp)) (fun _ => ?_)
    refine lv_iload_n hx hb dX8_ask_7 rfl (lv_at hl 2 rfl) ?_
    refine lv_if_lt (tgt := 16) hx hb dX8_ask_8 (by decide) (fun c_8 => ?_) (fun c_8 => ?_)
    · refine lv_iconst (v := (-1)) hx hb dX8_ask_16 (by decide) ?_
      exact k_iret hx hb hr hlocks hK hP hD hS rfl dX8_ask_17
    · refine lv_iload_n hx hb dX8_ask_11 rfl (lv_at hl 2 rfl) ?_
      refine lv_iconst (v := 1) hx hb dX8_ask_12 (by decide) ?_
      refine lv_icmp_le (tgt := 18) hx hb dX8_ask_13 (by decide) (fun c_9 => ?_) (fun c_9 => ?_)
      · refine lv_aload_n hx hb dX8_ask_18 rfl (lv_at hl 0 rfl) ?_
        refine lv_iload_n hx hb dX8_ask_19 rfl (lv_at hl 3 rfl) ?_
        refine k_goi (wr := []) hP hD hS hA [0, 1, 2] [] rfl rfl (by decide) (by decide) (va_runV (As := [.int p2]) (rest := []) ⟨hx, hb, hml, hown, hts⟩ (c_fits l D g _ x p2 sg mw fs_x fs_sg fs_mw h_x_mews h_x_sightings h_sg_count h_sg_foreseen h_sg_anyCats h_mw_cats h_mw_tenants) (cwV 1 hts gX8_ask_X8_fits rfl rfl rfl (by decide +kernel) ⟨Nat.le_of_ble_eq_true rfl, Nat.le_of_ble_eq_true rfl⟩) (k_preV hK (hP.sub [0, 1, 2] rfl) (hD.sub [0, 1, 2] (by decide) rfl) 8 0 rfl rfl) rfl rfl hl.1 rfl (lv_room (Nat.le_of_ble_eq_true rfl)) dX8_ask_20 ⟨(Nat.le_of_ble_eq_true rfl), (Nat.le_of_ble_eq_true rfl)⟩) (fun r_10 u_11 H locs hw hP hD hS => ?_)
        rcases hw with ⟨rfl, rfl⟩
        have hP := hP.sub (ws' := [(x, .inr (8, fs_x)), (sg, .inr (6, ((fs_sg.set 7 (.int 1)).set 8 (.int 0)))), (mw, .inr (4, fs_mw))]) [0, 1, 2] rfl
        have hD := hD.sub (ws' := [(x, .inr (8, fs_x)), (sg, .inr (6, ((fs_sg.set 7 (.int 1)).set 8 (.int 0)))), (mw, .inr (4, fs_mw))]) [0, 1, 2] (by decide) rfl
        refine lv_istore (lv' := [(4, .int 0), (0, .ref x), (1, .int p0), (2, .int p1), (3, .int p2)]) hx hb dX8_ask_23 hl (by decide) rfl (fun ls hl => ?_)
        refine lv_iload hx hb dX8_ask_25 (lv_at hl 0 rfl) ?_
        refine lv_if_ne (tgt := 32) hx hb dX8_ask_27 (by decide) (fun c9 => absurd (by first | decide | rfl) c9) (fun _ => ?_)
        refine lv_iconst (v := (-1)) hx hb dX8_ask_30 (by decide) ?_
        exact k_iret hx hb hr hlocks hK hP hD hS rfl dX8_ask_31
      · refine lv_iconst (v := (-1)) hx hb dX8_ask_16 (by decide) ?_
        exact k_iret hx hb hr hlocks hK hP hD hS rfl dX8_ask_17
set_option maxHeartbeats 4000000 in
set_option maxRecDepth 100000 in
theorem c_put0 (l : Launch) (D : va_G) (g : Nat → ClassId) (sz : Nat) (x : Nat) (p0 : Int32) (tp : Nat) (fs_x : List Value) (f_tp : Nat → Int32) (h_x_tape : fs_x[0]? = some (.ref tp)) (h_x_tapeLength : fs_x[1]? = some (.int 0)) : Met l yX8_putOnTape wsX8_putOnTape ({ frames := 0, cells := 0, slots := 0, locals := 0 }) (va_Pc [.ref x, .int p0] (kPre D g [(x, .inr (8, fs_x)), (tp, .inl (g 0, 1600, .inl f_tp))] sz)) (kQv D g (fun (u : va_W) => ∃ (fe_tp : Nat → Int32), u = [(x, .inr (8, ((((fs_x.set 1 (.int 1)).set 1 (.int 2)).set 1 (.int 3)).set 1 (.int 4)))), (tp, .inl (g 0, 1600, .inl fe_tp))]) (va_A [(x, .inr (8, fs_x)), (tp, .inl (g 0, 1600, .inl f_tp))] sz)) 0 0 (va_A [(x, .inr (8, fs_x)), (tp, .inl (g 0, 1600, .inl f_tp))] sz) := by
  refine k_head (cc := cX8_putOnTape) (maxL := 3) (ret := none) (by decide) rfl (Nat.le_of_ble_eq_true rfl) ?_
  intro p e s m below meth c ls A hx hb hr hlocks hml hown hin hts hA hP hK hD hS hl
  have hown : s.vm.findClass RX8 = some m.cls := hown
  have hl : lv_has ls 3 [(0, .ref x), (1, .int p0)] := hl
  refine lv_bipush (v := 24) hx hb dX8_putOnTape_0 (by decide) ?_
  refine lv_istore_n (lv' := [(2, .int 24), (0, .ref x), (1, .int p0)]) hx hb dX8_putOnTape_2 rfl hl (by decide) rfl (fun ls hl => ?_)
  refine lv_iload_n hx hb dX8_putOnTape_3 rfl (lv_at hl 0 rfl) ?_
  refine lv_if_lt (tgt := 48) hx hb dX8_putOnTape_4 (by decide) (fun c9 => absurd c9 (by first | decide | simp)) (fun _ => ?_)
  refine lv_aload_n hx hb dX8_putOnTape_7 rfl (lv_at hl 1 rfl) ?_
  refine va_get (D := D) (ci := 8) (v := .int 0) (C := RX8) (T := TX8) (N := 14) hx hb hts iX8_putOnTape_X8 hown hK hP 0 rfl rfl 1 (by decide) (hts (.fieldLink RX8 13 "CatLeases" "tapeLength" "I") (List.mem_of_getElem? (i := 1) rfl)) (fun _ h9 => h9) h_x_tapeLength dX8_putOnTape_8 ?_
  refine lv_aload_n hx hb dX8_putOnTape_11 rfl (lv_at hl 1 rfl) ?_
  refine va_get (D := D) (ci := 8) (v := .ref tp) (C := RX8) (T := TX8) (N := 14) hx hb hts iX8_putOnTape_X8 hown hK hP 0 rfl rfl 0 (by decide) (hts (.fieldLink RX8 9 "CatLeases" "tape" "[B") (List.mem_of_getElem? (i := 2) rfl)) (fun _ h9 => h9) h_x_tape dX8_putOnTape_12 ?_
  refine va_alen (v := 1600) hx hb hK hP 1 0 rfl rfl rfl dX8_putOnTape_15 ?_
  refine lv_icmp_ge (tgt := 42) hx hb dX8_putOnTape_16 (by decide) (fun c9 => absurd c9 (by first | decide | simp)) (fun _ => ?_)
  refine lv_aload_n hx hb dX8_putOnTape_19 rfl (lv_at hl 1 rfl) ?_
  refine va_get (D := D) (ci := 8) (v := .ref tp) (C := RX8) (T := TX8) (N := 14) hx hb hts iX8_putOnTape_X8 hown hK hP 0 rfl rfl 0 (by decide) (hts (.fieldLink RX8 9 "CatLeases" "tape" "[B") (List.mem_of_getElem? (i := 2) rfl)) (fun _ h9 => h9) h_x_tape dX8_putOnTape_20 ?_
  refine lv_aload_n hx hb dX8_putOnTape_23 rfl (lv_at hl 1 rfl) ?_
  refine va_get (D := D) (ci := 8) (v := .int 0) (C := RX8) (T := TX8) (N := 14) hx hb hts iX8_putOnTape_X8 hown hK hP 0 rfl rfl 1 (by decide) (hts (.fieldLink RX8 13 "CatLeases" "tapeLength" "I") (List.mem_of_getElem? (i := 1) rfl)) (fun _ h9 => h9) h_x_tapeLength dX8_putOnTape_24 ?_
  refine lv_iload_n hx hb dX8_putOnTape_27 rfl (lv_at hl 2 rfl) ?_
  refine lv_iload_n hx hb dX8_putOnTape_28 rfl (lv_at hl 0 rfl) ?_
  obtain ⟨w_1, ew_1⟩ : ∃ z : Int32, (p0.toUInt32 >>> (Int32.toUInt32 24 &&& Int32.toUInt32 31)).toInt32 = z := ⟨_, rfl⟩
  refine lv_iushr (v := w_1) hx hb dX8_putOnTape_29 ew_1 ?_
  refine lv_i2b hx hb dX8_putOnTape_30 rfl ?_
  refine va_bast hx hb hK hP hD hS 1 0 rfl rfl (k_in (i := 0) (n := 1600) (by decide)) dX8_putOnTape_31 (fun H locs hP hD hS => ?_)
  have hP : va_P D vwCl [(x, .inr (8, fs_x)), (tp, .inl (g 0, 1600, .inl (upd f_tp 0 (vp_nar .byte w_1.toInt8.toInt32))))] H := hP
  have hD : va_D A [(x, .inr (8, fs_x)), (tp, .inl (g 0, 1600, .inl (upd f_tp 0 (vp_nar .byte w_1.toInt8.toInt32))))] := hD
  refine lv_aload_n hx hb dX8_putOnTape_32 rfl (lv_at hl 1 rfl) ?_
  refine lv_dup hx hb dX8_putOnTape_33 rfl ?_
  refine va_get (D := D) (ci := 8) (v := .int 0) (C := RX8) (T := TX8) (N := 14) hx hb hts iX8_putOnTape_X8 hown hK hP 0 rfl rfl 1 (by decide) (hts (.fieldLink RX8 13 "CatLeases" "tapeLength" "I") (List.mem_of_getElem? (i := 1) rfl)) (fun _ h9 => h9) h_x_tapeLength dX8_putOnTape_34 ?_
  refine lv_iconst (v := 1) hx hb dX8_putOnTape_37 (by decide) ?_
  refine lv_iadd hx hb dX8_putOnTape_38 ?_
  refine k_top (v := 1) (by decide) ?_
  refine va_put (D := D) (ci := 8) (v := .int 1) (ty := .int) (C := RX8) (T := TX8) (N := 14) hx hb hts iX8_putOnTape_X8 tyX8 tyX8_ok nmX8 hown hK hP hD hS 0 rfl rfl 1 (by decide) (hts (.fieldLink RX8 13 "CatLeases" "tapeLength" "I") (List.mem_of_getElem? (i := 1) rfl)) (fun _ h9 => h9) rfl (by decide +kernel) rfl rfl ((k_len h_x_tapeLength)) dX8_putOnTape_39 (fun H locs hP hD hS => ?_)
  have hP : va_P D vwCl [(x, .inr (8, (fs_x.set 1 (.int 1)))), (tp, .inl (g 0, 1600, .inl (upd f_tp 0 (vp_nar .byte w_1.toInt8.toInt32))))] H := hP
  have hD : va_D A [(x, .inr (8, (fs_x.set 1 (.int 1)))), (tp, .inl (g 0, 1600, .inl (upd f_tp 0 (vp_nar .byte w_1.toInt8.toInt32))))] := hD
  refine lv_iinc (v := 16) (lv' := [(2, .int 16), (0, .ref x), (1, .int p0)]) hx hb dX8_putOnTape_42 hl (k := 0) rfl (by decide) (by decide) rfl (fun ls hl => ?_)
  refine lv_goto (tgt := 3) hx hb dX8_putOnTape_45 (by decide) ?_
  refine lv_iload_n hx hb dX8_putOnTape_3 rfl (lv_at hl 0 rfl) ?_
  refine lv_if_lt (tgt := 48) hx hb dX8_putOnTape_4 (by decide) (fun c9 => absurd c9 (by first | decide | simp)) (fun _ => ?_)
  refine lv_aload_n hx hb dX8_putOnTape_7 rfl (lv_at hl 1 rfl) ?_
  refine va_get (D := D) (ci := 8) (v := .int 1) (C := RX8) (T := TX8) (N := 14) hx hb hts iX8_putOnTape_X8 hown hK hP 0 rfl rfl 1 (by decide) (hts (.fieldLink RX8 13 "CatLeases" "tapeLength" "I") (List.mem_of_getElem? (i := 1) rfl)) (fun _ h9 => h9) (k_ss h_x_tapeLength) dX8_putOnTape_8 ?_
  refine lv_aload_n hx hb dX8_putOnTape_11 rfl (lv_at hl 1 rfl) ?_
  refine va_get (D := D) (ci := 8) (v := .ref tp) (C := RX8) (T := TX8) (N := 14) hx hb hts iX8_putOnTape_X8 hown hK hP 0 rfl rfl 0 (by decide) (hts (.fieldLink RX8 9 "CatLeases" "tape" "[B") (List.mem_of_getElem? (i := 2) rfl)) (fun _ h9 => h9) (k_sn (by decide) h_x_tape) dX8_putOnTape_12 ?_
  refine va_alen (v := 1600) hx hb hK hP 1 0 rfl rfl rfl dX8_putOnTape_15 ?_
  refine lv_icmp_ge (tgt := 42) hx hb dX8_putOnTape_16 (by decide) (fun c9 => absurd c9 (by first | decide | simp)) (fun _ => ?_)
  refine lv_aload_n hx hb dX8_putOnTape_19 rfl (lv_at hl 1 rfl) ?_
  refine va_get (D := D) (ci := 8) (v := .ref tp) (C := RX8) (T := TX8) (N := 14) hx hb hts iX8_putOnTape_X8 hown hK hP 0 rfl rfl 0 (by decide) (hts (.fieldLink RX8 9 "CatLeases" "tape" "[B") (List.mem_of_getElem? (i := 2) rfl)) (fun _ h9 => h9) (k_sn (by decide) h_x_tape) dX8_putOnTape_20 ?_
  refine lv_aload_n hx hb dX8_putOnTape_23 rfl (lv_at hl 1 rfl) ?_
  refine va_get (D := D) (ci := 8) (v := .int 1) (C := RX8) (T := TX8) (N := 14) hx hb hts iX8_putOnTape_X8 hown hK hP 0 rfl rfl 1 (by decide) (hts (.fieldLink RX8 13 "CatLeases" "tapeLength" "I") (List.mem_of_getElem? (i := 1) rfl)) (fun _ h9 => h9) (k_ss h_x_tapeLength) dX8_putOnTape_24 ?_
  refine lv_iload_n hx hb dX8_putOnTape_27 rfl (lv_at hl 2 rfl) ?_
  refine lv_iload_n hx hb dX8_putOnTape_28 rfl (lv_at hl 0 rfl) ?_
  obtain ⟨w_2, ew_2⟩ : ∃ z : Int32, (p0.toUInt32 >>> (Int32.toUInt32 16 &&& Int32.toUInt32 31)).toInt32 = z := ⟨_, rfl⟩
  refine lv_iushr (v := w_2) hx hb dX8_putOnTape_29 ew_2 ?_
  refine lv_i2b hx hb dX8_putOnTape_30 rfl ?_
  refine va_bast hx hb hK hP hD hS 1 0 rfl rfl (k_in (i := 1) (n := 1600) (by decide)) dX8_putOnTape_31 (fun H locs hP hD hS => ?_)
  have hP : va_P D vwCl [(x, .inr (8, (fs_x.set 1 (.int 1)))), (tp, .inl (g 0, 1600, .inl (upd (upd f_tp 0 (vp_nar .byte w_1.toInt8.toInt32)) 1 (vp_nar .byte w_2.toInt8.toInt32))))] H := hP
  have hD : va_D A [(x, .inr (8, (fs_x.set 1 (.int 1)))), (tp, .inl (g 0, 1600, .inl (upd (upd f_tp 0 (vp_nar .byte w_1.toInt8.toInt32)) 1 (vp_nar .byte w_2.toInt8.toInt32))))] := hD
  refine lv_aload_n hx hb dX8_putOnTape_32 rfl (lv_at hl 1 rfl) ?_
  refine lv_dup hx hb dX8_putOnTape_33 rfl ?_
  refine va_get (D := D) (ci := 8) (v := .int 1) (C := RX8) (T := TX8) (N := 14) hx hb hts iX8_putOnTape_X8 hown hK hP 0 rfl rfl 1 (by decide) (hts (.fieldLink RX8 13 "CatLeases" "tapeLength" "I") (List.mem_of_getElem? (i := 1) rfl)) (fun _ h9 => h9) (k_ss h_x_tapeLength) dX8_putOnTape_34 ?_
  refine lv_iconst (v := 1) hx hb dX8_putOnTape_37 (by decide) ?_
  refine lv_iadd hx hb dX8_putOnTape_38 ?_
  refine k_top (v := 2) (by decide) ?_
  refine va_put (D := D) (ci := 8) (v := .int 2) (ty := .int) (C := RX8) (T := TX8) (N := 14) hx hb hts iX8_putOnTape_X8 tyX8 tyX8_ok nmX8 hown hK hP hD hS 0 rfl rfl 1 (by decide) (hts (.fieldLink RX8 13 "CatLeases" "tapeLength" "I") (List.mem_of_getElem? (i := 1) rfl)) (fun _ h9 => h9) rfl (by decide +kernel) rfl rfl ((k_len (k_ss h_x_tapeLength))) dX8_putOnTape_39 (fun H locs hP hD hS => ?_)
  have hP : va_P D vwCl [(x, .inr (8, ((fs_x.set 1 (.int 1)).set 1 (.int 2)))), (tp, .inl (g 0, 1600, .inl (upd (upd f_tp 0 (vp_nar .byte w_1.toInt8.toInt32)) 1 (vp_nar .byte w_2.toInt8.toInt32))))] H := hP
  have hD : va_D A [(x, .inr (8, ((fs_x.set 1 (.int 1)).set 1 (.int 2)))), (tp, .inl (g 0, 1600, .inl (upd (upd f_tp 0 (vp_nar .byte w_1.toInt8.toInt32)) 1 (vp_nar .byte w_2.toInt8.toInt32))))] := hD
  refine lv_iinc (v := 8) (lv' := [(2, .int 8), (0, .ref x), (1, .int p0)]) hx hb dX8_putOnTape_42 hl (k := 0) rfl (by decide) (by decide) rfl (fun ls hl => ?_)
  refine lv_goto (tgt := 3) hx hb dX8_putOnTape_45 (by decide) ?_
  refine lv_iload_n hx hb dX8_putOnTape_3 rfl (lv_at hl 0 rfl) ?_
  refine lv_if_lt (tgt := 48) hx hb dX8_putOnTape_4 (by decide) (fun c9 => absurd c9 (by first | decide | simp)) (fun _ => ?_)
  refine lv_aload_n hx hb dX8_putOnTape_7 rfl (lv_at hl 1 rfl) ?_
  refine va_get (D := D) (ci := 8) (v := .int 2) (C := RX8) (T := TX8) (N := 14) hx hb hts iX8_putOnTape_X8 hown hK hP 0 rfl rfl 1 (by decide) (hts (.fieldLink RX8 13 "CatLeases" "tapeLength" "I") (List.mem_of_getElem? (i := 1) rfl)) (fun _ h9 => h9) (k_ss (k_ss h_x_tapeLength)) dX8_putOnTape_8 ?_
  refine lv_aload_n hx hb dX8_putOnTape_11 rfl (lv_at hl 1 rfl) ?_
  refine va_get (D := D) (ci := 8) (v := .ref tp) (C := RX8) (T := TX8) (N := 14) hx hb hts iX8_putOnTape_X8 hown hK hP 0 rfl rfl 0 (by decide) (hts (.fieldLink RX8 9 "CatLeases" "tape" "[B") (List.mem_of_getElem? (i := 2) rfl)) (fun _ h9 => h9) (k_sn (by decide) (k_sn (by decide) h_x_tape)) dX8_putOnTape_12 ?_
  refine va_alen (v := 1600) hx hb hK hP 1 0 rfl rfl rfl dX8_putOnTape_15 ?_
  refine lv_icmp_ge (tgt := 42) hx hb dX8_putOnTape_16 (by decide) (fun c9 => absurd c9 (by first | decide | simp)) (fun _ => ?_)
  refine lv_aload_n hx hb dX8_putOnTape_19 rfl (lv_at hl 1 rfl) ?_
  refine va_get (D := D) (ci := 8) (v := .ref tp) (C := RX8) (T := TX8) (N := 14) hx hb hts iX8_putOnTape_X8 hown hK hP 0 rfl rfl 0 (by decide) (hts (.fieldLink RX8 9 "CatLeases" "tape" "[B") (List.mem_of_getElem? (i := 2) rfl)) (fun _ h9 => h9) (k_sn (by decide) (k_sn (by decide) h_x_tape)) dX8_putOnTape_20 ?_
  refine lv_aload_n hx hb dX8_putOnTape_23 rfl (lv_at hl 1 rfl) ?_
  refine va_get (D := D) (ci := 8) (v := .int 2) (C := RX8) (T := TX8) (N := 14) hx hb hts iX8_putOnTape_X8 hown hK hP 0 rfl rfl 1 (by decide) (hts (.fieldLink RX8 13 "CatLeases" "tapeLength" "I") (List.mem_of_getElem? (i := 1) rfl)) (fun _ h9 => h9) (k_ss (k_ss h_x_tapeLength)) dX8_putOnTape_24 ?_
  refine lv_iload_n hx hb dX8_putOnTape_27 rfl (lv_at hl 2 rfl) ?_
  refine lv_iload_n hx hb dX8_putOnTape_28 rfl (lv_at hl 0 rfl) ?_
  obtain ⟨w_3, ew_3⟩ : ∃ z : Int32, (p0.toUInt32 >>> (Int32.toUInt32 8 &&& Int32.toUInt32 31)).toInt32 = z := ⟨_, rfl⟩
  refine lv_iushr (v := w_3) hx hb dX8_putOnTape_29 ew_3 ?_
  refine lv_i2b hx hb dX8_putOnTape_30 rfl ?_
  refine va_bast hx hb hK hP hD hS 1 0 rfl rfl (k_in (i := 2) (n := 1600) (by decide)) dX8_putOnTape_31 (fun H locs hP hD hS => ?_)
  have hP : va_P D vwCl [(x, .inr (8, ((fs_x.set 1 (.int 1)).set 1 (.int 2)))), (tp, .inl (g 0, 1600, .inl (upd (upd (upd f_tp 0 (vp_nar .byte w_1.toInt8.toInt32)) 1 (vp_nar .byte w_2.toInt8.toInt32)) 2 (vp_nar .byte w_3.toInt8.toInt32))))] H := hP
  have hD : va_D A [(x, .inr (8, ((fs_x.set 1 (.int 1)).set 1 (.int 2)))), (tp, .inl (g 0, 1600, .inl (upd (upd (upd f_tp 0 (vp_nar .byte w_1.toInt8.toInt32)) 1 (vp_nar .byte w_2.toInt8.toInt32)) 2 (vp_nar .byte w_3.toInt8.toInt32))))] := hD
  refine lv_aload_n hx hb dX8_putOnTape_32 rfl (lv_at hl 1 rfl) ?_
  refine lv_dup hx hb dX8_putOnTape_33 rfl ?_
  refine va_get (D := D) (ci := 8) (v := .int 2) (C := RX8) (T := TX8) (N := 14) hx hb hts iX8_putOnTape_X8 hown hK hP 0 rfl rfl 1 (by decide) (hts (.fieldLink RX8 13 "CatLeases" "tapeLength" "I") (List.mem_of_getElem? (i := 1) rfl)) (fun _ h9 => h9) (k_ss (k_ss h_x_tapeLength)) dX8_putOnTape_34 ?_
  refine lv_iconst (v := 1) hx hb dX8_putOnTape_37 (by decide) ?_
  refine lv_iadd hx hb dX8_putOnTape_38 ?_
  refine k_top (v := 3) (by decide) ?_
  refine va_put (D := D) (ci := 8) (v := .int 3) (ty := .int) (C := RX8) (T := TX8) (N := 14) hx hb hts iX8_putOnTape_X8 tyX8 tyX8_ok nmX8 hown hK hP hD hS 0 rfl rfl 1 (by decide) (hts (.fieldLink RX8 13 "CatLeases" "tapeLength" "I") (List.mem_of_getElem? (i := 1) rfl)) (fun _ h9 => h9) rfl (by decide +kernel) rfl rfl ((k_len (k_ss (k_ss h_x_tapeLength)))) dX8_putOnTape_39 (fun H locs hP hD hS => ?_)
  have hP : va_P D vwCl [(x, .inr (8, (((fs_x.set 1 (.int 1)).set 1 (.int 2)).set 1 (.int 3)))), (tp, .inl (g 0, 1600, .inl (upd (upd (upd f_tp 0 (vp_nar .byte w_1.toInt8.toInt32)) 1 (vp_nar .byte w_2.toInt8.toInt32)) 2 (vp_nar .byte w_3.toInt8.toInt32))))] H := hP
  have hD : va_D A [(x, .inr (8, (((fs_x.set 1 (.int 1)).set 1 (.int 2)).set 1 (.int 3)))), (tp, .inl (g 0, 1600, .inl (upd (upd (upd f_tp 0 (vp_nar .byte w_1.toInt8.toInt32)) 1 (vp_nar .byte w_2.toInt8.toInt32)) 2 (vp_nar .byte w_3.toInt8.toInt32))))] := hD
  refine lv_iinc (v := 0) (lv' := [(2, .int 0), (0, .ref x), (1, .int p0)]) hx hb dX8_putOnTape_42 hl (k := 0) rfl (by decide) (by decide) rfl (fun ls hl => ?_)
  refine lv_goto (tgt := 3) hx hb dX8_putOnTape_45 (by decide) ?_
  refine lv_iload_n hx hb dX8_putOnTape_3 rfl (lv_at hl 0 rfl) ?_
  refine lv_if_lt (tgt := 48) hx hb dX8_putOnTape_4 (by decide) (fun c9 => absurd c9 (by first | decide | simp)) (fun _ => ?_)
  refine lv_aload_n hx hb dX8_putOnTape_7 rfl (lv_at hl 1 rfl) ?_
  refine va_get (D := D) (ci := 8) (v := .int 3) (C := RX8) (T := TX8) (N := 14) hx hb hts iX8_putOnTape_X8 hown hK hP 0 rfl rfl 1 (by decide) (hts (.fieldLink RX8 13 "CatLeases" "tapeLength" "I") (List.mem_of_getElem? (i := 1) rfl)) (fun _ h9 => h9) (k_ss (k_ss (k_ss h_x_tapeLength))) dX8_putOnTape_8 ?_
  refine lv_aload_n hx hb dX8_putOnTape_11 rfl (lv_at hl 1 rfl) ?_
  refine va_get (D := D) (ci := 8) (v := .ref tp) (C := RX8) (T := TX8) (N := 14) hx hb hts iX8_putOnTape_X8 hown hK hP 0 rfl rfl 0 (by decide) (hts (.fieldLink RX8 9 "CatLeases" "tape" "[B") (List.mem_of_getElem? (i := 2) rfl)) (fun _ h9 => h9) (k_sn (by decide) (k_sn (by decide) (k_sn (by decide) h_x_tape))) dX8_putOnTape_12 ?_
  refine va_alen (v := 1600) hx hb hK hP 1 0 rfl rfl rfl dX8_putOnTape_15 ?_
  refine lv_icmp_ge (tgt := 42) hx hb dX8_putOnTape_16 (by decide) (fun c9 => absurd c9 (by first | decide | simp)) (fun _ => ?_)
  refine lv_aload_n hx hb dX8_putOnTape_19 rfl (lv_at hl 1 rfl) ?_
  refine va_get (D := D) (ci := 8) (v := .ref tp) (C := RX8) (T := TX8) (N := 14) hx hb hts iX8_putOnTape_X8 hown hK hP 0 rfl rfl 0 (by decide) (hts (.fieldLink RX8 9 "CatLeases" "tape" "[B") (List.mem_of_getElem? (i := 2) rfl)) (fun _ h9 => h9) (k_sn (by decide) (k_sn (by decide) (k_sn (by decide) h_x_tape))) dX8_putOnTape_20 ?_
  refine lv_aload_n hx hb dX8_putOnTape_23 rfl (lv_at hl 1 rfl) ?_
  refine va_get (D := D) (ci := 8) (v := .int 3) (C := RX8) (T := TX8) (N := 14) hx hb hts iX8_putOnTape_X8 hown hK hP 0 rfl rfl 1 (by decide) (hts (.fieldLink RX8 13 "CatLeases" "tapeLength" "I") (List.mem_of_getElem? (i := 1) rfl)) (fun _ h9 => h9) (k_ss (k_ss (k_ss h_x_tapeLength))) dX8_putOnTape_24 ?_
  refine lv_iload_n hx hb dX8_putOnTape_27 rfl (lv_at hl 2 rfl) ?_
  refine lv_iload_n hx hb dX8_putOnTape_28 rfl (lv_at hl 0 rfl) ?_
  obtain ⟨w_4, ew_4⟩ : ∃ z : Int32, (p0.toUInt32 >>> (Int32.toUInt32 0 &&& Int32.toUInt32 31)).toInt32 = z := ⟨_, rfl⟩
  refine lv_iushr (v := w_4) hx hb dX8_putOnTape_29 ew_4 ?_
  refine lv_i2b hx hb dX8_putOnTape_30 rfl ?_
  refine va_bast hx hb hK hP hD hS 1 0 rfl rfl (k_in (i := 3) (n := 1600) (by decide)) dX8_putOnTape_31 (fun H locs hP hD hS => ?_)
  have hP : va_P D vwCl [(x, .inr (8, (((fs_x.set 1 (.int 1)).set 1 (.int 2)).set 1 (.int 3)))), (tp, .inl (g 0, 1600, .inl (upd (upd (upd (upd f_tp 0 (vp_nar .byte w_1.toInt8.toInt32)) 1 (vp_nar .byte w_2.toInt8.toInt32)) 2 (vp_nar .byte w_3.toInt8.toInt32)) 3 (vp_nar .byte w_4.toInt8.toInt32))))] H := hP
  have hD : va_D A [(x, .inr (8, (((fs_x.set 1 (.int 1)).set 1 (.int 2)).set 1 (.int 3)))), (tp, .inl (g 0, 1600, .inl (upd (upd (upd (upd f_tp 0 (vp_nar .byte w_1.toInt8.toInt32)) 1 (vp_nar .byte w_2.toInt8.toInt32)) 2 (vp_nar .byte w_3.toInt8.toInt32)) 3 (vp_nar .byte w_4.toInt8.toInt32))))] := hD
  refine lv_aload_n hx hb dX8_putOnTape_32 rfl (lv_at hl 1 rfl) ?_
  refine lv_dup hx hb dX8_putOnTape_33 rfl ?_
  refine va_get (D := D) (ci := 8) (v := .int 3) (C := RX8) (T := TX8) (N := 14) hx hb hts iX8_putOnTape_X8 hown hK hP 0 rfl rfl 1 (by decide) (hts (.fieldLink RX8 13 "CatLeases" "tapeLength" "I") (List.mem_of_getElem? (i := 1) rfl)) (fun _ h9 => h9) (k_ss (k_ss (k_ss h_x_tapeLength))) dX8_putOnTape_34 ?_
  refine lv_iconst (v := 1) hx hb dX8_putOnTape_37 (by decide) ?_
  refine lv_iadd hx hb dX8_putOnTape_38 ?_
  refine k_top (v := 4) (by decide) ?_
  refine va_put (D := D) (ci := 8) (v := .int 4) (ty := .int) (C := RX8) (T := TX8) (N := 14) hx hb hts iX8_putOnTape_X8 tyX8 tyX8_ok nmX8 hown hK hP hD hS 0 rfl rfl 1 (by decide) (hts (.fieldLink RX8 13 "CatLeases" "tapeLength" "I") (List.mem_of_getElem? (i := 1) rfl)) (fun _ h9 => h9) rfl (by decide +kernel) rfl rfl ((k_len (k_ss (k_ss (k_ss h_x_tapeLength))))) dX8_putOnTape_39 (fun H locs hP hD hS => ?_)
  have hP : va_P D vwCl [(x, .inr (8, ((((fs_x.set 1 (.int 1)).set 1 (.int 2)).set 1 (.int 3)).set 1 (.int 4)))), (tp, .inl (g 0, 1600, .inl (upd (upd (upd (upd f_tp 0 (vp_nar .byte w_1.toInt8.toInt32)) 1 (vp_nar .byte w_2.toInt8.toInt32)) 2 (vp_nar .byte w_3.toInt8.toInt32)) 3 (vp_nar .byte w_4.toInt8.toInt32))))] H := hP
  have hD : va_D A [(x, .inr (8, ((((fs_x.set 1 (.int 1)).set 1 (.int 2)).set 1 (.int 3)).set 1 (.int 4)))), (tp, .inl (g 0, 1600, .inl (upd (upd (upd (upd f_tp 0 (vp_nar .byte w_1.toInt8.toInt32)) 1 (vp_nar .byte w_2.toInt8.toInt32)) 2 (vp_nar .byte w_3.toInt8.toInt32)) 3 (vp_nar .byte w_4.toInt8.toInt32))))] := hD
  refine lv_iinc (v := (-8)) (lv' := [(2, .int (-8)), (0, .ref x), (1, .int p0)]) hx hb dX8_putOnTape_42 hl (k := 0) rfl (by decide) (by decide) rfl (fun ls hl => ?_)
  refine lv_goto (tgt := 3) hx hb dX8_putOnTape_45 (by decide) ?_
  refine lv_iload_n hx hb dX8_putOnTape_3 rfl (lv_at hl 0 rfl) ?_
  refine lv_if_lt (tgt := 48) hx hb dX8_putOnTape_4 (by decide) (fun _ => ?_) (fun c9 => absurd (by first | decide | rfl) c9)
  exact k_vret hx hb hr hlocks hK hP hD hS ⟨(upd (upd (upd (upd f_tp 0 (vp_nar .byte w_1.toInt8.toInt32)) 1 (vp_nar .byte w_2.toInt8.toInt32)) 2 (vp_nar .byte w_3.toInt8.toInt32)) 3 (vp_nar .byte w_4.toInt8.toInt32)), rfl⟩ dX8_putOnTape_48
set_option maxHeartbeats 4000000 in
set_option maxRecDepth 100000 in
theorem c_put4 (l : Launch) (D : va_G) (g : Nat → ClassId) (sz : Nat) (x : Nat) (p0 : Int32) (tp : Nat) (fs_x : List Value) (f_tp : Nat → Int32) (h_x_tape : fs_x[0]? = some (.ref tp)) (h_x_tapeLength : fs_x[1]? = some (.int 4)) : Met l yX8_putOnTape wsX8_putOnTape ({ frames := 0, cells := 0, slots := 0, locals := 0 }) (va_Pc [.ref x, .int p0] (kPre D g [(x, .inr (8, fs_x)), (tp, .inl (g 0, 1600, .inl f_tp))] sz)) (kQv D g (fun (u : va_W) => ∃ (fe_tp : Nat → Int32), u = [(x, .inr (8, ((((fs_x.set 1 (.int 5)).set 1 (.int 6)).set 1 (.int 7)).set 1 (.int 8)))), (tp, .inl (g 0, 1600, .inl fe_tp))]) (va_A [(x, .inr (8, fs_x)), (tp, .inl (g 0, 1600, .inl f_tp))] sz)) 0 0 (va_A [(x, .inr (8, fs_x)), (tp, .inl (g 0, 1600, .inl f_tp))] sz) := by
  refine k_head (cc := cX8_putOnTape) (maxL := 3) (ret := none) (by decide) rfl (Nat.le_of_ble_eq_true rfl) ?_
  intro p e s m below meth c ls A hx hb hr hlocks hml hown hin hts hA hP hK hD hS hl
  have hown : s.vm.findClass RX8 = some m.cls := hown
  have hl : lv_has ls 3 [(0, .ref x), (1, .int p0)] := hl
  refine lv_bipush (v := 24) hx hb dX8_putOnTape_0 (by decide) ?_
  refine lv_istore_n (lv' := [(2, .int 24), (0, .ref x), (1, .int p0)]) hx hb dX8_putOnTape_2 rfl hl (by decide) rfl (fun ls hl => ?_)
  refine lv_iload_n hx hb dX8_putOnTape_3 rfl (lv_at hl 0 rfl) ?_
  refine lv_if_lt (tgt := 48) hx hb dX8_putOnTape_4 (by decide) (fun c9 => absurd c9 (by first | decide | simp)) (fun _ => ?_)
  refine lv_aload_n hx hb dX8_putOnTape_7 rfl (lv_at hl 1 rfl) ?_
  refine va_get (D := D) (ci := 8) (v := .int 4) (C := RX8) (T := TX8) (N := 14) hx hb hts iX8_putOnTape_X8 hown hK hP 0 rfl rfl 1 (by decide) (hts (.fieldLink RX8 13 "CatLeases" "tapeLength" "I") (List.mem_of_getElem? (i := 1) rfl)) (fun _ h9 => h9) h_x_tapeLength dX8_putOnTape_8 ?_
  refine lv_aload_n hx hb dX8_putOnTape_11 rfl (lv_at hl 1 rfl) ?_
  refine va_get (D := D) (ci := 8) (v := .ref tp) (C := RX8) (T := TX8) (N := 14) hx hb hts iX8_putOnTape_X8 hown hK hP 0 rfl rfl 0 (by decide) (hts (.fieldLink RX8 9 "CatLeases" "tape" "[B") (List.mem_of_getElem? (i := 2) rfl)) (fun _ h9 => h9) h_x_tape dX8_putOnTape_12 ?_
  refine va_alen (v := 1600) hx hb hK hP 1 0 rfl rfl rfl dX8_putOnTape_15 ?_
  refine lv_icmp_ge (tgt := 42) hx hb dX8_putOnTape_16 (by decide) (fun c9 => absurd c9 (by first | decide | simp)) (fun _ => ?_)
  refine lv_aload_n hx hb dX8_putOnTape_19 rfl (lv_at hl 1 rfl) ?_
  refine va_get (D := D) (ci := 8) (v := .ref tp) (C := RX8) (T := TX8) (N := 14) hx hb hts iX8_putOnTape_X8 hown hK hP 0 rfl rfl 0 (by decide) (hts (.fieldLink RX8 9 "CatLeases" "tape" "[B") (List.mem_of_getElem? (i := 2) rfl)) (fun _ h9 => h9) h_x_tape dX8_putOnTape_20 ?_
  refine lv_aload_n hx hb dX8_putOnTape_23 rfl (lv_at hl 1 rfl) ?_
  refine va_get (D := D) (ci := 8) (v := .int 4) (C := RX8) (T := TX8) (N := 14) hx hb hts iX8_putOnTape_X8 hown hK hP 0 rfl rfl 1 (by decide) (hts (.fieldLink RX8 13 "CatLeases" "tapeLength" "I") (List.mem_of_getElem? (i := 1) rfl)) (fun _ h9 => h9) h_x_tapeLength dX8_putOnTape_24 ?_
  refine lv_iload_n hx hb dX8_putOnTape_27 rfl (lv_at hl 2 rfl) ?_
  refine lv_iload_n hx hb dX8_putOnTape_28 rfl (lv_at hl 0 rfl) ?_
  obtain ⟨w_1, ew_1⟩ : ∃ z : Int32, (p0.toUInt32 >>> (Int32.toUInt32 24 &&& Int32.toUInt32 31)).toInt32 = z := ⟨_, rfl⟩
  refine lv_iushr (v := w_1) hx hb dX8_putOnTape_29 ew_1 ?_
  refine lv_i2b hx hb dX8_putOnTape_30 rfl ?_
  refine va_bast hx hb hK hP hD hS 1 0 rfl rfl (k_in (i := 4) (n := 1600) (by decide)) dX8_putOnTape_31 (fun H locs hP hD hS => ?_)
  have hP : va_P D vwCl [(x, .inr (8, fs_x)), (tp, .inl (g 0, 1600, .inl (upd f_tp 4 (vp_nar .byte w_1.toInt8.toInt32))))] H := hP
  have hD : va_D A [(x, .inr (8, fs_x)), (tp, .inl (g 0, 1600, .inl (upd f_tp 4 (vp_nar .byte w_1.toInt8.toInt32))))] := hD
  refine lv_aload_n hx hb dX8_putOnTape_32 rfl (lv_at hl 1 rfl) ?_
  refine lv_dup hx hb dX8_putOnTape_33 rfl ?_
  refine va_get (D := D) (ci := 8) (v := .int 4) (C := RX8) (T := TX8) (N := 14) hx hb hts iX8_putOnTape_X8 hown hK hP 0 rfl rfl 1 (by decide) (hts (.fieldLink RX8 13 "CatLeases" "tapeLength" "I") (List.mem_of_getElem? (i := 1) rfl)) (fun _ h9 => h9) h_x_tapeLength dX8_putOnTape_34 ?_
  refine lv_iconst (v := 1) hx hb dX8_putOnTape_37 (by decide) ?_
  refine lv_iadd hx hb dX8_putOnTape_38 ?_
  refine k_top (v := 5) (by decide) ?_
  refine va_put (D := D) (ci := 8) (v := .int 5) (ty := .int) (C := RX8) (T := TX8) (N := 14) hx hb hts iX8_putOnTape_X8 tyX8 tyX8_ok nmX8 hown hK hP hD hS 0 rfl rfl 1 (by decide) (hts (.fieldLink RX8 13 "CatLeases" "tapeLength" "I") (List.mem_of_getElem? (i := 1) rfl)) (fun _ h9 => h9) rfl (by decide +kernel) rfl rfl ((k_len h_x_tapeLength)) dX8_putOnTape_39 (fun H locs hP hD hS => ?_)
  have hP : va_P D vwCl [(x, .inr (8, (fs_x.set 1 (.int 5)))), (tp, .inl (g 0, 1600, .inl (upd f_tp 4 (vp_nar .byte w_1.toInt8.toInt32))))] H := hP
  have hD : va_D A [(x, .inr (8, (fs_x.set 1 (.int 5)))), (tp, .inl (g 0, 1600, .inl (upd f_tp 4 (vp_nar .byte w_1.toInt8.toInt32))))] := hD
  refine lv_iinc (v := 16) (lv' := [(2, .int 16), (0, .ref x), (1, .int p0)]) hx hb dX8_putOnTape_42 hl (k := 0) rfl (by decide) (by decide) rfl (fun ls hl => ?_)
  refine lv_goto (tgt := 3) hx hb dX8_putOnTape_45 (by decide) ?_
  refine lv_iload_n hx hb dX8_putOnTape_3 rfl (lv_at hl 0 rfl) ?_
  refine lv_if_lt (tgt := 48) hx hb dX8_putOnTape_4 (by decide) (fun c9 => absurd c9 (by first | decide | simp)) (fun _ => ?_)
  refine lv_aload_n hx hb dX8_putOnTape_7 rfl (lv_at hl 1 rfl) ?_
  refine va_get (D := D) (ci := 8) (v := .int 5) (C := RX8) (T := TX8) (N := 14) hx hb hts iX8_putOnTape_X8 hown hK hP 0 rfl rfl 1 (by decide) (hts (.fieldLink RX8 13 "CatLeases" "tapeLength" "I") (List.mem_of_getElem? (i := 1) rfl)) (fun _ h9 => h9) (k_ss h_x_tapeLength) dX8_putOnTape_8 ?_
  refine lv_aload_n hx hb dX8_putOnTape_11 rfl (lv_at hl 1 rfl) ?_
  refine va_get (D := D) (ci := 8) (v := .ref tp) (C := RX8) (T := TX8) (N := 14) hx hb hts iX8_putOnTape_X8 hown hK hP 0 rfl rfl 0 (by decide) (hts (.fieldLink RX8 9 "CatLeases" "tape" "[B") (List.mem_of_getElem? (i := 2) rfl)) (fun _ h9 => h9) (k_sn (by decide) h_x_tape) dX8_putOnTape_12 ?_
  refine va_alen (v := 1600) hx hb hK hP 1 0 rfl rfl rfl dX8_putOnTape_15 ?_
  refine lv_icmp_ge (tgt := 42) hx hb dX8_putOnTape_16 (by decide) (fun c9 => absurd c9 (by first | decide | simp)) (fun _ => ?_)
  refine lv_aload_n hx hb dX8_putOnTape_19 rfl (lv_at hl 1 rfl) ?_
  refine va_get (D := D) (ci := 8) (v := .ref tp) (C := RX8) (T := TX8) (N := 14) hx hb hts iX8_putOnTape_X8 hown hK hP 0 rfl rfl 0 (by decide) (hts (.fieldLink RX8 9 "CatLeases" "tape" "[B") (List.mem_of_getElem? (i := 2) rfl)) (fun _ h9 => h9) (k_sn (by decide) h_x_tape) dX8_putOnTape_20 ?_
  refine lv_aload_n hx hb dX8_putOnTape_23 rfl (lv_at hl 1 rfl) ?_
  refine va_get (D := D) (ci := 8) (v := .int 5) (C := RX8) (T := TX8) (N := 14) hx hb hts iX8_putOnTape_X8 hown hK hP 0 rfl rfl 1 (by decide) (hts (.fieldLink RX8 13 "CatLeases" "tapeLength" "I") (List.mem_of_getElem? (i := 1) rfl)) (fun _ h9 => h9) (k_ss h_x_tapeLength) dX8_putOnTape_24 ?_
  refine lv_iload_n hx hb dX8_putOnTape_27 rfl (lv_at hl 2 rfl) ?_
  refine lv_iload_n hx hb dX8_putOnTape_28 rfl (lv_at hl 0 rfl) ?_
  obtain ⟨w_2, ew_2⟩ : ∃ z : Int32, (p0.toUInt32 >>> (Int32.toUInt32 16 &&& Int32.toUInt32 31)).toInt32 = z := ⟨_, rfl⟩
  refine lv_iushr (v := w_2) hx hb dX8_putOnTape_29 ew_2 ?_
  refine lv_i2b hx hb dX8_putOnTape_30 rfl ?_
  refine va_bast hx hb hK hP hD hS 1 0 rfl rfl (k_in (i := 5) (n := 1600) (by decide)) dX8_putOnTape_31 (fun H locs hP hD hS => ?_)
  have hP : va_P D vwCl [(x, .inr (8, (fs_x.set 1 (.int 5)))), (tp, .inl (g 0, 1600, .inl (upd (upd f_tp 4 (vp_nar .byte w_1.toInt8.toInt32)) 5 (vp_nar .byte w_2.toInt8.toInt32))))] H := hP
  have hD : va_D A [(x, .inr (8, (fs_x.set 1 (.int 5)))), (tp, .inl (g 0, 1600, .inl (upd (upd f_tp 4 (vp_nar .byte w_1.toInt8.toInt32)) 5 (vp_nar .byte w_2.toInt8.toInt32))))] := hD
  refine lv_aload_n hx hb dX8_putOnTape_32 rfl (lv_at hl 1 rfl) ?_
  refine lv_dup hx hb dX8_putOnTape_33 rfl ?_
  refine va_get (D := D) (ci := 8) (v := .int 5) (C := RX8) (T := TX8) (N := 14) hx hb hts iX8_putOnTape_X8 hown hK hP 0 rfl rfl 1 (by decide) (hts (.fieldLink RX8 13 "CatLeases" "tapeLength" "I") (List.mem_of_getElem? (i := 1) rfl)) (fun _ h9 => h9) (k_ss h_x_tapeLength) dX8_putOnTape_34 ?_
  refine lv_iconst (v := 1) hx hb dX8_putOnTape_37 (by decide) ?_
  refine lv_iadd hx hb dX8_putOnTape_38 ?_
  refine k_top (v := 6) (by decide) ?_
  refine va_put (D := D) (ci := 8) (v := .int 6) (ty := .int) (C := RX8) (T := TX8) (N := 14) hx hb hts iX8_putOnTape_X8 tyX8 tyX8_ok nmX8 hown hK hP hD hS 0 rfl rfl 1 (by decide) (hts (.fieldLink RX8 13 "CatLeases" "tapeLength" "I") (List.mem_of_getElem? (i := 1) rfl)) (fun _ h9 => h9) rfl (by decide +kernel) rfl rfl ((k_len (k_ss h_x_tapeLength))) dX8_putOnTape_39 (fun H locs hP hD hS => ?_)
  have hP : va_P D vwCl [(x, .inr (8, ((fs_x.set 1 (.int 5)).set 1 (.int 6)))), (tp, .inl (g 0, 1600, .inl (upd (upd f_tp 4 (vp_nar .byte w_1.toInt8.toInt32)) 5 (vp_nar .byte w_2.toInt8.toInt32))))] H := hP
  have hD : va_D A [(x, .inr (8, ((fs_x.set 1 (.int 5)).set 1 (.int 6)))), (tp, .inl (g 0, 1600, .inl (upd (upd f_tp 4 (vp_nar .byte w_1.toInt8.toInt32)) 5 (vp_nar .byte w_2.toInt8.toInt32))))] := hD
  refine lv_iinc (v := 8) (lv' := [(2, .int 8), (0, .ref x), (1, .int p0)]) hx hb dX8_putOnTape_42 hl (k := 0) rfl (by decide) (by decide) rfl (fun ls hl => ?_)
  refine lv_goto (tgt := 3) hx hb dX8_putOnTape_45 (by decide) ?_
  refine lv_iload_n hx hb dX8_putOnTape_3 rfl (lv_at hl 0 rfl) ?_
  refine lv_if_lt (tgt := 48) hx hb dX8_putOnTape_4 (by decide) (fun c9 => absurd c9 (by first | decide | simp)) (fun _ => ?_)
  refine lv_aload_n hx hb dX8_putOnTape_7 rfl (lv_at hl 1 rfl) ?_
  refine va_get (D := D) (ci := 8) (v := .int 6) (C := RX8) (T := TX8) (N := 14) hx hb hts iX8_putOnTape_X8 hown hK hP 0 rfl rfl 1 (by decide) (hts (.fieldLink RX8 13 "CatLeases" "tapeLength" "I") (List.mem_of_getElem? (i := 1) rfl)) (fun _ h9 => h9) (k_ss (k_ss h_x_tapeLength)) dX8_putOnTape_8 ?_
  refine lv_aload_n hx hb dX8_putOnTape_11 rfl (lv_at hl 1 rfl) ?_
  refine va_get (D := D) (ci := 8) (v := .ref tp) (C := RX8) (T := TX8) (N := 14) hx hb hts iX8_putOnTape_X8 hown hK hP 0 rfl rfl 0 (by decide) (hts (.fieldLink RX8 9 "CatLeases" "tape" "[B") (List.mem_of_getElem? (i := 2) rfl)) (fun _ h9 => h9) (k_sn (by decide) (k_sn (by decide) h_x_tape)) dX8_putOnTape_12 ?_
  refine va_alen (v := 1600) hx hb hK hP 1 0 rfl rfl rfl dX8_putOnTape_15 ?_
  refine lv_icmp_ge (tgt := 42) hx hb dX8_putOnTape_16 (by decide) (fun c9 => absurd c9 (by first | decide | simp)) (fun _ => ?_)
  refine lv_aload_n hx hb dX8_putOnTape_19 rfl (lv_at hl 1 rfl) ?_
  refine va_get (D := D) (ci := 8) (v := .ref tp) (C := RX8) (T := TX8) (N := 14) hx hb hts iX8_putOnTape_X8 hown hK hP 0 rfl rfl 0 (by decide) (hts (.fieldLink RX8 9 "CatLeases" "tape" "[B") (List.mem_of_getElem? (i := 2) rfl)) (fun _ h9 => h9) (k_sn (by decide) (k_sn (by decide) h_x_tape)) dX8_putOnTape_20 ?_
  refine lv_aload_n hx hb dX8_putOnTape_23 rfl (lv_at hl 1 rfl) ?_
  refine va_get (D := D) (ci := 8) (v := .int 6) (C := RX8) (T := TX8) (N := 14) hx hb hts iX8_putOnTape_X8 hown hK hP 0 rfl rfl 1 (by decide) (hts (.fieldLink RX8 13 "CatLeases" "tapeLength" "I") (List.mem_of_getElem? (i := 1) rfl)) (fun _ h9 => h9) (k_ss (k_ss h_x_tapeLength)) dX8_putOnTape_24 ?_
  refine lv_iload_n hx hb dX8_putOnTape_27 rfl (lv_at hl 2 rfl) ?_
  refine lv_iload_n hx hb dX8_putOnTape_28 rfl (lv_at hl 0 rfl) ?_
  obtain ⟨w_3, ew_3⟩ : ∃ z : Int32, (p0.toUInt32 >>> (Int32.toUInt32 8 &&& Int32.toUInt32 31)).toInt32 = z := ⟨_, rfl⟩
  refine lv_iushr (v := w_3) hx hb dX8_putOnTape_29 ew_3 ?_
  refine lv_i2b hx hb dX8_putOnTape_30 rfl ?_
  refine va_bast hx hb hK hP hD hS 1 0 rfl rfl (k_in (i := 6) (n := 1600) (by decide)) dX8_putOnTape_31 (fun H locs hP hD hS => ?_)
  have hP : va_P D vwCl [(x, .inr (8, ((fs_x.set 1 (.int 5)).set 1 (.int 6)))), (tp, .inl (g 0, 1600, .inl (upd (upd (upd f_tp 4 (vp_nar .byte w_1.toInt8.toInt32)) 5 (vp_nar .byte w_2.toInt8.toInt32)) 6 (vp_nar .byte w_3.toInt8.toInt32))))] H := hP
  have hD : va_D A [(x, .inr (8, ((fs_x.set 1 (.int 5)).set 1 (.int 6)))), (tp, .inl (g 0, 1600, .inl (upd (upd (upd f_tp 4 (vp_nar .byte w_1.toInt8.toInt32)) 5 (vp_nar .byte w_2.toInt8.toInt32)) 6 (vp_nar .byte w_3.toInt8.toInt32))))] := hD
  refine lv_aload_n hx hb dX8_putOnTape_32 rfl (lv_at hl 1 rfl) ?_
  refine lv_dup hx hb dX8_putOnTape_33 rfl ?_
  refine va_get (D := D) (ci := 8) (v := .int 6) (C := RX8) (T := TX8) (N := 14) hx hb hts iX8_putOnTape_X8 hown hK hP 0 rfl rfl 1 (by decide) (hts (.fieldLink RX8 13 "CatLeases" "tapeLength" "I") (List.mem_of_getElem? (i := 1) rfl)) (fun _ h9 => h9) (k_ss (k_ss h_x_tapeLength)) dX8_putOnTape_34 ?_
  refine lv_iconst (v := 1) hx hb dX8_putOnTape_37 (by decide) ?_
  refine lv_iadd hx hb dX8_putOnTape_38 ?_
  refine k_top (v := 7) (by decide) ?_
  refine va_put (D := D) (ci := 8) (v := .int 7) (ty := .int) (C := RX8) (T := TX8) (N := 14) hx hb hts iX8_putOnTape_X8 tyX8 tyX8_ok nmX8 hown hK hP hD hS 0 rfl rfl 1 (by decide) (hts (.fieldLink RX8 13 "CatLeases" "tapeLength" "I") (List.mem_of_getElem? (i := 1) rfl)) (fun _ h9 => h9) rfl (by decide +kernel) rfl rfl ((k_len (k_ss (k_ss h_x_tapeLength)))) dX8_putOnTape_39 (fun H locs hP hD hS => ?_)
  have hP : va_P D vwCl [(x, .inr (8, (((fs_x.set 1 (.int 5)).set 1 (.int 6)).set 1 (.int 7)))), (tp, .inl (g 0, 1600, .inl (upd (upd (upd f_tp 4 (vp_nar .byte w_1.toInt8.toInt32)) 5 (vp_nar .byte w_2.toInt8.toInt32)) 6 (vp_nar .byte w_3.toInt8.toInt32))))] H := hP
  have hD : va_D A [(x, .inr (8, (((fs_x.set 1 (.int 5)).set 1 (.int 6)).set 1 (.int 7)))), (tp, .inl (g 0, 1600, .inl (upd (upd (upd f_tp 4 (vp_nar .byte w_1.toInt8.toInt32)) 5 (vp_nar .byte w_2.toInt8.toInt32)) 6 (vp_nar .byte w_3.toInt8.toInt32))))] := hD
  refine lv_iinc (v := 0) (lv' := [(2, .int 0), (0, .ref x), (1, .int p0)]) hx hb dX8_putOnTape_42 hl (k := 0) rfl (by decide) (by decide) rfl (fun ls hl => ?_)
  refine lv_goto (tgt := 3) hx hb dX8_putOnTape_45 (by decide) ?_
  refine lv_iload_n hx hb dX8_putOnTape_3 rfl (lv_at hl 0 rfl) ?_
  refine lv_if_lt (tgt := 48) hx hb dX8_putOnTape_4 (by decide) (fun c9 => absurd c9 (by first | decide | simp)) (fun _ => ?_)
  refine lv_aload_n hx hb dX8_putOnTape_7 rfl (lv_at hl 1 rfl) ?_
  refine va_get (D := D) (ci := 8) (v := .int 7) (C := RX8) (T := TX8) (N := 14) hx hb hts iX8_putOnTape_X8 hown hK hP 0 rfl rfl 1 (by decide) (hts (.fieldLink RX8 13 "CatLeases" "tapeLength" "I") (List.mem_of_getElem? (i := 1) rfl)) (fun _ h9 => h9) (k_ss (k_ss (k_ss h_x_tapeLength))) dX8_putOnTape_8 ?_
  refine lv_aload_n hx hb dX8_putOnTape_11 rfl (lv_at hl 1 rfl) ?_
  refine va_get (D := D) (ci := 8) (v := .ref tp) (C := RX8) (T := TX8) (N := 14) hx hb hts iX8_putOnTape_X8 hown hK hP 0 rfl rfl 0 (by decide) (hts (.fieldLink RX8 9 "CatLeases" "tape" "[B") (List.mem_of_getElem? (i := 2) rfl)) (fun _ h9 => h9) (k_sn (by decide) (k_sn (by decide) (k_sn (by decide) h_x_tape))) dX8_putOnTape_12 ?_
  refine va_alen (v := 1600) hx hb hK hP 1 0 rfl rfl rfl dX8_putOnTape_15 ?_
  refine lv_icmp_ge (tgt := 42) hx hb dX8_putOnTape_16 (by decide) (fun c9 => absurd c9 (by first | decide | simp)) (fun _ => ?_)
  refine lv_aload_n hx hb dX8_putOnTape_19 rfl (lv_at hl 1 rfl) ?_
  refine va_get (D := D) (ci := 8) (v := .ref tp) (C := RX8) (T := TX8) (N := 14) hx hb hts iX8_putOnTape_X8 hown hK hP 0 rfl rfl 0 (by decide) (hts (.fieldLink RX8 9 "CatLeases" "tape" "[B") (List.mem_of_getElem? (i := 2) rfl)) (fun _ h9 => h9) (k_sn (by decide) (k_sn (by decide) (k_sn (by decide) h_x_tape))) dX8_putOnTape_20 ?_
  refine lv_aload_n hx hb dX8_putOnTape_23 rfl (lv_at hl 1 rfl) ?_
  refine va_get (D := D) (ci := 8) (v := .int 7) (C := RX8) (T := TX8) (N := 14) hx hb hts iX8_putOnTape_X8 hown hK hP 0 rfl rfl 1 (by decide) (hts (.fieldLink RX8 13 "CatLeases" "tapeLength" "I") (List.mem_of_getElem? (i := 1) rfl)) (fun _ h9 => h9) (k_ss (k_ss (k_ss h_x_tapeLength))) dX8_putOnTape_24 ?_
  refine lv_iload_n hx hb dX8_putOnTape_27 rfl (lv_at hl 2 rfl) ?_
  refine lv_iload_n hx hb dX8_putOnTape_28 rfl (lv_at hl 0 rfl) ?_
  obtain ⟨w_4, ew_4⟩ : ∃ z : Int32, (p0.toUInt32 >>> (Int32.toUInt32 0 &&& Int32.toUInt32 31)).toInt32 = z := ⟨_, rfl⟩
  refine lv_iushr (v := w_4) hx hb dX8_putOnTape_29 ew_4 ?_
  refine lv_i2b hx hb dX8_putOnTape_30 rfl ?_
  refine va_bast hx hb hK hP hD hS 1 0 rfl rfl (k_in (i := 7) (n := 1600) (by decide)) dX8_putOnTape_31 (fun H locs hP hD hS => ?_)
  have hP : va_P D vwCl [(x, .inr (8, (((fs_x.set 1 (.int 5)).set 1 (.int 6)).set 1 (.int 7)))), (tp, .inl (g 0, 1600, .inl (upd (upd (upd (upd f_tp 4 (vp_nar .byte w_1.toInt8.toInt32)) 5 (vp_nar .byte w_2.toInt8.toInt32)) 6 (vp_nar .byte w_3.toInt8.toInt32)) 7 (vp_nar .byte w_4.toInt8.toInt32))))] H := hP
  have hD : va_D A [(x, .inr (8, (((fs_x.set 1 (.int 5)).set 1 (.int 6)).set 1 (.int 7)))), (tp, .inl (g 0, 1600, .inl (upd (upd (upd (upd f_tp 4 (vp_nar .byte w_1.toInt8.toInt32)) 5 (vp_nar .byte w_2.toInt8.toInt32)) 6 (vp_nar .byte w_3.toInt8.toInt32)) 7 (vp_nar .byte w_4.toInt8.toInt32))))] := hD
  refine lv_aload_n hx hb dX8_putOnTape_32 rfl (lv_at hl 1 rfl) ?_
  refine lv_dup hx hb dX8_putOnTape_33 rfl ?_
  refine va_get (D := D) (ci := 8) (v := .int 7) (C := RX8) (T := TX8) (N := 14) hx hb hts iX8_putOnTape_X8 hown hK hP 0 rfl rfl 1 (by decide) (hts (.fieldLink RX8 13 "CatLeases" "tapeLength" "I") (List.mem_of_getElem? (i := 1) rfl)) (fun _ h9 => h9) (k_ss (k_ss (k_ss h_x_tapeLength))) dX8_putOnTape_34 ?_
  refine lv_iconst (v := 1) hx hb dX8_putOnTape_37 (by decide) ?_
  refine lv_iadd hx hb dX8_putOnTape_38 ?_
  refine k_top (v := 8) (by decide) ?_
  refine va_put (D := D) (ci := 8) (v := .int 8) (ty := .int) (C := RX8) (T := TX8) (N := 14) hx hb hts iX8_putOnTape_X8 tyX8 tyX8_ok nmX8 hown hK hP hD hS 0 rfl rfl 1 (by decide) (hts (.fieldLink RX8 13 "CatLeases" "tapeLength" "I") (List.mem_of_getElem? (i := 1) rfl)) (fun _ h9 => h9) rfl (by decide +kernel) rfl rfl ((k_len (k_ss (k_ss (k_ss h_x_tapeLength))))) dX8_putOnTape_39 (fun H locs hP hD hS => ?_)
  have hP : va_P D vwCl [(x, .inr (8, ((((fs_x.set 1 (.int 5)).set 1 (.int 6)).set 1 (.int 7)).set 1 (.int 8)))), (tp, .inl (g 0, 1600, .inl (upd (upd (upd (upd f_tp 4 (vp_nar .byte w_1.toInt8.toInt32)) 5 (vp_nar .byte w_2.toInt8.toInt32)) 6 (vp_nar .byte w_3.toInt8.toInt32)) 7 (vp_nar .byte w_4.toInt8.toInt32))))] H := hP
  have hD : va_D A [(x, .inr (8, ((((fs_x.set 1 (.int 5)).set 1 (.int 6)).set 1 (.int 7)).set 1 (.int 8)))), (tp, .inl (g 0, 1600, .inl (upd (upd (upd (upd f_tp 4 (vp_nar .byte w_1.toInt8.toInt32)) 5 (vp_nar .byte w_2.toInt8.toInt32)) 6 (vp_nar .byte w_3.toInt8.toInt32)) 7 (vp_nar .byte w_4.toInt8.toInt32))))] := hD
  refine lv_iinc (v := (-8)) (lv' := [(2, .int (-8)), (0, .ref x), (1, .int p0)]) hx hb dX8_putOnTape_42 hl (k := 0) rfl (by decide) (by decide) rfl (fun ls hl => ?_)
  refine lv_goto (tgt := 3) hx hb dX8_putOnTape_45 (by decide) ?_
  refine lv_iload_n hx hb dX8_putOnTape_3 rfl (lv_at hl 0 rfl) ?_
  refine lv_if_lt (tgt := 48) hx hb dX8_putOnTape_4 (by decide) (fun _ => ?_) (fun c9 => absurd (by first | decide | rfl) c9)
  exact k_vret hx hb hr hlocks hK hP hD hS ⟨(upd (upd (upd (upd f_tp 4 (vp_nar .byte w_1.toInt8.toInt32)) 5 (vp_nar .byte w_2.toInt8.toInt32)) 6 (vp_nar .byte w_3.toInt8.toInt32)) 7 (vp_nar .byte w_4.toInt8.toInt32)), rfl⟩ dX8_putOnTape_48
set_option maxHeartbeats 4000000 in
set_option maxRecDepth 100000 in
theorem c_put8 (l : Launch) (D : va_G) (g : Nat → ClassId) (sz : Nat) (x : Nat) (p0 : Int32) (tp : Nat) (fs_x : List Value) (f_tp : Nat → Int32) (h_x_tape : fs_x[0]? = some (.ref tp)) (h_x_tapeLength : fs_x[1]? = some (.int 8)) : Met l yX8_putOnTape wsX8_putOnTape ({ frames := 0, cells := 0, slots := 0, locals := 0 }) (va_Pc [.ref x, .int p0] (kPre D g [(x, .inr (8, fs_x)), (tp, .inl (g 0, 1600, .inl f_tp))] sz)) (kQv D g (fun (u : va_W) => ∃ (fe_tp : Nat → Int32), u = [(x, .inr (8, ((((fs_x.set 1 (.int 9)).set 1 (.int 10)).set 1 (.int 11)).set 1 (.int 12)))), (tp, .inl (g 0, 1600, .inl fe_tp))]) (va_A [(x, .inr (8, fs_x)), (tp, .inl (g 0, 1600, .inl f_tp))] sz)) 0 0 (va_A [(x, .inr (8, fs_x)), (tp, .inl (g 0, 1600, .inl f_tp))] sz) := by
  refine k_head (cc := cX8_putOnTape) (maxL := 3) (ret := none) (by decide) rfl (Nat.le_of_ble_eq_true rfl) ?_
  intro p e s m below meth c ls A hx hb hr hlocks hml hown hin hts hA hP hK hD hS hl
  have hown : s.vm.findClass RX8 = some m.cls := hown
  have hl : lv_has ls 3 [(0, .ref x), (1, .int p0)] := hl
  refine lv_bipush (v := 24) hx hb dX8_putOnTape_0 (by decide) ?_
  refine lv_istore_n (lv' := [(2, .int 24), (0, .ref x), (1, .int p0)]) hx hb dX8_putOnTape_2 rfl hl (by decide) rfl (fun ls hl => ?_)
  refine lv_iload_n hx hb dX8_putOnTape_3 rfl (lv_at hl 0 rfl) ?_
  refine lv_if_lt (tgt := 48) hx hb dX8_putOnTape_4 (by decide) (fun c9 => absurd c9 (by first | decide | simp)) (fun _ => ?_)
  refine lv_aload_n hx hb dX8_putOnTape_7 rfl (lv_at hl 1 rfl) ?_
  refine va_get (D := D) (ci := 8) (v := .int 8) (C := RX8) (T := TX8) (N := 14) hx hb hts iX8_putOnTape_X8 hown hK hP 0 rfl rfl 1 (by decide) (hts (.fieldLink RX8 13 "CatLeases" "tapeLength" "I") (List.mem_of_getElem? (i := 1) rfl)) (fun _ h9 => h9) h_x_tapeLength dX8_putOnTape_8 ?_
  refine lv_aload_n hx hb dX8_putOnTape_11 rfl (lv_at hl 1 rfl) ?_
  refine va_get (D := D) (ci := 8) (v := .ref tp) (C := RX8) (T := TX8) (N := 14) hx hb hts iX8_putOnTape_X8 hown hK hP 0 rfl rfl 0 (by decide) (hts (.fieldLink RX8 9 "CatLeases" "tape" "[B") (List.mem_of_getElem? (i := 2) rfl)) (fun _ h9 => h9) h_x_tape dX8_putOnTape_12 ?_
  refine va_alen (v := 1600) hx hb hK hP 1 0 rfl rfl rfl dX8_putOnTape_15 ?_
  refine lv_icmp_ge (tgt := 42) hx hb dX8_putOnTape_16 (by decide) (fun c9 => absurd c9 (by first | decide | simp)) (fun _ => ?_)
  refine lv_aload_n hx hb dX8_putOnTape_19 rfl (lv_at hl 1 rfl) ?_
  refine va_get (D := D) (ci := 8) (v := .ref tp) (C := RX8) (T := TX8) (N := 14) hx hb hts iX8_putOnTape_X8 hown hK hP 0 rfl rfl 0 (by decide) (hts (.fieldLink RX8 9 "CatLeases" "tape" "[B") (List.mem_of_getElem? (i := 2) rfl)) (fun _ h9 => h9) h_x_tape dX8_putOnTape_20 ?_
  refine lv_aload_n hx hb dX8_putOnTape_23 rfl (lv_at hl 1 rfl) ?_
  refine va_get (D := D) (ci := 8) (v := .int 8) (C := RX8) (T := TX8) (N := 14) hx hb hts iX8_putOnTape_X8 hown hK hP 0 rfl rfl 1 (by decide) (hts (.fieldLink RX8 13 "CatLeases" "tapeLength" "I") (List.mem_of_getElem? (i := 1) rfl)) (fun _ h9 => h9) h_x_tapeLength dX8_putOnTape_24 ?_
  refine lv_iload_n hx hb dX8_putOnTape_27 rfl (lv_at hl 2 rfl) ?_
  refine lv_iload_n hx hb dX8_putOnTape_28 rfl (lv_at hl 0 rfl) ?_
  obtain ⟨w_1, ew_1⟩ : ∃ z : Int32, (p0.toUInt32 >>> (Int32.toUInt32 24 &&& Int32.toUInt32 31)).toInt32 = z := ⟨_, rfl⟩
  refine lv_iushr (v := w_1) hx hb dX8_putOnTape_29 ew_1 ?_
  refine lv_i2b hx hb dX8_putOnTape_30 rfl ?_
  refine va_bast hx hb hK hP hD hS 1 0 rfl rfl (k_in (i := 8) (n := 1600) (by decide)) dX8_putOnTape_31 (fun H locs hP hD hS => ?_)
  have hP : va_P D vwCl [(x, .inr (8, fs_x)), (tp, .inl (g 0, 1600, .inl (upd f_tp 8 (vp_nar .byte w_1.toInt8.toInt32))))] H := hP
  have hD : va_D A [(x, .inr (8, fs_x)), (tp, .inl (g 0, 1600, .inl (upd f_tp 8 (vp_nar .byte w_1.toInt8.toInt32))))] := hD
  refine lv_aload_n hx hb dX8_putOnTape_32 rfl (lv_at hl 1 rfl) ?_
  refine lv_dup hx hb dX8_putOnTape_33 rfl ?_
  refine va_get (D := D) (ci := 8) (v := .int 8) (C := RX8) (T := TX8) (N := 14) hx hb hts iX8_putOnTape_X8 hown hK hP 0 rfl rfl 1 (by decide) (hts (.fieldLink RX8 13 "CatLeases" "tapeLength" "I") (List.mem_of_getElem? (i := 1) rfl)) (fun _ h9 => h9) h_x_tapeLength dX8_putOnTape_34 ?_
  refine lv_iconst (v := 1) hx hb dX8_putOnTape_37 (by decide) ?_
  refine lv_iadd hx hb dX8_putOnTape_38 ?_
  refine k_top (v := 9) (by decide) ?_
  refine va_put (D := D) (ci := 8) (v := .int 9) (ty := .int) (C := RX8) (T := TX8) (N := 14) hx hb hts iX8_putOnTape_X8 tyX8 tyX8_ok nmX8 hown hK hP hD hS 0 rfl rfl 1 (by decide) (hts (.fieldLink RX8 13 "CatLeases" "tapeLength" "I") (List.mem_of_getElem? (i := 1) rfl)) (fun _ h9 => h9) rfl (by decide +kernel) rfl rfl ((k_len h_x_tapeLength)) dX8_putOnTape_39 (fun H locs hP hD hS => ?_)
  have hP : va_P D vwCl [(x, .inr (8, (fs_x.set 1 (.int 9)))), (tp, .inl (g 0, 1600, .inl (upd f_tp 8 (vp_nar .byte w_1.toInt8.toInt32))))] H := hP
  have hD : va_D A [(x, .inr (8, (fs_x.set 1 (.int 9)))), (tp, .inl (g 0, 1600, .inl (upd f_tp 8 (vp_nar .byte w_1.toInt8.toInt32))))] := hD
  refine lv_iinc (v := 16) (lv' := [(2, .int 16), (0, .ref x), (1, .int p0)]) hx hb dX8_putOnTape_42 hl (k := 0) rfl (by decide) (by decide) rfl (fun ls hl => ?_)
  refine lv_goto (tgt := 3) hx hb dX8_putOnTape_45 (by decide) ?_
  refine lv_iload_n hx hb dX8_putOnTape_3 rfl (lv_at hl 0 rfl) ?_
  refine lv_if_lt (tgt := 48) hx hb dX8_putOnTape_4 (by decide) (fun c9 => absurd c9 (by first | decide | simp)) (fun _ => ?_)
  refine lv_aload_n hx hb dX8_putOnTape_7 rfl (lv_at hl 1 rfl) ?_
  refine va_get (D := D) (ci := 8) (v := .int 9) (C := RX8) (T := TX8) (N := 14) hx hb hts iX8_putOnTape_X8 hown hK hP 0 rfl rfl 1 (by decide) (hts (.fieldLink RX8 13 "CatLeases" "tapeLength" "I") (List.mem_of_getElem? (i := 1) rfl)) (fun _ h9 => h9) (k_ss h_x_tapeLength) dX8_putOnTape_8 ?_
  refine lv_aload_n hx hb dX8_putOnTape_11 rfl (lv_at hl 1 rfl) ?_
  refine va_get (D := D) (ci := 8) (v := .ref tp) (C := RX8) (T := TX8) (N := 14) hx hb hts iX8_putOnTape_X8 hown hK hP 0 rfl rfl 0 (by decide) (hts (.fieldLink RX8 9 "CatLeases" "tape" "[B") (List.mem_of_getElem? (i := 2) rfl)) (fun _ h9 => h9) (k_sn (by decide) h_x_tape) dX8_putOnTape_12 ?_
  refine va_alen (v := 1600) hx hb hK hP 1 0 rfl rfl rfl dX8_putOnTape_15 ?_
  refine lv_icmp_ge (tgt := 42) hx hb dX8_putOnTape_16 (by decide) (fun c9 => absurd c9 (by first | decide | simp)) (fun _ => ?_)
  refine lv_aload_n hx hb dX8_putOnTape_19 rfl (lv_at hl 1 rfl) ?_
  refine va_get (D := D) (ci := 8) (v := .ref tp) (C := RX8) (T := TX8) (N := 14) hx hb hts iX8_putOnTape_X8 hown hK hP 0 rfl rfl 0 (by decide) (hts (.fieldLink RX8 9 "CatLeases" "tape" "[B") (List.mem_of_getElem? (i := 2) rfl)) (fun _ h9 => h9) (k_sn (by decide) h_x_tape) dX8_putOnTape_20 ?_
  refine lv_aload_n hx hb dX8_putOnTape_23 rfl (lv_at hl 1 rfl) ?_
  refine va_get (D := D) (ci := 8) (v := .int 9) (C := RX8) (T := TX8) (N := 14) hx hb hts iX8_putOnTape_X8 hown hK hP 0 rfl rfl 1 (by decide) (hts (.fieldLink RX8 13 "CatLeases" "tapeLength" "I") (List.mem_of_getElem? (i := 1) rfl)) (fun _ h9 => h9) (k_ss h_x_tapeLength) dX8_putOnTape_24 ?_
  refine lv_iload_n hx hb dX8_putOnTape_27 rfl (lv_at hl 2 rfl) ?_
  refine lv_iload_n hx hb dX8_putOnTape_28 rfl (lv_at hl 0 rfl) ?_
  obtain ⟨w_2, ew_2⟩ : ∃ z : Int32, (p0.toUInt32 >>> (Int32.toUInt32 16 &&& Int32.toUInt32 31)).toInt32 = z := ⟨_, rfl⟩
  refine lv_iushr (v := w_2) hx hb dX8_putOnTape_29 ew_2 ?_
  refine lv_i2b hx hb dX8_putOnTape_30 rfl ?_
  refine va_bast hx hb hK hP hD hS 1 0 rfl rfl (k_in (i := 9) (n := 1600) (by decide)) dX8_putOnTape_31 (fun H locs hP hD hS => ?_)
  have hP : va_P D vwCl [(x, .inr (8, (fs_x.set 1 (.int 9)))), (tp, .inl (g 0, 1600, .inl (upd (upd f_tp 8 (vp_nar .byte w_1.toInt8.toInt32)) 9 (vp_nar .byte w_2.toInt8.toInt32))))] H := hP
  have hD : va_D A [(x, .inr (8, (fs_x.set 1 (.int 9)))), (tp, .inl (g 0, 1600, .inl (upd (upd f_tp 8 (vp_nar .byte w_1.toInt8.toInt32)) 9 (vp_nar .byte w_2.toInt8.toInt32))))] := hD
  refine lv_aload_n hx hb dX8_putOnTape_32 rfl (lv_at hl 1 rfl) ?_
  refine lv_dup hx hb dX8_putOnTape_33 rfl ?_
  refine va_get (D := D) (ci := 8) (v := .int 9) (C := RX8) (T := TX8) (N := 14) hx hb hts iX8_putOnTape_X8 hown hK hP 0 rfl rfl 1 (by decide) (hts (.fieldLink RX8 13 "CatLeases" "tapeLength" "I") (List.mem_of_getElem? (i := 1) rfl)) (fun _ h9 => h9) (k_ss h_x_tapeLength) dX8_putOnTape_34 ?_
  refine lv_iconst (v := 1) hx hb dX8_putOnTape_37 (by decide) ?_
  refine lv_iadd hx hb dX8_putOnTape_38 ?_
  refine k_top (v := 10) (by decide) ?_
  refine va_put (D := D) (ci := 8) (v := .int 10) (ty := .int) (C := RX8) (T := TX8) (N := 14) hx hb hts iX8_putOnTape_X8 tyX8 tyX8_ok nmX8 hown hK hP hD hS 0 rfl rfl 1 (by decide) (hts (.fieldLink RX8 13 "CatLeases" "tapeLength" "I") (List.mem_of_getElem? (i := 1) rfl)) (fun _ h9 => h9) rfl (by decide +kernel) rfl rfl ((k_len (k_ss h_x_tapeLength))) dX8_putOnTape_39 (fun H locs hP hD hS => ?_)
  have hP : va_P D vwCl [(x, .inr (8, ((fs_x.set 1 (.int 9)).set 1 (.int 10)))), (tp, .inl (g 0, 1600, .inl (upd (upd f_tp 8 (vp_nar .byte w_1.toInt8.toInt32)) 9 (vp_nar .byte w_2.toInt8.toInt32))))] H := hP
  have hD : va_D A [(x, .inr (8, ((fs_x.set 1 (.int 9)).set 1 (.int 10)))), (tp, .inl (g 0, 1600, .inl (upd (upd f_tp 8 (vp_nar .byte w_1.toInt8.toInt32)) 9 (vp_nar .byte w_2.toInt8.toInt32))))] := hD
  refine lv_iinc (v := 8) (lv' := [(2, .int 8), (0, .ref x), (1, .int p0)]) hx hb dX8_putOnTape_42 hl (k := 0) rfl (by decide) (by decide) rfl (fun ls hl => ?_)
  refine lv_goto (tgt := 3) hx hb dX8_putOnTape_45 (by decide) ?_
  refine lv_iload_n hx hb dX8_putOnTape_3 rfl (lv_at hl 0 rfl) ?_
  refine lv_if_lt (tgt := 48) hx hb dX8_putOnTape_4 (by decide) (fun c9 => absurd c9 (by first | decide | simp)) (fun _ => ?_)
  refine lv_aload_n hx hb dX8_putOnTape_7 rfl (lv_at hl 1 rfl) ?_
  refine va_get (D := D) (ci := 8) (v := .int 10) (C := RX8) (T := TX8) (N := 14) hx hb hts iX8_putOnTape_X8 hown hK hP 0 rfl rfl 1 (by decide) (hts (.fieldLink RX8 13 "CatLeases" "tapeLength" "I") (List.mem_of_getElem? (i := 1) rfl)) (fun _ h9 => h9) (k_ss (k_ss h_x_tapeLength)) dX8_putOnTape_8 ?_
  refine lv_aload_n hx hb dX8_putOnTape_11 rfl (lv_at hl 1 rfl) ?_
  refine va_get (D := D) (ci := 8) (v := .ref tp) (C := RX8) (T := TX8) (N := 14) hx hb hts iX8_putOnTape_X8 hown hK hP 0 rfl rfl 0 (by decide) (hts (.fieldLink RX8 9 "CatLeases" "tape" "[B") (List.mem_of_getElem? (i := 2) rfl)) (fun _ h9 => h9) (k_sn (by decide) (k_sn (by decide) h_x_tape)) dX8_putOnTape_12 ?_
  refine va_alen (v := 1600) hx hb hK hP 1 0 rfl rfl rfl dX8_putOnTape_15 ?_
  refine lv_icmp_ge (tgt := 42) hx hb dX8_putOnTape_16 (by decide) (fun c9 => absurd c9 (by first | decide | simp)) (fun _ => ?_)
  refine lv_aload_n hx hb dX8_putOnTape_19 rfl (lv_at hl 1 rfl) ?_
  refine va_get (D := D) (ci := 8) (v := .ref tp) (C := RX8) (T := TX8) (N := 14) hx hb hts iX8_putOnTape_X8 hown hK hP 0 rfl rfl 0 (by decide) (hts (.fieldLink RX8 9 "CatLeases" "tape" "[B") (List.mem_of_getElem? (i := 2) rfl)) (fun _ h9 => h9) (k_sn (by decide) (k_sn (by decide) h_x_tape)) dX8_putOnTape_20 ?_
  refine lv_aload_n hx hb dX8_putOnTape_23 rfl (lv_at hl 1 rfl) ?_
  refine va_get (D := D) (ci := 8) (v := .int 10) (C := RX8) (T := TX8) (N := 14) hx hb hts iX8_putOnTape_X8 hown hK hP 0 rfl rfl 1 (by decide) (hts (.fieldLink RX8 13 "CatLeases" "tapeLength" "I") (List.mem_of_getElem? (i := 1) rfl)) (fun _ h9 => h9) (k_ss (k_ss h_x_tapeLength)) dX8_putOnTape_24 ?_
  refine lv_iload_n hx hb dX8_putOnTape_27 rfl (lv_at hl 2 rfl) ?_
  refine lv_iload_n hx hb dX8_putOnTape_28 rfl (lv_at hl 0 rfl) ?_
  obtain ⟨w_3, ew_3⟩ : ∃ z : Int32, (p0.toUInt32 >>> (Int32.toUInt32 8 &&& Int32.toUInt32 31)).toInt32 = z := ⟨_, rfl⟩
  refine lv_iushr (v := w_3) hx hb dX8_putOnTape_29 ew_3 ?_
  refine lv_i2b hx hb dX8_putOnTape_30 rfl ?_
  refine va_bast hx hb hK hP hD hS 1 0 rfl rfl (k_in (i := 10) (n := 1600) (by decide)) dX8_putOnTape_31 (fun H locs hP hD hS => ?_)
  have hP : va_P D vwCl [(x, .inr (8, ((fs_x.set 1 (.int 9)).set 1 (.int 10)))), (tp, .inl (g 0, 1600, .inl (upd (upd (upd f_tp 8 (vp_nar .byte w_1.toInt8.toInt32)) 9 (vp_nar .byte w_2.toInt8.toInt32)) 10 (vp_nar .byte w_3.toInt8.toInt32))))] H := hP
  have hD : va_D A [(x, .inr (8, ((fs_x.set 1 (.int 9)).set 1 (.int 10)))), (tp, .inl (g 0, 1600, .inl (upd (upd (upd f_tp 8 (vp_nar .byte w_1.toInt8.toInt32)) 9 (vp_nar .byte w_2.toInt8.toInt32)) 10 (vp_nar .byte w_3.toInt8.toInt32))))] := hD
  refine lv_aload_n hx hb dX8_putOnTape_32 rfl (lv_at hl 1 rfl) ?_
  refine lv_dup hx hb dX8_putOnTape_33 rfl ?_
  refine va_get (D := D) (ci := 8) (v := .int 10) (C := RX8) (T := TX8) (N := 14) hx hb hts iX8_putOnTape_X8 hown hK hP 0 rfl rfl 1 (by decide) (hts (.fieldLink RX8 13 "CatLeases" "tapeLength" "I") (List.mem_of_getElem? (i := 1) rfl)) (fun _ h9 => h9) (k_ss (k_ss h_x_tapeLength)) dX8_putOnTape_34 ?_
  refine lv_iconst (v := 1) hx hb dX8_putOnTape_37 (by decide) ?_
  refine lv_iadd hx hb dX8_putOnTape_38 ?_
  refine k_top (v := 11) (by decide) ?_
  refine va_put (D := D) (ci := 8) (v := .int 11) (ty := .int) (C := RX8) (T := TX8) (N := 14) hx hb hts iX8_putOnTape_X8 tyX8 tyX8_ok nmX8 hown hK hP hD hS 0 rfl rfl 1 (by decide) (hts (.fieldLink RX8 13 "CatLeases" "tapeLength" "I") (List.mem_of_getElem? (i := 1) rfl)) (fun _ h9 => h9) rfl (by decide +kernel) rfl rfl ((k_len (k_ss (k_ss h_x_tapeLength)))) dX8_putOnTape_39 (fun H locs hP hD hS => ?_)
  have hP : va_P D vwCl [(x, .inr (8, (((fs_x.set 1 (.int 9)).set 1 (.int 10)).set 1 (.int 11)))), (tp, .inl (g 0, 1600, .inl (upd (upd (upd f_tp 8 (vp_nar .byte w_1.toInt8.toInt32)) 9 (vp_nar .byte w_2.toInt8.toInt32)) 10 (vp_nar .byte w_3.toInt8.toInt32))))] H := hP
  have hD : va_D A [(x, .inr (8, (((fs_x.set 1 (.int 9)).set 1 (.int 10)).set 1 (.int 11)))), (tp, .inl (g 0, 1600, .inl (upd (upd (upd f_tp 8 (vp_nar .byte w_1.toInt8.toInt32)) 9 (vp_nar .byte w_2.toInt8.toInt32)) 10 (vp_nar .byte w_3.toInt8.toInt32))))] := hD
  refine lv_iinc (v := 0) (lv' := [(2, .int 0), (0, .ref x), (1, .int p0)]) hx hb dX8_putOnTape_42 hl (k := 0) rfl (by decide) (by decide) rfl (fun ls hl => ?_)
  refine lv_goto (tgt := 3) hx hb dX8_putOnTape_45 (by decide) ?_
  refine lv_iload_n hx hb dX8_putOnTape_3 rfl (lv_at hl 0 rfl) ?_
  refine lv_if_lt (tgt := 48) hx hb dX8_putOnTape_4 (by decide) (fun c9 => absurd c9 (by first | decide | simp)) (fun _ => ?_)
  refine lv_aload_n hx hb dX8_putOnTape_7 rfl (lv_at hl 1 rfl) ?_
  refine va_get (D := D) (ci := 8) (v := .int 11) (C := RX8) (T := TX8) (N := 14) hx hb hts iX8_putOnTape_X8 hown hK hP 0 rfl rfl 1 (by decide) (hts (.fieldLink RX8 13 "CatLeases" "tapeLength" "I") (List.mem_of_getElem? (i := 1) rfl)) (fun _ h9 => h9) (k_ss (k_ss (k_ss h_x_tapeLength))) dX8_putOnTape_8 ?_
  refine lv_aload_n hx hb dX8_putOnTape_11 rfl (lv_at hl 1 rfl) ?_
  refine va_get (D := D) (ci := 8) (v := .ref tp) (C := RX8) (T := TX8) (N := 14) hx hb hts iX8_putOnTape_X8 hown hK hP 0 rfl rfl 0 (by decide) (hts (.fieldLink RX8 9 "CatLeases" "tape" "[B") (List.mem_of_getElem? (i := 2) rfl)) (fun _ h9 => h9) (k_sn (by decide) (k_sn (by decide) (k_sn (by decide) h_x_tape))) dX8_putOnTape_12 ?_
  refine va_alen (v := 1600) hx hb hK hP 1 0 rfl rfl rfl dX8_putOnTape_15 ?_
  refine lv_icmp_ge (tgt := 42) hx hb dX8_putOnTape_16 (by decide) (fun c9 => absurd c9 (by first | decide | simp)) (fun _ => ?_)
  refine lv_aload_n hx hb dX8_putOnTape_19 rfl (lv_at hl 1 rfl) ?_
  refine va_get (D := D) (ci := 8) (v := .ref tp) (C := RX8) (T := TX8) (N := 14) hx hb hts iX8_putOnTape_X8 hown hK hP 0 rfl rfl 0 (by decide) (hts (.fieldLink RX8 9 "CatLeases" "tape" "[B") (List.mem_of_getElem? (i := 2) rfl)) (fun _ h9 => h9) (k_sn (by decide) (k_sn (by decide) (k_sn (by decide) h_x_tape))) dX8_putOnTape_20 ?_
  refine lv_aload_n hx hb dX8_putOnTape_23 rfl (lv_at hl 1 rfl) ?_
  refine va_get (D := D) (ci := 8) (v := .int 11) (C := RX8) (T := TX8) (N := 14) hx hb hts iX8_putOnTape_X8 hown hK hP 0 rfl rfl 1 (by decide) (hts (.fieldLink RX8 13 "CatLeases" "tapeLength" "I") (List.mem_of_getElem? (i := 1) rfl)) (fun _ h9 => h9) (k_ss (k_ss (k_ss h_x_tapeLength))) dX8_putOnTape_24 ?_
  refine lv_iload_n hx hb dX8_putOnTape_27 rfl (lv_at hl 2 rfl) ?_
  refine lv_iload_n hx hb dX8_putOnTape_28 rfl (lv_at hl 0 rfl) ?_
  obtain ⟨w_4, ew_4⟩ : ∃ z : Int32, (p0.toUInt32 >>> (Int32.toUInt32 0 &&& Int32.toUInt32 31)).toInt32 = z := ⟨_, rfl⟩
  refine lv_iushr (v := w_4) hx hb dX8_putOnTape_29 ew_4 ?_
  refine lv_i2b hx hb dX8_putOnTape_30 rfl ?_
  refine va_bast hx hb hK hP hD hS 1 0 rfl rfl (k_in (i := 11) (n := 1600) (by decide)) dX8_putOnTape_31 (fun H locs hP hD hS => ?_)
  have hP : va_P D vwCl [(x, .inr (8, (((fs_x.set 1 (.int 9)).set 1 (.int 10)).set 1 (.int 11)))), (tp, .inl (g 0, 1600, .inl (upd (upd (upd (upd f_tp 8 (vp_nar .byte w_1.toInt8.toInt32)) 9 (vp_nar .byte w_2.toInt8.toInt32)) 10 (vp_nar .byte w_3.toInt8.toInt32)) 11 (vp_nar .byte w_4.toInt8.toInt32))))] H := hP
  have hD : va_D A [(x, .inr (8, (((fs_x.set 1 (.int 9)).set 1 (.int 10)).set 1 (.int 11)))), (tp, .inl (g 0, 1600, .inl (upd (upd (upd (upd f_tp 8 (vp_nar .byte w_1.toInt8.toInt32)) 9 (vp_nar .byte w_2.toInt8.toInt32)) 10 (vp_nar .byte w_3.toInt8.toInt32)) 11 (vp_nar .byte w_4.toInt8.toInt32))))] := hD
  refine lv_aload_n hx hb dX8_putOnTape_32 rfl (lv_at hl 1 rfl) ?_
  refine lv_dup hx hb dX8_putOnTape_33 rfl ?_
  refine va_get (D := D) (ci := 8) (v := .int 11) (C := RX8) (T := TX8) (N := 14) hx hb hts iX8_putOnTape_X8 hown hK hP 0 rfl rfl 1 (by decide) (hts (.fieldLink RX8 13 "CatLeases" "tapeLength" "I") (List.mem_of_getElem? (i := 1) rfl)) (fun _ h9 => h9) (k_ss (k_ss (k_ss h_x_tapeLength))) dX8_putOnTape_34 ?_
  refine lv_iconst (v := 1) hx hb dX8_putOnTape_37 (by decide) ?_
  refine lv_iadd hx hb dX8_putOnTape_38 ?_
  refine k_top (v := 12) (by decide) ?_
  refine va_put (D := D) (ci := 8) (v := .int 12) (ty := .int) (C := RX8) (T := TX8) (N := 14) hx hb hts iX8_putOnTape_X8 tyX8 tyX8_ok nmX8 hown hK hP hD hS 0 rfl rfl 1 (by decide) (hts (.fieldLink RX8 13 "CatLeases" "tapeLength" "I") (List.mem_of_getElem? (i := 1) rfl)) (fun _ h9 => h9) rfl (by decide +kernel) rfl rfl ((k_len (k_ss (k_ss (k_ss h_x_tapeLength))))) dX8_putOnTape_39 (fun H locs hP hD hS => ?_)
  have hP : va_P D vwCl [(x, .inr (8, ((((fs_x.set 1 (.int 9)).set 1 (.int 10)).set 1 (.int 11)).set 1 (.int 12)))), (tp, .inl (g 0, 1600, .inl (upd (upd (upd (upd f_tp 8 (vp_nar .byte w_1.toInt8.toInt32)) 9 (vp_nar .byte w_2.toInt8.toInt32)) 10 (vp_nar .byte w_3.toInt8.toInt32)) 11 (vp_nar .byte w_4.toInt8.toInt32))))] H := hP
  have hD : va_D A [(x, .inr (8, ((((fs_x.set 1 (.int 9)).set 1 (.int 10)).set 1 (.int 11)).set 1 (.int 12)))), (tp, .inl (g 0, 1600, .inl (upd (upd (upd (upd f_tp 8 (vp_nar .byte w_1.toInt8.toInt32)) 9 (vp_nar .byte w_2.toInt8.toInt32)) 10 (vp_nar .byte w_3.toInt8.toInt32)) 11 (vp_nar .byte w_4.toInt8.toInt32))))] := hD
  refine lv_iinc (v := (-8)) (lv' := [(2, .int (-8)), (0, .ref x), (1, .int p0)]) hx hb dX8_putOnTape_42 hl (k := 0) rfl (by decide) (by decide) rfl (fun ls hl => ?_)
  refine lv_goto (tgt := 3) hx hb dX8_putOnTape_45 (by decide) ?_
  refine lv_iload_n hx hb dX8_putOnTape_3 rfl (lv_at hl 0 rfl) ?_
  refine lv_if_lt (tgt := 48) hx hb dX8_putOnTape_4 (by decide) (fun _ => ?_) (fun c9 => absurd (by first | decide | rfl) c9)
  exact k_vret hx hb hr hlocks hK hP hD hS ⟨(upd (upd (upd (upd f_tp 8 (vp_nar .byte w_1.toInt8.toInt32)) 9 (vp_nar .byte w_2.toInt8.toInt32)) 10 (vp_nar .byte w_3.toInt8.toInt32)) 11 (vp_nar .byte w_4.toInt8.toInt32)), rfl⟩ dX8_putOnTape_48
set_option maxHeartbeats 4000000 in
set_option maxRecDepth 100000 in
theorem c_put12 (l : Launch) (D : va_G) (g : Nat → ClassId) (sz : Nat) (x : Nat) (p0 : Int32) (tp : Nat) (fs_x : List Value) (f_tp : Nat → Int32) (h_x_tape : fs_x[0]? = some (.ref tp)) (h_x_tapeLength : fs_x[1]? = some (.int 12)) : Met l yX8_putOnTape wsX8_putOnTape ({ frames := 0, cells := 0, slots := 0, locals := 0 }) (va_Pc [.ref x, .int p0] (kPre D g [(x, .inr (8, fs_x)), (tp, .inl (g 0, 1600, .inl f_tp))] sz)) (kQv D g (fun (u : va_W) => ∃ (fe_tp : Nat → Int32), u = [(x, .inr (8, ((((fs_x.set 1 (.int 13)).set 1 (.int 14)).set 1 (.int 15)).set 1 (.int 16)))), (tp, .inl (g 0, 1600, .inl fe_tp))]) (va_A [(x, .inr (8, fs_x)), (tp, .inl (g 0, 1600, .inl f_tp))] sz)) 0 0 (va_A [(x, .inr (8, fs_x)), (tp, .inl (g 0, 1600, .inl f_tp))] sz) := by
  refine k_head (cc := cX8_putOnTape) (maxL := 3) (ret := none) (by decide) rfl (Nat.le_of_ble_eq_true rfl) ?_
  intro p e s m below meth c ls A hx hb hr hlocks hml hown hin hts hA hP hK hD hS hl
  have hown : s.vm.findClass RX8 = some m.cls := hown
  have hl : lv_has ls 3 [(0, .ref x), (1, .int p0)] := hl
  refine lv_bipush (v := 24) hx hb dX8_putOnTape_0 (by decide) ?_
  refine lv_istore_n (lv' := [(2, .int 24), (0, .ref x), (1, .int p0)]) hx hb dX8_putOnTape_2 rfl hl (by decide) rfl (fun ls hl => ?_)
  refine lv_iload_n hx hb dX8_putOnTape_3 rfl (lv_at hl 0 rfl) ?_
  refine lv_if_lt (tgt := 48) hx hb dX8_putOnTape_4 (by decide) (fun c9 => absurd c9 (by first | decide | simp)) (fun _ => ?_)
  refine lv_aload_n hx hb dX8_putOnTape_7 rfl (lv_at hl 1 rfl) ?_
  refine va_get (D := D) (ci := 8) (v := .int 12) (C := RX8) (T := TX8) (N := 14) hx hb hts iX8_putOnTape_X8 hown hK hP 0 rfl rfl 1 (by decide) (hts (.fieldLink RX8 13 "CatLeases" "tapeLength" "I") (List.mem_of_getElem? (i := 1) rfl)) (fun _ h9 => h9) h_x_tapeLength dX8_putOnTape_8 ?_
  refine lv_aload_n hx hb dX8_putOnTape_11 rfl (lv_at hl 1 rfl) ?_
  refine va_get (D := D) (ci := 8) (v := .ref tp) (C := RX8) (T := TX8) (N := 14) hx hb hts iX8_putOnTape_X8 hown hK hP 0 rfl rfl 0 (by decide) (hts (.fieldLink RX8 9 "CatLeases" "tape" "[B") (List.mem_of_getElem? (i := 2) rfl)) (fun _ h9 => h9) h_x_tape dX8_putOnTape_12 ?_
  refine va_alen (v := 1600) hx hb hK hP 1 0 rfl rfl rfl dX8_putOnTape_15 ?_
  refine lv_icmp_ge (tgt := 42) hx hb dX8_putOnTape_16 (by decide) (fun c9 => absurd c9 (by first | decide | simp)) (fun _ => ?_)
  refine lv_aload_n hx hb dX8_putOnTape_19 rfl (lv_at hl 1 rfl) ?_
  refine va_get (D := D) (ci := 8) (v := .ref tp) (C := RX8) (T := TX8) (N := 14) hx hb hts iX8_putOnTape_X8 hown hK hP 0 rfl rfl 0 (by decide) (hts (.fieldLink RX8 9 "CatLeases" "tape" "[B") (List.mem_of_getElem? (i := 2) rfl)) (fun _ h9 => h9) h_x_tape dX8_putOnTape_20 ?_
  refine lv_aload_n hx hb dX8_putOnTape_23 rfl (lv_at hl 1 rfl) ?_
  refine va_get (D := D) (ci := 8) (v := .int 12) (C := RX8) (T := TX8) (N := 14) hx hb hts iX8_putOnTape_X8 hown hK hP 0 rfl rfl 1 (by decide) (hts (.fieldLink RX8 13 "CatLeases" "tapeLength" "I") (List.mem_of_getElem? (i := 1) rfl)) (fun _ h9 => h9) h_x_tapeLength dX8_putOnTape_24 ?_
  refine lv_iload_n hx hb dX8_putOnTape_27 rfl (lv_at hl 2 rfl) ?_
  refine lv_iload_n hx hb dX8_putOnTape_28 rfl (lv_at hl 0 rfl) ?_
  obtain ⟨w_1, ew_1⟩ : ∃ z : Int32, (p0.toUInt32 >>> (Int32.toUInt32 24 &&& Int32.toUInt32 31)).toInt32 = z := ⟨_, rfl⟩
  refine lv_iushr (v := w_1) hx hb dX8_putOnTape_29 ew_1 ?_
  refine lv_i2b hx hb dX8_putOnTape_30 rfl ?_
  refine va_bast hx hb hK hP hD hS 1 0 rfl rfl (k_in (i := 12) (n := 1600) (by decide)) dX8_putOnTape_31 (fun H locs hP hD hS => ?_)
  have hP : va_P D vwCl [(x, .inr (8, fs_x)), (tp, .inl (g 0, 1600, .inl (upd f_tp 12 (vp_nar .byte w_1.toInt8.toInt32))))] H := hP
  have hD : va_D A [(x, .inr (8, fs_x)), (tp, .inl (g 0, 1600, .inl (upd f_tp 12 (vp_nar .byte w_1.toInt8.toInt32))))] := hD
  refine lv_aload_n hx hb dX8_putOnTape_32 rfl (lv_at hl 1 rfl) ?_
  refine lv_dup hx hb dX8_putOnTape_33 rfl ?_
  refine va_get (D := D) (ci := 8) (v := .int 12) (C := RX8) (T := TX8) (N := 14) hx hb hts iX8_putOnTape_X8 hown hK hP 0 rfl rfl 1 (by decide) (hts (.fieldLink RX8 13 "CatLeases" "tapeLength" "I") (List.mem_of_getElem? (i := 1) rfl)) (fun _ h9 => h9) h_x_tapeLength dX8_putOnTape_34 ?_
  refine lv_iconst (v := 1) hx hb dX8_putOnTape_37 (by decide) ?_
  refine lv_iadd hx hb dX8_putOnTape_38 ?_
  refine k_top (v := 13) (by decide) ?_
  refine va_put (D := D) (ci := 8) (v := .int 13) (ty := .int) (C := RX8) (T := TX8) (N := 14) hx hb hts iX8_putOnTape_X8 tyX8 tyX8_ok nmX8 hown hK hP hD hS 0 rfl rfl 1 (by decide) (hts (.fieldLink RX8 13 "CatLeases" "tapeLength" "I") (List.mem_of_getElem? (i := 1) rfl)) (fun _ h9 => h9) rfl (by decide +kernel) rfl rfl ((k_len h_x_tapeLength)) dX8_putOnTape_39 (fun H locs hP hD hS => ?_)
  have hP : va_P D vwCl [(x, .inr (8, (fs_x.set 1 (.int 13)))), (tp, .inl (g 0, 1600, .inl (upd f_tp 12 (vp_nar .byte w_1.toInt8.toInt32))))] H := hP
  have hD : va_D A [(x, .inr (8, (fs_x.set 1 (.int 13)))), (tp, .inl (g 0, 1600, .inl (upd f_tp 12 (vp_nar .byte w_1.toInt8.toInt32))))] := hD
  refine lv_iinc (v := 16) (lv' := [(2, .int 16), (0, .ref x), (1, .int p0)]) hx hb dX8_putOnTape_42 hl (k := 0) rfl (by decide) (by decide) rfl (fun ls hl => ?_)
  refine lv_goto (tgt := 3) hx hb dX8_putOnTape_45 (by decide) ?_
  refine lv_iload_n hx hb dX8_putOnTape_3 rfl (lv_at hl 0 rfl) ?_
  refine lv_if_lt (tgt := 48) hx hb dX8_putOnTape_4 (by decide) (fun c9 => absurd c9 (by first | decide | simp)) (fun _ => ?_)
  refine lv_aload_n hx hb dX8_putOnTape_7 rfl (lv_at hl 1 rfl) ?_
  refine va_get (D := D) (ci := 8) (v := .int 13) (C := RX8) (T := TX8) (N := 14) hx hb hts iX8_putOnTape_X8 hown hK hP 0 rfl rfl 1 (by decide) (hts (.fieldLink RX8 13 "CatLeases" "tapeLength" "I") (List.mem_of_getElem? (i := 1) rfl)) (fun _ h9 => h9) (k_ss h_x_tapeLength) dX8_putOnTape_8 ?_
  refine lv_aload_n hx hb dX8_putOnTape_11 rfl (lv_at hl 1 rfl) ?_
  refine va_get (D := D) (ci := 8) (v := .ref tp) (C := RX8) (T := TX8) (N := 14) hx hb hts iX8_putOnTape_X8 hown hK hP 0 rfl rfl 0 (by decide) (hts (.fieldLink RX8 9 "CatLeases" "tape" "[B") (List.mem_of_getElem? (i := 2) rfl)) (fun _ h9 => h9) (k_sn (by decide) h_x_tape) dX8_putOnTape_12 ?_
  refine va_alen (v := 1600) hx hb hK hP 1 0 rfl rfl rfl dX8_putOnTape_15 ?_
  refine lv_icmp_ge (tgt := 42) hx hb dX8_putOnTape_16 (by decide) (fun c9 => absurd c9 (by first | decide | simp)) (fun _ => ?_)
  refine lv_aload_n hx hb dX8_putOnTape_19 rfl (lv_at hl 1 rfl) ?_
  refine va_get (D := D) (ci := 8) (v := .ref tp) (C := RX8) (T := TX8) (N := 14) hx hb hts iX8_putOnTape_X8 hown hK hP 0 rfl rfl 0 (by decide) (hts (.fieldLink RX8 9 "CatLeases" "tape" "[B") (List.mem_of_getElem? (i := 2) rfl)) (fun _ h9 => h9) (k_sn (by decide) h_x_tape) dX8_putOnTape_20 ?_
  refine lv_aload_n hx hb dX8_putOnTape_23 rfl (lv_at hl 1 rfl) ?_
  refine va_get (D := D) (ci := 8) (v := .int 13) (C := RX8) (T := TX8) (N := 14) hx hb hts iX8_putOnTape_X8 hown hK hP 0 rfl rfl 1 (by decide) (hts (.fieldLink RX8 13 "CatLeases" "tapeLength" "I") (List.mem_of_getElem? (i := 1) rfl)) (fun _ h9 => h9) (k_ss h_x_tapeLength) dX8_putOnTape_24 ?_
  refine lv_iload_n hx hb dX8_putOnTape_27 rfl (lv_at hl 2 rfl) ?_
  refine lv_iload_n hx hb dX8_putOnTape_28 rfl (lv_at hl 0 rfl) ?_
  obtain ⟨w_2, ew_2⟩ : ∃ z : Int32, (p0.toUInt32 >>> (Int32.toUInt32 16 &&& Int32.toUInt32 31)).toInt32 = z := ⟨_, rfl⟩
  refine lv_iushr (v := w_2) hx hb dX8_putOnTape_29 ew_2 ?_
  refine lv_i2b hx hb dX8_putOnTape_30 rfl ?_
  refine va_bast hx hb hK hP hD hS 1 0 rfl rfl (k_in (i := 13) (n := 1600) (by decide)) dX8_putOnTape_31 (fun H locs hP hD hS => ?_)
  have hP : va_P D vwCl [(x, .inr (8, (fs_x.set 1 (.int 13)))), (tp, .inl (g 0, 1600, .inl (upd (upd f_tp 12 (vp_nar .byte w_1.toInt8.toInt32)) 13 (vp_nar .byte w_2.toInt8.toInt32))))] H := hP
  have hD : va_D A [(x, .inr (8, (fs_x.set 1 (.int 13)))), (tp, .inl (g 0, 1600, .inl (upd (upd f_tp 12 (vp_nar .byte w_1.toInt8.toInt32)) 13 (vp_nar .byte w_2.toInt8.toInt32))))] := hD
  refine lv_aload_n hx hb dX8_putOnTape_32 rfl (lv_at hl 1 rfl) ?_
  refine lv_dup hx hb dX8_putOnTape_33 rfl ?_
  refine va_get (D := D) (ci := 8) (v := .int 13) (C := RX8) (T := TX8) (N := 14) hx hb hts iX8_putOnTape_X8 hown hK hP 0 rfl rfl 1 (by decide) (hts (.fieldLink RX8 13 "CatLeases" "tapeLength" "I") (List.mem_of_getElem? (i := 1) rfl)) (fun _ h9 => h9) (k_ss h_x_tapeLength) dX8_putOnTape_34 ?_
  refine lv_iconst (v := 1) hx hb dX8_putOnTape_37 (by decide) ?_
  refine lv_iadd hx hb dX8_putOnTape_38 ?_
  refine k_top (v := 14) (by decide) ?_
  refine va_put (D := D) (ci := 8) (v := .int 14) (ty := .int) (C := RX8) (T := TX8) (N := 14) hx hb hts iX8_putOnTape_X8 tyX8 tyX8_ok nmX8 hown hK hP hD hS 0 rfl rfl 1 (by decide) (hts (.fieldLink RX8 13 "CatLeases" "tapeLength" "I") (List.mem_of_getElem? (i := 1) rfl)) (fun _ h9 => h9) rfl (by decide +kernel) rfl rfl ((k_len (k_ss h_x_tapeLength))) dX8_putOnTape_39 (fun H locs hP hD hS => ?_)
  have hP : va_P D vwCl [(x, .inr (8, ((fs_x.set 1 (.int 13)).set 1 (.int 14)))), (tp, .inl (g 0, 1600, .inl (upd (upd f_tp 12 (vp_nar .byte w_1.toInt8.toInt32)) 13 (vp_nar .byte w_2.toInt8.toInt32))))] H := hP
  have hD : va_D A [(x, .inr (8, ((fs_x.set 1 (.int 13)).set 1 (.int 14)))), (tp, .inl (g 0, 1600, .inl (upd (upd f_tp 12 (vp_nar .byte w_1.toInt8.toInt32)) 13 (vp_nar .byte w_2.toInt8.toInt32))))] := hD
  refine lv_iinc (v := 8) (lv' := [(2, .int 8), (0, .ref x), (1, .int p0)]) hx hb dX8_putOnTape_42 hl (k := 0) rfl (by decide) (by decide) rfl (fun ls hl => ?_)
  refine lv_goto (tgt := 3) hx hb dX8_putOnTape_45 (by decide) ?_
  refine lv_iload_n hx hb dX8_putOnTape_3 rfl (lv_at hl 0 rfl) ?_
  refine lv_if_lt (tgt := 48) hx hb dX8_putOnTape_4 (by decide) (fun c9 => absurd c9 (by first | decide | simp)) (fun _ => ?_)
  refine lv_aload_n hx hb dX8_putOnTape_7 rfl (lv_at hl 1 rfl) ?_
  refine va_get (D := D) (ci := 8) (v := .int 14) (C := RX8) (T := TX8) (N := 14) hx hb hts iX8_putOnTape_X8 hown hK hP 0 rfl rfl 1 (by decide) (hts (.fieldLink RX8 13 "CatLeases" "tapeLength" "I") (List.mem_of_getElem? (i := 1) rfl)) (fun _ h9 => h9) (k_ss (k_ss h_x_tapeLength)) dX8_putOnTape_8 ?_
  refine lv_aload_n hx hb dX8_putOnTape_11 rfl (lv_at hl 1 rfl) ?_
  refine va_get (D := D) (ci := 8) (v := .ref tp) (C := RX8) (T := TX8) (N := 14) hx hb hts iX8_putOnTape_X8 hown hK hP 0 rfl rfl 0 (by decide) (hts (.fieldLink RX8 9 "CatLeases" "tape" "[B") (List.mem_of_getElem? (i := 2) rfl)) (fun _ h9 => h9) (k_sn (by decide) (k_sn (by decide) h_x_tape)) dX8_putOnTape_12 ?_
  refine va_alen (v := 1600) hx hb hK hP 1 0 rfl rfl rfl dX8_putOnTape_15 ?_
  refine lv_icmp_ge (tgt := 42) hx hb dX8_putOnTape_16 (by decide) (fun c9 => absurd c9 (by first | decide | simp)) (fun _ => ?_)
  refine lv_aload_n hx hb dX8_putOnTape_19 rfl (lv_at hl 1 rfl) ?_
  refine va_get (D := D) (ci := 8) (v := .ref tp) (C := RX8) (T := TX8) (N := 14) hx hb hts iX8_putOnTape_X8 hown hK hP 0 rfl rfl 0 (by decide) (hts (.fieldLink RX8 9 "CatLeases" "tape" "[B") (List.mem_of_getElem? (i := 2) rfl)) (fun _ h9 => h9) (k_sn (by decide) (k_sn (by decide) h_x_tape)) dX8_putOnTape_20 ?_
  refine lv_aload_n hx hb dX8_putOnTape_23 rfl (lv_at hl 1 rfl) ?_
  refine va_get (D := D) (ci := 8) (v := .int 14) (C := RX8) (T := TX8) (N := 14) hx hb hts iX8_putOnTape_X8 hown hK hP 0 rfl rfl 1 (by decide) (hts (.fieldLink RX8 13 "CatLeases" "tapeLength" "I") (List.mem_of_getElem? (i := 1) rfl)) (fun _ h9 => h9) (k_ss (k_ss h_x_tapeLength)) dX8_putOnTape_24 ?_
  refine lv_iload_n hx hb dX8_putOnTape_27 rfl (lv_at hl 2 rfl) ?_
  refine lv_iload_n hx hb dX8_putOnTape_28 rfl (lv_at hl 0 rfl) ?_
  obtain ⟨w_3, ew_3⟩ : ∃ z : Int32, (p0.toUInt32 >>> (Int32.toUInt32 8 &&& Int32.toUInt32 31)).toInt32 = z := ⟨_, rfl⟩
  refine lv_iushr (v := w_3) hx hb dX8_putOnTape_29 ew_3 ?_
  refine lv_i2b hx hb dX8_putOnTape_30 rfl ?_
  refine va_bast hx hb hK hP hD hS 1 0 rfl rfl (k_in (i := 14) (n := 1600) (by decide)) dX8_putOnTape_31 (fun H locs hP hD hS => ?_)
  have hP : va_P D vwCl [(x, .inr (8, ((fs_x.set 1 (.int 13)).set 1 (.int 14)))), (tp, .inl (g 0, 1600, .inl (upd (upd (upd f_tp 12 (vp_nar .byte w_1.toInt8.toInt32)) 13 (vp_nar .byte w_2.toInt8.toInt32)) 14 (vp_nar .byte w_3.toInt8.toInt32))))] H := hP
  have hD : va_D A [(x, .inr (8, ((fs_x.set 1 (.int 13)).set 1 (.int 14)))), (tp, .inl (g 0, 1600, .inl (upd (upd (upd f_tp 12 (vp_nar .byte w_1.toInt8.toInt32)) 13 (vp_nar .byte w_2.toInt8.toInt32)) 14 (vp_nar .byte w_3.toInt8.toInt32))))] := hD
  refine lv_aload_n hx hb dX8_putOnTape_32 rfl (lv_at hl 1 rfl) ?_
  refine lv_dup hx hb dX8_putOnTape_33 rfl ?_
  refine va_get (D := D) (ci := 8) (v := .int 14) (C := RX8) (T := TX8) (N := 14) hx hb hts iX8_putOnTape_X8 hown hK hP 0 rfl rfl 1 (by decide) (hts (.fieldLink RX8 13 "CatLeases" "tapeLength" "I") (List.mem_of_getElem? (i := 1) rfl)) (fun _ h9 => h9) (k_ss (k_ss h_x_tapeLength)) dX8_putOnTape_34 ?_
  refine lv_iconst (v := 1) hx hb dX8_putOnTape_37 (by decide) ?_
  refine lv_iadd hx hb dX8_putOnTape_38 ?_
  refine k_top (v := 15) (by decide) ?_
  refine va_put (D := D) (ci := 8) (v := .int 15) (ty := .int) (C := RX8) (T := TX8) (N := 14) hx hb hts iX8_putOnTape_X8 tyX8 tyX8_ok nmX8 hown hK hP hD hS 0 rfl rfl 1 (by decide) (hts (.fieldLink RX8 13 "CatLeases" "tapeLength" "I") (List.mem_of_getElem? (i := 1) rfl)) (fun _ h9 => h9) rfl (by decide +kernel) rfl rfl ((k_len (k_ss (k_ss h_x_tapeLength)))) dX8_putOnTape_39 (fun H locs hP hD hS => ?_)
  have hP : va_P D vwCl [(x, .inr (8, (((fs_x.set 1 (.int 13)).set 1 (.int 14)).set 1 (.int 15)))), (tp, .inl (g 0, 1600, .inl (upd (upd (upd f_tp 12 (vp_nar .byte w_1.toInt8.toInt32)) 13 (vp_nar .byte w_2.toInt8.toInt32)) 14 (vp_nar .byte w_3.toInt8.toInt32))))] H := hP
  have hD : va_D A [(x, .inr (8, (((fs_x.set 1 (.int 13)).set 1 (.int 14)).set 1 (.int 15)))), (tp, .inl (g 0, 1600, .inl (upd (upd (upd f_tp 12 (vp_nar .byte w_1.toInt8.toInt32)) 13 (vp_nar .byte w_2.toInt8.toInt32)) 14 (vp_nar .byte w_3.toInt8.toInt32))))] := hD
  refine lv_iinc (v := 0) (lv' := [(2, .int 0), (0, .ref x), (1, .int p0)]) hx hb dX8_putOnTape_42 hl (k := 0) rfl (by decide) (by decide) rfl (fun ls hl => ?_)
  refine lv_goto (tgt := 3) hx hb dX8_putOnTape_45 (by decide) ?_
  refine lv_iload_n hx hb dX8_putOnTape_3 rfl (lv_at hl 0 rfl) ?_
  refine lv_if_lt (tgt := 48) hx hb dX8_putOnTape_4 (by decide) (fun c9 => absurd c9 (by first | decide | simp)) (fun _ => ?_)
  refine lv_aload_n hx hb dX8_putOnTape_7 rfl (lv_at hl 1 rfl) ?_
  refine va_get (D := D) (ci := 8) (v := .int 15) (C := RX8) (T := TX8) (N := 14) hx hb hts iX8_putOnTape_X8 hown hK hP 0 rfl rfl 1 (by decide) (hts (.fieldLink RX8 13 "CatLeases" "tapeLength" "I") (List.mem_of_getElem? (i := 1) rfl)) (fun _ h9 => h9) (k_ss (k_ss (k_ss h_x_tapeLength))) dX8_putOnTape_8 ?_
  refine lv_aload_n hx hb dX8_putOnTape_11 rfl (lv_at hl 1 rfl) ?_
  refine va_get (D := D) (ci := 8) (v := .ref tp) (C := RX8) (T := TX8) (N := 14) hx hb hts iX8_putOnTape_X8 hown hK hP 0 rfl rfl 0 (by decide) (hts (.fieldLink RX8 9 "CatLeases" "tape" "[B") (List.mem_of_getElem? (i := 2) rfl)) (fun _ h9 => h9) (k_sn (by decide) (k_sn (by decide) (k_sn (by decide) h_x_tape))) dX8_putOnTape_12 ?_
  refine va_alen (v := 1600) hx hb hK hP 1 0 rfl rfl rfl dX8_putOnTape_15 ?_
  refine lv_icmp_ge (tgt := 42) hx hb dX8_putOnTape_16 (by decide) (fun c9 => absurd c9 (by first | decide | simp)) (fun _ => ?_)
  refine lv_aload_n hx hb dX8_putOnTape_19 rfl (lv_at hl 1 rfl) ?_
  refine va_get (D := D) (ci := 8) (v := .ref tp) (C := RX8) (T := TX8) (N := 14) hx hb hts iX8_putOnTape_X8 hown hK hP 0 rfl rfl 0 (by decide) (hts (.fieldLink RX8 9 "CatLeases" "tape" "[B") (List.mem_of_getElem? (i := 2) rfl)) (fun _ h9 => h9) (k_sn (by decide) (k_sn (by decide) (k_sn (by decide) h_x_tape))) dX8_putOnTape_20 ?_
  refine lv_aload_n hx hb dX8_putOnTape_23 rfl (lv_at hl 1 rfl) ?_
  refine va_get (D := D) (ci := 8) (v := .int 15) (C := RX8) (T := TX8) (N := 14) hx hb hts iX8_putOnTape_X8 hown hK hP 0 rfl rfl 1 (by decide) (hts (.fieldLink RX8 13 "CatLeases" "tapeLength" "I") (List.mem_of_getElem? (i := 1) rfl)) (fun _ h9 => h9) (k_ss (k_ss (k_ss h_x_tapeLength))) dX8_putOnTape_24 ?_
  refine lv_iload_n hx hb dX8_putOnTape_27 rfl (lv_at hl 2 rfl) ?_
  refine lv_iload_n hx hb dX8_putOnTape_28 rfl (lv_at hl 0 rfl) ?_
  obtain ⟨w_4, ew_4⟩ : ∃ z : Int32, (p0.toUInt32 >>> (Int32.toUInt32 0 &&& Int32.toUInt32 31)).toInt32 = z := ⟨_, rfl⟩
  refine lv_iushr (v := w_4) hx hb dX8_putOnTape_29 ew_4 ?_
  refine lv_i2b hx hb dX8_putOnTape_30 rfl ?_
  refine va_bast hx hb hK hP hD hS 1 0 rfl rfl (k_in (i := 15) (n := 1600) (by decide)) dX8_putOnTape_31 (fun H locs hP hD hS => ?_)
  have hP : va_P D vwCl [(x, .inr (8, (((fs_x.set 1 (.int 13)).set 1 (.int 14)).set 1 (.int 15)))), (tp, .inl (g 0, 1600, .inl (upd (upd (upd (upd f_tp 12 (vp_nar .byte w_1.toInt8.toInt32)) 13 (vp_nar .byte w_2.toInt8.toInt32)) 14 (vp_nar .byte w_3.toInt8.toInt32)) 15 (vp_nar .byte w_4.toInt8.toInt32))))] H := hP
  have hD : va_D A [(x, .inr (8, (((fs_x.set 1 (.int 13)).set 1 (.int 14)).set 1 (.int 15)))), (tp, .inl (g 0, 1600, .inl (upd (upd (upd (upd f_tp 12 (vp_nar .byte w_1.toInt8.toInt32)) 13 (vp_nar .byte w_2.toInt8.toInt32)) 14 (vp_nar .byte w_3.toInt8.toInt32)) 15 (vp_nar .byte w_4.toInt8.toInt32))))] := hD
  refine lv_aload_n hx hb dX8_putOnTape_32 rfl (lv_at hl 1 rfl) ?_
  refine lv_dup hx hb dX8_putOnTape_33 rfl ?_
  refine va_get (D := D) (ci := 8) (v := .int 15) (C := RX8) (T := TX8) (N := 14) hx hb hts iX8_putOnTape_X8 hown hK hP 0 rfl rfl 1 (by decide) (hts (.fieldLink RX8 13 "CatLeases" "tapeLength" "I") (List.mem_of_getElem? (i := 1) rfl)) (fun _ h9 => h9) (k_ss (k_ss (k_ss h_x_tapeLength))) dX8_putOnTape_34 ?_
  refine lv_iconst (v := 1) hx hb dX8_putOnTape_37 (by decide) ?_
  refine lv_iadd hx hb dX8_putOnTape_38 ?_
  refine k_top (v := 16) (by decide) ?_
  refine va_put (D := D) (ci := 8) (v := .int 16) (ty := .int) (C := RX8) (T := TX8) (N := 14) hx hb hts iX8_putOnTape_X8 tyX8 tyX8_ok nmX8 hown hK hP hD hS 0 rfl rfl 1 (by decide) (hts (.fieldLink RX8 13 "CatLeases" "tapeLength" "I") (List.mem_of_getElem? (i := 1) rfl)) (fun _ h9 => h9) rfl (by decide +kernel) rfl rfl ((k_len (k_ss (k_ss (k_ss h_x_tapeLength))))) dX8_putOnTape_39 (fun H locs hP hD hS => ?_)
  have hP : va_P D vwCl [(x, .inr (8, ((((fs_x.set 1 (.int 13)).set 1 (.int 14)).set 1 (.int 15)).set 1 (.int 16)))), (tp, .inl (g 0, 1600, .inl (upd (upd (upd (upd f_tp 12 (vp_nar .byte w_1.toInt8.toInt32)) 13 (vp_nar .byte w_2.toInt8.toInt32)) 14 (vp_nar .byte w_3.toInt8.toInt32)) 15 (vp_nar .byte w_4.toInt8.toInt32))))] H := hP
  have hD : va_D A [(x, .inr (8, ((((fs_x.set 1 (.int 13)).set 1 (.int 14)).set 1 (.int 15)).set 1 (.int 16)))), (tp, .inl (g 0, 1600, .inl (upd (upd (upd (upd f_tp 12 (vp_nar .byte w_1.toInt8.toInt32)) 13 (vp_nar .byte w_2.toInt8.toInt32)) 14 (vp_nar .byte w_3.toInt8.toInt32)) 15 (vp_nar .byte w_4.toInt8.toInt32))))] := hD
  refine lv_iinc (v := (-8)) (lv' := [(2, .int (-8)), (0, .ref x), (1, .int p0)]) hx hb dX8_putOnTape_42 hl (k := 0) rfl (by decide) (by decide) rfl (fun ls hl => ?_)
  refine lv_goto (tgt := 3) hx hb dX8_putOnTape_45 (by decide) ?_
  refine lv_iload_n hx hb dX8_putOnTape_3 rfl (lv_at hl 0 rfl) ?_
  refine lv_if_lt (tgt := 48) hx hb dX8_putOnTape_4 (by decide) (fun _ => ?_) (fun c9 => absurd (by first | decide | rfl) c9)
  exact k_vret hx hb hr hlocks hK hP hD hS ⟨(upd (upd (upd (upd f_tp 12 (vp_nar .byte w_1.toInt8.toInt32)) 13 (vp_nar .byte w_2.toInt8.toInt32)) 14 (vp_nar .byte w_3.toInt8.toInt32)) 15 (vp_nar .byte w_4.toInt8.toInt32)), rfl⟩ dX8_putOnTape_48
set_option maxHeartbeats 4000000 in
set_option maxRecDepth 100000 in
theorem c_put16 (l : Launch) (D : va_G) (g : Nat → ClassId) (sz : Nat) (x : Nat) (p0 : Int32) (tp : Nat) (fs_x : List Value) (f_tp : Nat → Int32) (h_x_tape : fs_x[0]? = some (.ref tp)) (h_x_tapeLength : fs_x[1]? = some (.int 16)) : Met l yX8_putOnTape wsX8_putOnTape ({ frames := 0, cells := 0, slots := 0, locals := 0 }) (va_Pc [.ref x, .int p0] (kPre D g [(x, .inr (8, fs_x)), (tp, .inl (g 0, 1600, .inl f_tp))] sz)) (kQv D g (fun (u : va_W) => ∃ (fe_tp : Nat → Int32), u = [(x, .inr (8, ((((fs_x.set 1 (.int 17)).set 1 (.int 18)).set 1 (.int 19)).set 1 (.int 20)))), (tp, .inl (g 0, 1600, .inl fe_tp))]) (va_A [(x, .inr (8, fs_x)), (tp, .inl (g 0, 1600, .inl f_tp))] sz)) 0 0 (va_A [(x, .inr (8, fs_x)), (tp, .inl (g 0, 1600, .inl f_tp))] sz) := by
  refine k_head (cc := cX8_putOnTape) (maxL := 3) (ret := none) (by decide) rfl (Nat.le_of_ble_eq_true rfl) ?_
  intro p e s m below meth c ls A hx hb hr hlocks hml hown hin hts hA hP hK hD hS hl
  have hown : s.vm.findClass RX8 = some m.cls := hown
  have hl : lv_has ls 3 [(0, .ref x), (1, .int p0)] := hl
  refine lv_bipush (v := 24) hx hb dX8_putOnTape_0 (by decide) ?_
  refine lv_istore_n (lv' := [(2, .int 24), (0, .ref x), (1, .int p0)]) hx hb dX8_putOnTape_2 rfl hl (by decide) rfl (fun ls hl => ?_)
  refine lv_iload_n hx hb dX8_putOnTape_3 rfl (lv_at hl 0 rfl) ?_
  refine lv_if_lt (tgt := 48) hx hb dX8_putOnTape_4 (by decide) (fun c9 => absurd c9 (by first | decide | simp)) (fun _ => ?_)
  refine lv_aload_n hx hb dX8_putOnTape_7 rfl (lv_at hl 1 rfl) ?_
  refine va_get (D := D) (ci := 8) (v := .int 16) (C := RX8) (T := TX8) (N := 14) hx hb hts iX8_putOnTape_X8 hown hK hP 0 rfl rfl 1 (by decide) (hts (.fieldLink RX8 13 "CatLeases" "tapeLength" "I") (List.mem_of_getElem? (i := 1) rfl)) (fun _ h9 => h9) h_x_tapeLength dX8_putOnTape_8 ?_
  refine lv_aload_n hx hb dX8_putOnTape_11 rfl (lv_at hl 1 rfl) ?_
  refine va_get (D := D) (ci := 8) (v := .ref tp) (C := RX8) (T := TX8) (N := 14) hx hb hts iX8_putOnTape_X8 hown hK hP 0 rfl rfl 0 (by decide) (hts (.fieldLink RX8 9 "CatLeases" "tape" "[B") (List.mem_of_getElem? (i := 2) rfl)) (fun _ h9 => h9) h_x_tape dX8_putOnTape_12 ?_
  refine va_alen (v := 1600) hx hb hK hP 1 0 rfl rfl rfl dX8_putOnTape_15 ?_
  refine lv_icmp_ge (tgt := 42) hx hb dX8_putOnTape_16 (by decide) (fun c9 => absurd c9 (by first | decide | simp)) (fun _ => ?_)
  refine lv_aload_n hx hb dX8_putOnTape_19 rfl (lv_at hl 1 rfl) ?_
  refine va_get (D := D) (ci := 8) (v := .ref tp) (C := RX8) (T := TX8) (N := 14) hx hb hts iX8_putOnTape_X8 hown hK hP 0 rfl rfl 0 (by decide) (hts (.fieldLink RX8 9 "CatLeases" "tape" "[B") (List.mem_of_getElem? (i := 2) rfl)) (fun _ h9 => h9) h_x_tape dX8_putOnTape_20 ?_
  refine lv_aload_n hx hb dX8_putOnTape_23 rfl (lv_at hl 1 rfl) ?_
  refine va_get (D := D) (ci := 8) (v := .int 16) (C := RX8) (T := TX8) (N := 14) hx hb hts iX8_putOnTape_X8 hown hK hP 0 rfl rfl 1 (by decide) (hts (.fieldLink RX8 13 "CatLeases" "tapeLength" "I") (List.mem_of_getElem? (i := 1) rfl)) (fun _ h9 => h9) h_x_tapeLength dX8_putOnTape_24 ?_
  refine lv_iload_n hx hb dX8_putOnTape_27 rfl (lv_at hl 2 rfl) ?_
  refine lv_iload_n hx hb dX8_putOnTape_28 rfl (lv_at hl 0 rfl) ?_
  obtain ⟨w_1, ew_1⟩ : ∃ z : Int32, (p0.toUInt32 >>> (Int32.toUInt32 24 &&& Int32.toUInt32 31)).toInt32 = z := ⟨_, rfl⟩
  refine lv_iushr (v := w_1) hx hb dX8_putOnTape_29 ew_1 ?_
  refine lv_i2b hx hb dX8_putOnTape_30 rfl ?_
  refine va_bast hx hb hK hP hD hS 1 0 rfl rfl (k_in (i := 16) (n := 1600) (by decide)) dX8_putOnTape_31 (fun H locs hP hD hS => ?_)
  have hP : va_P D vwCl [(x, .inr (8, fs_x)), (tp, .inl (g 0, 1600, .inl (upd f_tp 16 (vp_nar .byte w_1.toInt8.toInt32))))] H := hP
  have hD : va_D A [(x, .inr (8, fs_x)), (tp, .inl (g 0, 1600, .inl (upd f_tp 16 (vp_nar .byte w_1.toInt8.toInt32))))] := hD
  refine lv_aload_n hx hb dX8_putOnTape_32 rfl (lv_at hl 1 rfl) ?_
  refine lv_dup hx hb dX8_putOnTape_33 rfl ?_
  refine va_get (D := D) (ci := 8) (v := .int 16) (C := RX8) (T := TX8) (N := 14) hx hb hts iX8_putOnTape_X8 hown hK hP 0 rfl rfl 1 (by decide) (hts (.fieldLink RX8 13 "CatLeases" "tapeLength" "I") (List.mem_of_getElem? (i := 1) rfl)) (fun _ h9 => h9) h_x_tapeLength dX8_putOnTape_34 ?_
  refine lv_iconst (v := 1) hx hb dX8_putOnTape_37 (by decide) ?_
  refine lv_iadd hx hb dX8_putOnTape_38 ?_
  refine k_top (v := 17) (by decide) ?_
  refine va_put (D := D) (ci := 8) (v := .int 17) (ty := .int) (C := RX8) (T := TX8) (N := 14) hx hb hts iX8_putOnTape_X8 tyX8 tyX8_ok nmX8 hown hK hP hD hS 0 rfl rfl 1 (by decide) (hts (.fieldLink RX8 13 "CatLeases" "tapeLength" "I") (List.mem_of_getElem? (i := 1) rfl)) (fun _ h9 => h9) rfl (by decide +kernel) rfl rfl ((k_len h_x_tapeLength)) dX8_putOnTape_39 (fun H locs hP hD hS => ?_)
  have hP : va_P D vwCl [(x, .inr (8, (fs_x.set 1 (.int 17)))), (tp, .inl (g 0, 1600, .inl (upd f_tp 16 (vp_nar .byte w_1.toInt8.toInt32))))] H := hP
  have hD : va_D A [(x, .inr (8, (fs_x.set 1 (.int 17)))), (tp, .inl (g 0, 1600, .inl (upd f_tp 16 (vp_nar .byte w_1.toInt8.toInt32))))] := hD
  refine lv_iinc (v := 16) (lv' := [(2, .int 16), (0, .ref x), (1, .int p0)]) hx hb dX8_putOnTape_42 hl (k := 0) rfl (by decide) (by decide) rfl (fun ls hl => ?_)
  refine lv_goto (tgt := 3) hx hb dX8_putOnTape_45 (by decide) ?_
  refine lv_iload_n hx hb dX8_putOnTape_3 rfl (lv_at hl 0 rfl) ?_
  refine lv_if_lt (tgt := 48) hx hb dX8_putOnTape_4 (by decide) (fun c9 => absurd c9 (by first | decide | simp)) (fun _ => ?_)
  refine lv_aload_n hx hb dX8_putOnTape_7 rfl (lv_at hl 1 rfl) ?_
  refine va_get (D := D) (ci := 8) (v := .int 17) (C := RX8) (T := TX8) (N := 14) hx hb hts iX8_putOnTape_X8 hown hK hP 0 rfl rfl 1 (by decide) (hts (.fieldLink RX8 13 "CatLeases" "tapeLength" "I") (List.mem_of_getElem? (i := 1) rfl)) (fun _ h9 => h9) (k_ss h_x_tapeLength) dX8_putOnTape_8 ?_
  refine lv_aload_n hx hb dX8_putOnTape_11 rfl (lv_at hl 1 rfl) ?_
  refine va_get (D := D) (ci := 8) (v := .ref tp) (C := RX8) (T := TX8) (N := 14) hx hb hts iX8_putOnTape_X8 hown hK hP 0 rfl rfl 0 (by decide) (hts (.fieldLink RX8 9 "CatLeases" "tape" "[B") (List.mem_of_getElem? (i := 2) rfl)) (fun _ h9 => h9) (k_sn (by decide) h_x_tape) dX8_putOnTape_12 ?_
  refine va_alen (v := 1600) hx hb hK hP 1 0 rfl rfl rfl dX8_putOnTape_15 ?_
  refine lv_icmp_ge (tgt := 42) hx hb dX8_putOnTape_16 (by decide) (fun c9 => absurd c9 (by first | decide | simp)) (fun _ => ?_)
  refine lv_aload_n hx hb dX8_putOnTape_19 rfl (lv_at hl 1 rfl) ?_
  refine va_get (D := D) (ci := 8) (v := .ref tp) (C := RX8) (T := TX8) (N := 14) hx hb hts iX8_putOnTape_X8 hown hK hP 0 rfl rfl 0 (by decide) (hts (.fieldLink RX8 9 "CatLeases" "tape" "[B") (List.mem_of_getElem? (i := 2) rfl)) (fun _ h9 => h9) (k_sn (by decide) h_x_tape) dX8_putOnTape_20 ?_
  refine lv_aload_n hx hb dX8_putOnTape_23 rfl (lv_at hl 1 rfl) ?_
  refine va_get (D := D) (ci := 8) (v := .int 17) (C := RX8) (T := TX8) (N := 14) hx hb hts iX8_putOnTape_X8 hown hK hP 0 rfl rfl 1 (by decide) (hts (.fieldLink RX8 13 "CatLeases" "tapeLength" "I") (List.mem_of_getElem? (i := 1) rfl)) (fun _ h9 => h9) (k_ss h_x_tapeLength) dX8_putOnTape_24 ?_
  refine lv_iload_n hx hb dX8_putOnTape_27 rfl (lv_at hl 2 rfl) ?_
  refine lv_iload_n hx hb dX8_putOnTape_28 rfl (lv_at hl 0 rfl) ?_
  obtain ⟨w_2, ew_2⟩ : ∃ z : Int32, (p0.toUInt32 >>> (Int32.toUInt32 16 &&& Int32.toUInt32 31)).toInt32 = z := ⟨_, rfl⟩
  refine lv_iushr (v := w_2) hx hb dX8_putOnTape_29 ew_2 ?_
  refine lv_i2b hx hb dX8_putOnTape_30 rfl ?_
  refine va_bast hx hb hK hP hD hS 1 0 rfl rfl (k_in (i := 17) (n := 1600) (by decide)) dX8_putOnTape_31 (fun H locs hP hD hS => ?_)
  have hP : va_P D vwCl [(x, .inr (8, (fs_x.set 1 (.int 17)))), (tp, .inl (g 0, 1600, .inl (upd (upd f_tp 16 (vp_nar .byte w_1.toInt8.toInt32)) 17 (vp_nar .byte w_2.toInt8.toInt32))))] H := hP
  have hD : va_D A [(x, .inr (8, (fs_x.set 1 (.int 17)))), (tp, .inl (g 0, 1600, .inl (upd (upd f_tp 16 (vp_nar .byte w_1.toInt8.toInt32)) 17 (vp_nar .byte w_2.toInt8.toInt32))))] := hD
  refine lv_aload_n hx hb dX8_putOnTape_32 rfl (lv_at hl 1 rfl) ?_
  refine lv_dup hx hb dX8_putOnTape_33 rfl ?_
  refine va_get (D := D) (ci := 8) (v := .int 17) (C := RX8) (T := TX8) (N := 14) hx hb hts iX8_putOnTape_X8 hown hK hP 0 rfl rfl 1 (by decide) (hts (.fieldLink RX8 13 "CatLeases" "tapeLength" "I") (List.mem_of_getElem? (i := 1) rfl)) (fun _ h9 => h9) (k_ss h_x_tapeLength) dX8_putOnTape_34 ?_
  refine lv_iconst (v := 1) hx hb dX8_putOnTape_37 (by decide) ?_
  refine lv_iadd hx hb dX8_putOnTape_38 ?_
  refine k_top (v := 18) (by decide) ?_
  refine va_put (D := D) (ci := 8) (v := .int 18) (ty := .int) (C := RX8) (T := TX8) (N := 14) hx hb hts iX8_putOnTape_X8 tyX8 tyX8_ok nmX8 hown hK hP hD hS 0 rfl rfl 1 (by decide) (hts (.fieldLink RX8 13 "CatLeases" "tapeLength" "I") (List.mem_of_getElem? (i := 1) rfl)) (fun _ h9 => h9) rfl (by decide +kernel) rfl rfl ((k_len (k_ss h_x_tapeLength))) dX8_putOnTape_39 (fun H locs hP hD hS => ?_)
  have hP : va_P D vwCl [(x, .inr (8, ((fs_x.set 1 (.int 17)).set 1 (.int 18)))), (tp, .inl (g 0, 1600, .inl (upd (upd f_tp 16 (vp_nar .byte w_1.toInt8.toInt32)) 17 (vp_nar .byte w_2.toInt8.toInt32))))] H := hP
  have hD : va_D A [(x, .inr (8, ((fs_x.set 1 (.int 17)).set 1 (.int 18)))), (tp, .inl (g 0, 1600, .inl (upd (upd f_tp 16 (vp_nar .byte w_1.toInt8.toInt32)) 17 (vp_nar .byte w_2.toInt8.toInt32))))] := hD
  refine lv_iinc (v := 8) (lv' := [(2, .int 8), (0, .ref x), (1, .int p0)]) hx hb dX8_putOnTape_42 hl (k := 0) rfl (by decide) (by decide) rfl (fun ls hl => ?_)
  refine lv_goto (tgt := 3) hx hb dX8_putOnTape_45 (by decide) ?_
  refine lv_iload_n hx hb dX8_putOnTape_3 rfl (lv_at hl 0 rfl) ?_
  refine lv_if_lt (tgt := 48) hx hb dX8_putOnTape_4 (by decide) (fun c9 => absurd c9 (by first | decide | simp)) (fun _ => ?_)
  refine lv_aload_n hx hb dX8_putOnTape_7 rfl (lv_at hl 1 rfl) ?_
  refine va_get (D := D) (ci := 8) (v := .int 18) (C := RX8) (T := TX8) (N := 14) hx hb hts iX8_putOnTape_X8 hown hK hP 0 rfl rfl 1 (by decide) (hts (.fieldLink RX8 13 "CatLeases" "tapeLength" "I") (List.mem_of_getElem? (i := 1) rfl)) (fun _ h9 => h9) (k_ss (k_ss h_x_tapeLength)) dX8_putOnTape_8 ?_
  refine lv_aload_n hx hb dX8_putOnTape_11 rfl (lv_at hl 1 rfl) ?_
  refine va_get (D := D) (ci := 8) (v := .ref tp) (C := RX8) (T := TX8) (N := 14) hx hb hts iX8_putOnTape_X8 hown hK hP 0 rfl rfl 0 (by decide) (hts (.fieldLink RX8 9 "CatLeases" "tape" "[B") (List.mem_of_getElem? (i := 2) rfl)) (fun _ h9 => h9) (k_sn (by decide) (k_sn (by decide) h_x_tape)) dX8_putOnTape_12 ?_
  refine va_alen (v := 1600) hx hb hK hP 1 0 rfl rfl rfl dX8_putOnTape_15 ?_
  refine lv_icmp_ge (tgt := 42) hx hb dX8_putOnTape_16 (by decide) (fun c9 => absurd c9 (by first | decide | simp)) (fun _ => ?_)
  refine lv_aload_n hx hb dX8_putOnTape_19 rfl (lv_at hl 1 rfl) ?_
  refine va_get (D := D) (ci := 8) (v := .ref tp) (C := RX8) (T := TX8) (N := 14) hx hb hts iX8_putOnTape_X8 hown hK hP 0 rfl rfl 0 (by decide) (hts (.fieldLink RX8 9 "CatLeases" "tape" "[B") (List.mem_of_getElem? (i := 2) rfl)) (fun _ h9 => h9) (k_sn (by decide) (k_sn (by decide) h_x_tape)) dX8_putOnTape_20 ?_
  refine lv_aload_n hx hb dX8_putOnTape_23 rfl (lv_at hl 1 rfl) ?_
  refine va_get (D := D) (ci := 8) (v := .int 18) (C := RX8) (T := TX8) (N := 14) hx hb hts iX8_putOnTape_X8 hown hK hP 0 rfl rfl 1 (by decide) (hts (.fieldLink RX8 13 "CatLeases" "tapeLength" "I") (List.mem_of_getElem? (i := 1) rfl)) (fun _ h9 => h9) (k_ss (k_ss h_x_tapeLength)) dX8_putOnTape_24 ?_
  refine lv_iload_n hx hb dX8_putOnTape_27 rfl (lv_at hl 2 rfl) ?_
  refine lv_iload_n hx hb dX8_putOnTape_28 rfl (lv_at hl 0 rfl) ?_
  obtain ⟨w_3, ew_3⟩ : ∃ z : Int32, (p0.toUInt32 >>> (Int32.toUInt32 8 &&& Int32.toUInt32 31)).toInt32 = z := ⟨_, rfl⟩
  refine lv_iushr (v := w_3) hx hb dX8_putOnTape_29 ew_3 ?_
  refine lv_i2b hx hb dX8_putOnTape_30 rfl ?_
  refine va_bast hx hb hK hP hD hS 1 0 rfl rfl (k_in (i := 18) (n := 1600) (by decide)) dX8_putOnTape_31 (fun H locs hP hD hS => ?_)
  have hP : va_P D vwCl [(x, .inr (8, ((fs_x.set 1 (.int 17)).set 1 (.int 18)))), (tp, .inl (g 0, 1600, .inl (upd (upd (upd f_tp 16 (vp_nar .byte w_1.toInt8.toInt32)) 17 (vp_nar .byte w_2.toInt8.toInt32)) 18 (vp_nar .byte w_3.toInt8.toInt32))))] H := hP
  have hD : va_D A [(x, .inr (8, ((fs_x.set 1 (.int 17)).set 1 (.int 18)))), (tp, .inl (g 0, 1600, .inl (upd (upd (upd f_tp 16 (vp_nar .byte w_1.toInt8.toInt32)) 17 (vp_nar .byte w_2.toInt8.toInt32)) 18 (vp_nar .byte w_3.toInt8.toInt32))))] := hD
  refine lv_aload_n hx hb dX8_putOnTape_32 rfl (lv_at hl 1 rfl) ?_
  refine lv_dup hx hb dX8_putOnTape_33 rfl ?_
  refine va_get (D := D) (ci := 8) (v := .int 18) (C := RX8) (T := TX8) (N := 14) hx hb hts iX8_putOnTape_X8 hown hK hP 0 rfl rfl 1 (by decide) (hts (.fieldLink RX8 13 "CatLeases" "tapeLength" "I") (List.mem_of_getElem? (i := 1) rfl)) (fun _ h9 => h9) (k_ss (k_ss h_x_tapeLength)) dX8_putOnTape_34 ?_
  refine lv_iconst (v := 1) hx hb dX8_putOnTape_37 (by decide) ?_
  refine lv_iadd hx hb dX8_putOnTape_38 ?_
  refine k_top (v := 19) (by decide) ?_
  refine va_put (D := D) (ci := 8) (v := .int 19) (ty := .int) (C := RX8) (T := TX8) (N := 14) hx hb hts iX8_putOnTape_X8 tyX8 tyX8_ok nmX8 hown hK hP hD hS 0 rfl rfl 1 (by decide) (hts (.fieldLink RX8 13 "CatLeases" "tapeLength" "I") (List.mem_of_getElem? (i := 1) rfl)) (fun _ h9 => h9) rfl (by decide +kernel) rfl rfl ((k_len (k_ss (k_ss h_x_tapeLength)))) dX8_putOnTape_39 (fun H locs hP hD hS => ?_)
  have hP : va_P D vwCl [(x, .inr (8, (((fs_x.set 1 (.int 17)).set 1 (.int 18)).set 1 (.int 19)))), (tp, .inl (g 0, 1600, .inl (upd (upd (upd f_tp 16 (vp_nar .byte w_1.toInt8.toInt32)) 17 (vp_nar .byte w_2.toInt8.toInt32)) 18 (vp_nar .byte w_3.toInt8.toInt32))))] H := hP
  have hD : va_D A [(x, .inr (8, (((fs_x.set 1 (.int 17)).set 1 (.int 18)).set 1 (.int 19)))), (tp, .inl (g 0, 1600, .inl (upd (upd (upd f_tp 16 (vp_nar .byte w_1.toInt8.toInt32)) 17 (vp_nar .byte w_2.toInt8.toInt32)) 18 (vp_nar .byte w_3.toInt8.toInt32))))] := hD
  refine lv_iinc (v := 0) (lv' := [(2, .int 0), (0, .ref x), (1, .int p0)]) hx hb dX8_putOnTape_42 hl (k := 0) rfl (by decide) (by decide) rfl (fun ls hl => ?_)
  refine lv_goto (tgt := 3) hx hb dX8_putOnTape_45 (by decide) ?_
  refine lv_iload_n hx hb dX8_putOnTape_3 rfl (lv_at hl 0 rfl) ?_
  refine lv_if_lt (tgt := 48) hx hb dX8_putOnTape_4 (by decide) (fun c9 => absurd c9 (by first | decide | simp)) (fun _ => ?_)
  refine lv_aload_n hx hb dX8_putOnTape_7 rfl (lv_at hl 1 rfl) ?_
  refine va_get (D := D) (ci := 8) (v := .int 19) (C := RX8) (T := TX8) (N := 14) hx hb hts iX8_putOnTape_X8 hown hK hP 0 rfl rfl 1 (by decide) (hts (.fieldLink RX8 13 "CatLeases" "tapeLength" "I") (List.mem_of_getElem? (i := 1) rfl)) (fun _ h9 => h9) (k_ss (k_ss (k_ss h_x_tapeLength))) dX8_putOnTape_8 ?_
  refine lv_aload_n hx hb dX8_putOnTape_11 rfl (lv_at hl 1 rfl) ?_
  refine va_get (D := D) (ci := 8) (v := .ref tp) (C := RX8) (T := TX8) (N := 14) hx hb hts iX8_putOnTape_X8 hown hK hP 0 rfl rfl 0 (by decide) (hts (.fieldLink RX8 9 "CatLeases" "tape" "[B") (List.mem_of_getElem? (i := 2) rfl)) (fun _ h9 => h9) (k_sn (by decide) (k_sn (by decide) (k_sn (by decide) h_x_tape))) dX8_putOnTape_12 ?_
  refine va_alen (v := 1600) hx hb hK hP 1 0 rfl rfl rfl dX8_putOnTape_15 ?_
  refine lv_icmp_ge (tgt := 42) hx hb dX8_putOnTape_16 (by decide) (fun c9 => absurd c9 (by first | decide | simp)) (fun _ => ?_)
  refine lv_aload_n hx hb dX8_putOnTape_19 rfl (lv_at hl 1 rfl) ?_
  refine va_get (D := D) (ci := 8) (v := .ref tp) (C := RX8) (T := TX8) (N := 14) hx hb hts iX8_putOnTape_X8 hown hK hP 0 rfl rfl 0 (by decide) (hts (.fieldLink RX8 9 "CatLeases" "tape" "[B") (List.mem_of_getElem? (i := 2) rfl)) (fun _ h9 => h9) (k_sn (by decide) (k_sn (by decide) (k_sn (by decide) h_x_tape))) dX8_putOnTape_20 ?_
  refine lv_aload_n hx hb dX8_putOnTape_23 rfl (lv_at hl 1 rfl) ?_
  refine va_get (D := D) (ci := 8) (v := .int 19) (C := RX8) (T := TX8) (N := 14) hx hb hts iX8_putOnTape_X8 hown hK hP 0 rfl rfl 1 (by decide) (hts (.fieldLink RX8 13 "CatLeases" "tapeLength" "I") (List.mem_of_getElem? (i := 1) rfl)) (fun _ h9 => h9) (k_ss (k_ss (k_ss h_x_tapeLength))) dX8_putOnTape_24 ?_
  refine lv_iload_n hx hb dX8_putOnTape_27 rfl (lv_at hl 2 rfl) ?_
  refine lv_iload_n hx hb dX8_putOnTape_28 rfl (lv_at hl 0 rfl) ?_
  obtain ⟨w_4, ew_4⟩ : ∃ z : Int32, (p0.toUInt32 >>> (Int32.toUInt32 0 &&& Int32.toUInt32 31)).toInt32 = z := ⟨_, rfl⟩
  refine lv_iushr (v := w_4) hx hb dX8_putOnTape_29 ew_4 ?_
  refine lv_i2b hx hb dX8_putOnTape_30 rfl ?_
  refine va_bast hx hb hK hP hD hS 1 0 rfl rfl (k_in (i := 19) (n := 1600) (by decide)) dX8_putOnTape_31 (fun H locs hP hD hS => ?_)
  have hP : va_P D vwCl [(x, .inr (8, (((fs_x.set 1 (.int 17)).set 1 (.int 18)).set 1 (.int 19)))), (tp, .inl (g 0, 1600, .inl (upd (upd (upd (upd f_tp 16 (vp_nar .byte w_1.toInt8.toInt32)) 17 (vp_nar .byte w_2.toInt8.toInt32)) 18 (vp_nar .byte w_3.toInt8.toInt32)) 19 (vp_nar .byte w_4.toInt8.toInt32))))] H := hP
  have hD : va_D A [(x, .inr (8, (((fs_x.set 1 (.int 17)).set 1 (.int 18)).set 1 (.int 19)))), (tp, .inl (g 0, 1600, .inl (upd (upd (upd (upd f_tp 16 (vp_nar .byte w_1.toInt8.toInt32)) 17 (vp_nar .byte w_2.toInt8.toInt32)) 18 (vp_nar .byte w_3.toInt8.toInt32)) 19 (vp_nar .byte w_4.toInt8.toInt32))))] := hD
  refine lv_aload_n hx hb dX8_putOnTape_32 rfl (lv_at hl 1 rfl) ?_
  refine lv_dup hx hb dX8_putOnTape_33 rfl ?_
  refine va_get (D := D) (ci := 8) (v := .int 19) (C := RX8) (T := TX8) (N := 14) hx hb hts iX8_putOnTape_X8 hown hK hP 0 rfl rfl 1 (by decide) (hts (.fieldLink RX8 13 "CatLeases" "tapeLength" "I") (List.mem_of_getElem? (i := 1) rfl)) (fun _ h9 => h9) (k_ss (k_ss (k_ss h_x_tapeLength))) dX8_putOnTape_34 ?_
  refine lv_iconst (v := 1) hx hb dX8_putOnTape_37 (by decide) ?_
  refine lv_iadd hx hb dX8_putOnTape_38 ?_
  refine k_top (v := 20) (by decide) ?_
  refine va_put (D := D) (ci := 8) (v := .int 20) (ty := .int) (C := RX8) (T := TX8) (N := 14) hx hb hts iX8_putOnTape_X8 tyX8 tyX8_ok nmX8 hown hK hP hD hS 0 rfl rfl 1 (by decide) (hts (.fieldLink RX8 13 "CatLeases" "tapeLength" "I") (List.mem_of_getElem? (i := 1) rfl)) (fun _ h9 => h9) rfl (by decide +kernel) rfl rfl ((k_len (k_ss (k_ss (k_ss h_x_tapeLength))))) dX8_putOnTape_39 (fun H locs hP hD hS => ?_)
  have hP : va_P D vwCl [(x, .inr (8, ((((fs_x.set 1 (.int 17)).set 1 (.int 18)).set 1 (.int 19)).set 1 (.int 20)))), (tp, .inl (g 0, 1600, .inl (upd (upd (upd (upd f_tp 16 (vp_nar .byte w_1.toInt8.toInt32)) 17 (vp_nar .byte w_2.toInt8.toInt32)) 18 (vp_nar .byte w_3.toInt8.toInt32)) 19 (vp_nar .byte w_4.toInt8.toInt32))))] H := hP
  have hD : va_D A [(x, .inr (8, ((((fs_x.set 1 (.int 17)).set 1 (.int 18)).set 1 (.int 19)).set 1 (.int 20)))), (tp, .inl (g 0, 1600, .inl (upd (upd (upd (upd f_tp 16 (vp_nar .byte w_1.toInt8.toInt32)) 17 (vp_nar .byte w_2.toInt8.toInt32)) 18 (vp_nar .byte w_3.toInt8.toInt32)) 19 (vp_nar .byte w_4.toInt8.toInt32))))] := hD
  refine lv_iinc (v := (-8)) (lv' := [(2, .int (-8)), (0, .ref x), (1, .int p0)]) hx hb dX8_putOnTape_42 hl (k := 0) rfl (by decide) (by decide) rfl (fun ls hl => ?_)
  refine lv_goto (tgt := 3) hx hb dX8_putOnTape_45 (by decide) ?_
  refine lv_iload_n hx hb dX8_putOnTape_3 rfl (lv_at hl 0 rfl) ?_
  refine lv_if_lt (tgt := 48) hx hb dX8_putOnTape_4 (by decide) (fun _ => ?_) (fun c9 => absurd (by first | decide | rfl) c9)
  exact k_vret hx hb hr hlocks hK hP hD hS ⟨(upd (upd (upd (upd f_tp 16 (vp_nar .byte w_1.toInt8.toInt32)) 17 (vp_nar .byte w_2.toInt8.toInt32)) 18 (vp_nar .byte w_3.toInt8.toInt32)) 19 (vp_nar .byte w_4.toInt8.toInt32)), rfl⟩ dX8_putOnTape_48
set_option maxHeartbeats 4000000 in
set_option maxRecDepth 100000 in
theorem c_feed (l : Launch) (D : va_G) (g : Nat → ClassId) (sz : Nat) (x : Nat) (p0 : Int32) (p1 : Int32) (p2 : Int32) (p3 : Int32) (p4 : Int32) (tp : Nat) (fs_x : List Value) (f_tp : Nat → Int32) (h_x_tape : fs_x[0]? = some (.ref tp)) (h_x_tapeLength : fs_x[1]? = some (.int 0)) : Met l yX8_feed wsX8_feed ({ frames := 1, cells := 0, slots := 0, locals := 22 }) (va_Pc [.ref x, .int p0, .int p1, .int p2, .int p3, .int p4] (kPre D g [(x, .inr (8, fs_x)), (tp, .inl (g 0, 1600, .inl f_tp))] sz)) (kQi D g (fun (r : Int32) (u : va_W) => 20 = r) (va_A [(x, .inr (8, fs_x)), (tp, .inl (g 0, 1600, .inl f_tp))] sz)) 0 0 (va_A [(x, .inr (8, fs_x)), (tp, .inl (g 0, 1600, .inl f_tp))] sz) := by
  refine k_head (cc := cX8_feed) (maxL := 6) (ret := (some .int)) (by decide) rfl (Nat.le_of_ble_eq_true rfl) ?_
  intro p e s m below meth c ls A hx hb hr hlocks hml hown hin hts hA hP hK hD hS hl
  have hown : s.vm.findClass RX8 = some m.cls := hown
  have hl : lv_has ls 6 [(0, .ref x), (1, .int p0), (2, .int p1), (3, .int p2), (4, .int p3), (5, .int p4)] := hl
  refine lv_aload_n hx hb dX8_feed_0 rfl (lv_at hl 0 rfl) ?_
  refine va_get (D := D) (ci := 8) (v := .int 0) (C := RX8) (T := TX8) (N := 14) hx hb hts iX8_feed_X8 hown hK hP 0 rfl rfl 1 (by decide) (hts (.fieldLink RX8 13 "CatLeases" "tapeLength" "I") (List.mem_of_getElem? (i := 1) rfl)) (fun _ h9 => h9) h_x_tapeLength dX8_feed_1 ?_
  refine lv_bipush (v := 20) hx hb dX8_feed_4 (by decide) ?_
  refine lv_iadd hx hb dX8_feed_6 ?_
  refine k_top (v := 20) (by decide) ?_
  refine lv_sipush (v := 1600) hx hb dX8_feed_7 (by decide) ?_
  refine lv_icmp_le (tgt := 15) hx hb dX8_feed_10 (by decide) (fun _ => ?_) (fun c9 => absurd (by first | decide | rfl) c9)
  refine lv_aload_n hx hb dX8_feed_15 rfl (lv_at hl 0 rfl) ?_
  refine lv_iload_n hx hb dX8_feed_16 rfl (lv_at hl 1 rfl) ?_
  refine k_gov (wr := []) hP hD hS hA [0, 1] [] rfl rfl (by decide) (by decide) (va_runV (As := [.int p0]) (rest := []) ⟨hx, hb, hml, hown, hts⟩ (c_put0 l D g _ x p0 tp fs_x f_tp h_x_tape h_x_tapeLength) (cwV 1 hts gX8_feed_X8_putOnTape rfl rfl rfl (by decide +kernel) ⟨Nat.le_of_ble_eq_true rfl, Nat.le_of_ble_eq_true rfl⟩) (k_preV hK (hP.sub [0, 1] rfl) (hD.sub [0, 1] (by decide) rfl) 8 0 rfl rfl) rfl rfl hl.1 rfl (lv_room (Nat.le_of_ble_eq_true rfl)) dX8_feed_17 ⟨(Nat.le_of_ble_eq_true rfl), (Nat.le_of_ble_eq_true rfl)⟩) (fun u_2 H locs hw hP hD hS => ?_)
  rcases hw with ⟨f_3, rfl⟩
  have hP := hP.sub (ws' := [(x, .inr (8, ((((fs_x.set 1 (.int 1)).set 1 (.int 2)).set 1 (.int 3)).set 1 (.int 4)))), (tp, .inl (g 0, 1600, .inl f_3))]) [0, 1] rfl
  have hD := hD.sub (ws' := [(x, .inr (8, ((((fs_x.set 1 (.int 1)).set 1 (.int 2)).set 1 (.int 3)).set 1 (.int 4)))), (tp, .inl (g 0, 1600, .inl f_3))]) [0, 1] (by decide) rfl
  refine lv_aload_n hx hb dX8_feed_20 rfl (lv_at hl 0 rfl) ?_
  refine lv_iload_n hx hb dX8_feed_21 rfl (lv_at hl 2 rfl) ?_
  refine k_gov (wr := []) hP hD hS hA [0, 1] [] rfl rfl (by decide) (by decide) (va_runV (As := [.int p1]) (rest := []) ⟨hx, hb, hml, hown, hts⟩ (c_put4 l D g _ x p1 tp ((((fs_x.set 1 (.int 1)).set 1 (.int 2)).set 1 (.int 3)).set 1 (.int 4)) f_3 (k_sn (by decide) (k_sn (by decide) (k_sn (by decide) (k_sn (by decide) h_x_tape)))) (k_ss (k_ss (k_ss (k_ss h_x_tapeLength))))) (cwV 1 hts gX8_feed_X8_putOnTape rfl rfl rfl (by decide +kernel) ⟨Nat.le_of_ble_eq_true rfl, Nat.le_of_ble_eq_true rfl⟩) (k_preV hK (hP.sub [0, 1] rfl) (hD.sub [0, 1] (by decide) rfl) 8 0 rfl rfl) rfl rfl hl.1 rfl (lv_room (Nat.le_of_ble_eq_true rfl)) dX8_feed_22 ⟨(Nat.le_of_ble_eq_true rfl), (Nat.le_of_ble_eq_true rfl)⟩) (fun u_5 H locs hw hP hD hS => ?_)
  rcases hw with ⟨f_6, rfl⟩
  have hP := hP.sub (ws' := [(x, .inr (8, ((((((((fs_x.set 1 (.int 1)).set 1 (.int 2)).set 1 (.int 3)).set 1 (.int 4)).set 1 (.int 5)).set 1 (.int 6)).set 1 (.int 7)).set 1 (.int 8)))), (tp, .inl (g 0, 1600, .inl f_6))]) [0, 1] rfl
  have hD := hD.sub (ws' := [(x, .inr (8, ((((((((fs_x.set 1 (.int 1)).set 1 (.int 2)).set 1 (.int 3)).set 1 (.int 4)).set 1 (.int 5)).set 1 (.int 6)).set 1 (.int 7)).set 1 (.int 8)))), (tp, .inl (g 0, 1600, .inl f_6))]) [0, 1] (by decide) rfl
  refine lv_aload_n hx hb dX8_feed_25 rfl (lv_at hl 0 rfl) ?_
  refine lv_iload_n hx hb dX8_feed_26 rfl (lv_at hl 3 rfl) ?_
  refine k_gov (wr := []) hP hD hS hA [0, 1] [] rfl rfl (by decide) (by decide) (va_runV (As := [.int p2]) (rest := []) ⟨hx, hb, hml, hown, hts⟩ (c_put8 l D g _ x p2 tp ((((((((fs_x.set 1 (.int 1)).set 1 (.int 2)).set 1 (.int 3)).set 1 (.int 4)).set 1 (.int 5)).set 1 (.int 6)).set 1 (.int 7)).set 1 (.int 8)) f_6 (k_sn (by decide) (k_sn (by decide) (k_sn (by decide) (k_sn (by decide) (k_sn (by decide) (k_sn (by decide) (k_sn (by decide) (k_sn (by decide) h_x_tape)))))))) (k_ss (k_ss (k_ss (k_ss (k_ss (k_ss (k_ss (k_ss h_x_tapeLength))))))))) (cwV 1 hts gX8_feed_X8_putOnTape rfl rfl rfl (by decide +kernel) ⟨Nat.le_of_ble_eq_true rfl, Nat.le_of_ble_eq_true rfl⟩) (k_preV hK (hP.sub [0, 1] rfl) (hD.sub [0, 1] (by decide) rfl) 8 0 rfl rfl) rfl rfl hl.1 rfl (lv_room (Nat.le_of_ble_eq_true rfl)) dX8_feed_27 ⟨(Nat.le_of_ble_eq_true rfl), (Nat.le_of_ble_eq_true rfl)⟩) (fun u_8 H locs hw hP hD hS => ?_)
  rcases hw with ⟨f_9, rfl⟩
  have hP := hP.sub (ws' := [(x, .inr (8, ((((((((((((fs_x.set 1 (.int 1)).set 1 (.int 2)).set 1 (.int 3)).set 1 (.int 4)).set 1 (.int 5)).set 1 (.int 6)).set 1 (.int 7)).set 1 (.int 8)).set 1 (.int 9)).set 1 (.int 10)).set 1 (.int 11)).set 1 (.int 12)))), (tp, .inl (g 0, 1600, .inl f_9))]) [0, 1] rfl
  have hD := hD.sub (ws' := [(x, .inr (8, ((((((((((((fs_x.set 1 (.int 1)).set 1 (.int 2)).set 1 (.int 3)).set 1 (.int 4)).set 1 (.int 5)).set 1 (.int 6)).set 1 (.int 7)).set 1 (.int 8)).set 1 (.int 9)).set 1 (.int 10)).set 1 (.int 11)).set 1 (.int 12)))), (tp, .inl (g 0, 1600, .inl f_9))]) [0, 1] (by decide) rfl
  refine lv_aload_n hx hb dX8_feed_30 rfl (lv_at hl 0 rfl) ?_
  refine lv_iload hx hb dX8_feed_31 (lv_at hl 4 rfl) ?_
  refine k_gov (wr := []) hP hD hS hA [0, 1] [] rfl rfl (by decide) (by decide) (va_runV (As := [.int p3]) (rest := []) ⟨hx, hb, hml, hown, hts⟩ (c_put12 l D g _ x p3 tp ((((((((((((fs_x.set 1 (.int 1)).set 1 (.int 2)).set 1 (.int 3)).set 1 (.int 4)).set 1 (.int 5)).set 1 (.int 6)).set 1 (.int 7)).set 1 (.int 8)).set 1 (.int 9)).set 1 (.int 10)).set 1 (.int 11)).set 1 (.int 12)) f_9 (k_sn (by decide) (k_sn (by decide) (k_sn (by decide) (k_sn (by decide) (k_sn (by decide) (k_sn (by decide) (k_sn (by decide) (k_sn (by decide) (k_sn (by decide) (k_sn (by decide) (k_sn (by decide) (k_sn (by decide) h_x_tape)))))))))))) (k_ss (k_ss (k_ss (k_ss (k_ss (k_ss (k_ss (k_ss (k_ss (k_ss (k_ss (k_ss h_x_tapeLength))))))))))))) (cwV 1 hts gX8_feed_X8_putOnTape rfl rfl rfl (by decide +kernel) ⟨Nat.le_of_ble_eq_true rfl, Nat.le_of_ble_eq_true rfl⟩) (k_preV hK (hP.sub [0, 1] rfl) (hD.sub [0, 1] (by decide) rfl) 8 0 rfl rfl) rfl rfl hl.1 rfl (lv_room (Nat.le_of_ble_eq_true rfl)) dX8_feed_33 ⟨(Nat.le_of_ble_eq_true rfl), (Nat.le_of_ble_eq_true rfl)⟩) (fun u_11 H locs hw hP hD hS => ?_)
  rcases hw with ⟨f_12, rfl⟩
  have hP := hP.sub (ws' := [(x, .inr (8, ((((((((((((((((fs_x.set 1 (.int 1)).set 1 (.int 2)).set 1 (.int 3)).set 1 (.int 4)).set 1 (.int 5)).set 1 (.int 6)).set 1 (.int 7)).set 1 (.int 8)).set 1 (.int 9)).set 1 (.int 10)).set 1 (.int 11)).set 1 (.int 12)).set 1 (.int 13)).set 1 (.int 14)).set 1 (.int 15)).set 1 (.int 16)))), (tp, .inl (g 0, 1600, .inl f_12))]) [0, 1] rfl
  have hD := hD.sub (ws' := [(x, .inr (8, ((((((((((((((((fs_x.set 1 (.int 1)).set 1 (.int 2)).set 1 (.int 3)).set 1 (.int 4)).set 1 (.int 5)).set 1 (.int 6)).set 1 (.int 7)).set 1 (.int 8)).set 1 (.int 9)).set 1 (.int 10)).set 1 (.int 11)).set 1 (.int 12)).set 1 (.int 13)).set 1 (.int 14)).set 1 (.int 15)).set 1 (.int 16)))), (tp, .inl (g 0, 1600, .inl f_12))]) [0, 1] (by decide) rfl
  refine lv_aload_n hx hb dX8_feed_36 rfl (lv_at hl 0 rfl) ?_
  refine lv_iload hx hb dX8_feed_37 (lv_at hl 5 rfl) ?_
  refine k_gov (wr := []) hP hD hS hA [0, 1] [] rfl rfl (by decide) (by decide) (va_runV (As := [.int p4]) (rest := []) ⟨hx, hb, hml, hown, hts⟩ (c_put16 l D g _ x p4 tp ((((((((((((((((fs_x.set 1 (.int 1)).set 1 (.int 2)).set 1 (.int 3)).set 1 (.int 4)).set 1 (.int 5)).set 1 (.int 6)).set 1 (.int 7)).set 1 (.int 8)).set 1 (.int 9)).set 1 (.int 10)).set 1 (.int 11)).set 1 (.int 12)).set 1 (.int 13)).set 1 (.int 14)).set 1 (.int 15)).set 1 (.int 16)) f_12 (k_sn (by decide) (k_sn (by decide) (k_sn (by decide) (k_sn (by decide) (k_sn (by decide) (k_sn (by decide) (k_sn (by decide) (k_sn (by decide) (k_sn (by decide) (k_sn (by decide) (k_sn (by decide) (k_sn (by decide) (k_sn (by decide) (k_sn (by decide) (k_sn (by decide) (k_sn (by decide) h_x_tape)))))))))))))))) (k_ss (k_ss (k_ss (k_ss (k_ss (k_ss (k_ss (k_ss (k_ss (k_ss (k_ss (k_ss (k_ss (k_ss (k_ss (k_ss h_x_tapeLength))))))))))))))))) (cwV 1 hts gX8_feed_X8_putOnTape rfl rfl rfl (by decide +kernel) ⟨Nat.le_of_ble_eq_true rfl, Nat.le_of_ble_eq_true rfl⟩) (k_preV hK (hP.sub [0, 1] rfl) (hD.sub [0, 1] (by decide) rfl) 8 0 rfl rfl) rfl rfl hl.1 rfl (lv_room (Nat.le_of_ble_eq_true rfl)) dX8_feed_39 ⟨(Nat.le_of_ble_eq_true rfl), (Nat.le_of_ble_eq_true rfl)⟩) (fun u_14 H locs hw hP hD hS => ?_)
  rcases hw with ⟨f_15, rfl⟩
  have hP := hP.sub (ws' := [(x, .inr (8, ((((((((((((((((((((fs_x.set 1 (.int 1)).set 1 (.int 2)).set 1 (.int 3)).set 1 (.int 4)).set 1 (.int 5)).set 1 (.int 6)).set 1 (.int 7)).set 1 (.int 8)).set 1 (.int 9)).set 1 (.int 10)).set 1 (.int 11)).set 1 (.int 12)).set 1 (.int 13)).set 1 (.int 14)).set 1 (.int 15)).set 1 (.int 16)).set 1 (.int 17)).set 1 (.int 18)).set 1 (.int 19)).set 1 (.int 20)))), (tp, .inl (g 0, 1600, .inl f_15))]) [0, 1] rfl
  have hD := hD.sub (ws' := [(x, .inr (8, ((((((((((((((((((((fs_x.set 1 (.int 1)).set 1 (.int 2)).set 1 (.int 3)).set 1 (.int 4)).set 1 (.int 5)).set 1 (.int 6)).set 1 (.int 7)).set 1 (.int 8)).set 1 (.int 9)).set 1 (.int 10)).set 1 (.int 11)).set 1 (.int 12)).set 1 (.int 13)).set 1 (.int 14)).set 1 (.int 15)).set 1 (.int 16)).set 1 (.int 17)).set 1 (.int 18)).set 1 (.int 19)).set 1 (.int 20)))), (tp, .inl (g 0, 1600, .inl f_15))]) [0, 1] (by decide) rfl
  refine lv_aload_n hx hb dX8_feed_42 rfl (lv_at hl 0 rfl) ?_
  refine va_get (D := D) (ci := 8) (v := .int 20) (C := RX8) (T := TX8) (N := 14) hx hb hts iX8_feed_X8 hown hK hP 0 rfl rfl 1 (by decide) (hts (.fieldLink RX8 13 "CatLeases" "tapeLength" "I") (List.mem_of_getElem? (i := 1) rfl)) (fun _ h9 => h9) (k_ss (k_ss (k_ss (k_ss (k_ss (k_ss (k_ss (k_ss (k_ss (k_ss (k_ss (k_ss (k_ss (k_ss (k_ss (k_ss (k_ss (k_ss (k_ss (k_ss h_x_tapeLength)))))))))))))))))))) dX8_feed_43 ?_
  exact k_iret hx hb hr hlocks hK hP hD hS rfl dX8_feed_46
