set_option maxHeartbeats 4000000 in
set_option maxRecDepth 100000 in
theorem c_isCat (l : Launch) (D : va_G) (g : Nat → ClassId) (sz : Nat) (x : Nat) (p0 : Int32) (mw : Nat) (fs_x : List Value) (fs_mw : List Value) (h_x_mews : fs_x[3]? = some (.ref mw)) (h_mw_cats : fs_mw[0]? = some (.int 0)) : Met l yX8_isCat wsX8_isCat ({ frames := 0, cells := 0, slots := 0, locals := 0 }) (va_Pc [.ref x, .int p0] (kPre D g [(x, .inr (8, fs_x)), (mw, .inr (4, fs_mw))] sz)) (kQi D g (fun (r : Int32) (u : va_W) => r = 0 ∧ u = [(x, .inr (8, fs_x)), (mw, .inr (4, fs_mw))]) (va_A [(x, .inr (8, fs_x)), (mw, .inr (4, fs_mw))] sz)) 0 0 (va_A [(x, .inr (8, fs_x)), (mw, .inr (4, fs_mw))] sz) := by
  refine k_head (cc := cX8_isCat) (maxL := 2) (ret := (some .boolean)) (by decide) rfl (Nat.le_of_ble_eq_true rfl) ?_
  intro p e s m below meth c ls A hx hb hr hlocks hml hown hin hts hA hP hK hD hS hl
  have hown : s.vm.findClass RX8 = some m.cls := hown
  have hl : lv_has ls 2 [(0, .ref x), (1, .int p0)] := hl
  refine lv_iload_n hx hb dX8_isCat_0 rfl (lv_at hl 1 rfl) ?_
  refine lv_if_lt (tgt := 19) hx hb dX8_isCat_1 (by decide) (fun c_1 => ?_) (fun c_1 => ?_)
  · refine lv_iconst (v := 0) hx hb dX8_isCat_19 (by decide) ?_
    exact k_zret hx hb hr hlocks rfl hK hP hD hS ⟨rfl, rfl⟩ dX8_isCat_20
  · refine lv_iload_n hx hb dX8_isCat_4 rfl (lv_at hl 1 rfl) ?_
    refine lv_aload_n hx hb dX8_isCat_5 rfl (lv_at hl 0 rfl) ?_
    refine va_get (D := D) (ci := 8) (v := .ref mw) (C := RX8) (T := TX8) (N := 14) hx hb hts iX8_isCat_X8 hown hK hP 0 rfl rfl 3 (by decide) (hts (.fieldLink RX8 27 "CatLeases" "mews" "LCatLeases$Mews;") (List.mem_of_getElem? (i := 1) rfl)) (fun _ h9 => h9) h_x_mews dX8_isCat_6 ?_
    refine va_get (D := D) (ci := 4) (v := .int 0) (C := RX4) (T := TX4) (N := 11) hx hb hts iX8_isCat_X4 hown hK hP 1 rfl rfl 0 (by decide) (hts (.fieldLink RX8 170 "CatLeases$Mews" "cats" "I") (List.mem_of_getElem? (i := 2) rfl)) (fun _ h9 => h9) h_mw_cats dX8_isCat_9 ?_
    refine lv_icmp_ge (tgt := 19) hx hb dX8_isCat_12 (by decide) (fun c_2 => ?_) (fun c_2 => ?_)
    · refine lv_iconst (v := 0) hx hb dX8_isCat_19 (by decide) ?_
      exact k_zret hx hb hr hlocks rfl hK hP hD hS ⟨rfl, rfl⟩ dX8_isCat_20
    · exfalso; have k0 : (0 : Int32).toInt = 0 := by decide; simp only [Int32.lt_iff_toInt_lt, Int32.le_iff_toInt_le, ← Int32.toInt_inj] at c_1 c_2; omega
set_option maxHeartbeats 4000000 in
set_option maxRecDepth 100000 in
theorem c_isRoom (l : Launch) (D : va_G) (g : Nat → ClassId) (sz : Nat) (x : Nat) (p0 : Int32) (mw : Nat) (fs_x : List Value) (fs_mw : List Value) (h_x_mews : fs_x[3]? = some (.ref mw)) (h_mw_rooms : fs_mw[1]? = some (.int 0)) : Met l yX8_isRoom wsX8_isRoom ({ frames := 0, cells := 0, slots := 0, locals := 0 }) (va_Pc [.ref x, .int p0] (kPre D g [(x, .inr (8, fs_x)), (mw, .inr (4, fs_mw))] sz)) (kQi D g (fun (r : Int32) (u : va_W) => r = 0 ∧ u = [(x, .inr (8, fs_x)), (mw, .inr (4, fs_mw))]) (va_A [(x, .inr (8, fs_x)), (mw, .inr (4, fs_mw))] sz)) 0 0 (va_A [(x, .inr (8, fs_x)), (mw, .inr (4, fs_mw))] sz) := by
  refine k_head (cc := cX8_isRoom) (maxL := 2) (ret := (some .boolean)) (by decide) rfl (Nat.le_of_ble_eq_true rfl) ?_
  intro p e s m below meth c ls A hx hb hr hlocks hml hown hin hts hA hP hK hD hS hl
  have hown : s.vm.findClass RX8 = some m.cls := hown
  have hl : lv_has ls 2 [(0, .ref x), (1, .int p0)] := hl
  refine lv_iload_n hx hb dX8_isRoom_0 rfl (lv_at hl 1 rfl) ?_
  refine lv_if_lt (tgt := 19) hx hb dX8_isRoom_1 (by decide) (fun c_1 => ?_) (fun c_1 => ?_)
  · refine lv_iconst (v := 0) hx hb dX8_isRoom_19 (by decide) ?_
    exact k_zret hx hb hr hlocks rfl hK hP hD hS ⟨rfl, rfl⟩ dX8_isRoom_20
  · refine lv_iload_n hx hb dX8_isRoom_4 rfl (lv_at hl 1 rfl) ?_
    refine lv_aload_n hx hb dX8_isRoom_5 rfl (lv_at hl 0 rfl) ?_
    refine va_get (D := D) (ci := 8) (v := .ref mw) (C := RX8) (T := TX8) (N := 14) hx hb hts iX8_isRoom_X8 hown hK hP 0 rfl rfl 3 (by decide) (hts (.fieldLink RX8 27 "CatLeases" "mews" "LCatLeases$Mews;") (List.mem_of_getElem? (i := 1) rfl)) (fun _ h9 => h9) h_x_mews dX8_isRoom_6 ?_
    refine va_get (D := D) (ci := 4) (v := .int 0) (C := RX4) (T := TX4) (N := 11) hx hb hts iX8_isRoom_X4 hown hK hP 1 rfl rfl 1 (by decide) (hts (.fieldLink RX8 173 "CatLeases$Mews" "rooms" "I") (List.mem_of_getElem? (i := 2) rfl)) (fun _ h9 => h9) h_mw_rooms dX8_isRoom_9 ?_
    refine lv_icmp_ge (tgt := 19) hx hb dX8_isRoom_12 (by decide) (fun c_2 => ?_) (fun c_2 => ?_)
    · refine lv_iconst (v := 0) hx hb dX8_isRoom_19 (by decide) ?_
      exact k_zret hx hb hr hlocks rfl hK hP hD hS ⟨rfl, rfl⟩ dX8_isRoom_20
    · exfalso; have k0 : (0 : Int32).toInt = 0 := by decide; simp only [Int32.lt_iff_toInt_lt, Int32.le_iff_toInt_le, ← Int32.toInt_inj] at c_1 c_2; omega
set_option maxHeartbeats 4000000 in
set_option maxRecDepth 100000 in
theorem c_isTenant (l : Launch) (D : va_G) (g : Nat → ClassId) (sz : Nat) (x : Nat) (p0 : Int32) (mw : Nat) (fs_x : List Value) (fs_mw : List Value) (h_x_mews : fs_x[3]? = some (.ref mw)) (h_mw_tenants : fs_mw[2]? = some (.int 0)) : Met l yX8_isTenant wsX8_isTenant ({ frames := 0, cells := 0, slots := 0, locals := 0 }) (va_Pc [.ref x, .int p0] (kPre D g [(x, .inr (8, fs_x)), (mw, .inr (4, fs_mw))] sz)) (kQi D g (fun (r : Int32) (u : va_W) => r = 0 ∧ u = [(x, .inr (8, fs_x)), (mw, .inr (4, fs_mw))]) (va_A [(x, .inr (8, fs_x)), (mw, .inr (4, fs_mw))] sz)) 0 0 (va_A [(x, .inr (8, fs_x)), (mw, .inr (4, fs_mw))] sz) := by
  refine k_head (cc := cX8_isTenant) (maxL := 2) (ret := (some .boolean)) (by decide) rfl (Nat.le_of_ble_eq_true rfl) ?_
  intro p e s m below meth c ls A hx hb hr hlocks hml hown hin hts hA hP hK hD hS hl
  have hown : s.vm.findClass RX8 = some m.cls := hown
  have hl : lv_has ls 2 [(0, .ref x), (1, .int p0)] := hl
  refine lv_iload_n hx hb dX8_isTenant_0 rfl (lv_at hl 1 rfl) ?_
  refine lv_if_lt (tgt := 19) hx hb dX8_isTenant_1 (by decide) (fun c_1 => ?_) (fun c_1 => ?_)
  · refine lv_iconst (v := 0) hx hb dX8_isTenant_19 (by decide) ?_
    exact k_zret hx hb hr hlocks rfl hK hP hD hS ⟨rfl, rfl⟩ dX8_isTenant_20
  · refine lv_iload_n hx hb dX8_isTenant_4 rfl (lv_at hl 1 rfl) ?_
    refine lv_aload_n hx hb dX8_isTenant_5 rfl (lv_at hl 0 rfl) ?_
    refine va_get (D := D) (ci := 8) (v := .ref mw) (C := RX8) (T := TX8) (N := 14) hx hb hts iX8_isTenant_X8 hown hK hP 0 rfl rfl 3 (by decide) (hts (.fieldLink RX8 27 "CatLeases" "mews" "LCatLeases$Mews;") (List.mem_of_getElem? (i := 1) rfl)) (fun _ h9 => h9) h_x_mews dX8_isTenant_6 ?_
    refine va_get (D := D) (ci := 4) (v := .int 0) (C := RX4) (T := TX4) (N := 11) hx hb hts iX8_isTenant_X4 hown hK hP 1 rfl rfl 2 (by decide) (hts (.fieldLink RX8 102 "CatLeases$Mews" "tenants" "I") (List.mem_of_getElem? (i := 2) rfl)) (fun _ h9 => h9) h_mw_tenants dX8_isTenant_9 ?_
    refine lv_icmp_ge (tgt := 19) hx hb dX8_isTenant_12 (by decide) (fun c_2 => ?_) (fun c_2 => ?_)
    · refine lv_iconst (v := 0) hx hb dX8_isTenant_19 (by decide) ?_
      exact k_zret hx hb hr hlocks rfl hK hP hD hS ⟨rfl, rfl⟩ dX8_isTenant_20
    · exfalso; have k0 : (0 : Int32).toInt = 0 := by decide; simp only [Int32.lt_iff_toInt_lt, Int32.le_iff_toInt_le, ← Int32.toInt_inj] at c_1 c_2; omega
set_option maxHeartbeats 4000000 in
set_option maxRecDepth 100000 in
theorem c_cat (l : Launch) (D : va_G) (g : Nat → ClassId) (sz : Nat) (x : Nat) (p0 : Int32) (p1 : Int32) (mw : Nat) (fs_x : List Value) (fs_mw : List Value) (h_x_mews : fs_x[3]? = some (.ref mw)) (h_mw_cats : fs_mw[0]? = some (.int 0)) : Met l yX8_cat wsX8_cat ({ frames := 1, cells := 0, slots := 0, locals := 21 }) (va_Pc [.ref x, .int p0, .int p1] (kPre D g [(x, .inr (8, fs_x)), (mw, .inr (4, fs_mw))] sz)) (kQi D g (fun (r : Int32) (u : va_W) => r = (-2)) (va_A [(x, .inr (8, fs_x)), (mw, .inr (4, fs_mw))] sz)) 0 0 (va_A [(x, .inr (8, fs_x)), (mw, .inr (4, fs_mw))] sz) := by
  refine k_head (cc := cX8_cat) (maxL := 4) (ret := (some .int)) (by decide) rfl (Nat.le_of_ble_eq_true rfl) ?_
  intro p e s m below meth c ls A hx hb hr hlocks hml hown hin hts hA hP hK hD hS hl
  have hown : s.vm.findClass RX8 = some m.cls := hown
  have hl : lv_has ls 4 [(0, .ref x), (1, .int p0), (2, .int p1)] := hl
  refine lv_aload_n hx hb dX8_cat_0 rfl (lv_at hl 0 rfl) ?_
  refine lv_iload_n hx hb dX8_cat_1 rfl (lv_at hl 1 rfl) ?_
  refine k_goi (wr := []) hP hD hS hA [0, 1] [] rfl rfl (by decide) (by decide) (va_runV (As := [.int p0]) (rest := []) ⟨hx, hb, hml, hown, hts⟩ (c_isCat l D g H.size x p0 mw fs_x fs_mw h_x_mews h_mw_cats) (cwV 1 hts gX8_cat_X8_isCat rfl rfl rfl (by decide +kernel) ⟨Nat.le_of_ble_eq_true rfl, Nat.le_of_ble_eq_true rfl⟩) (k_preV hK (hP.sub [0, 1] rfl) (hD.sub [0, 1] (by decide) rfl) 8 0 rfl rfl) rfl rfl hl.1 rfl (lv_room (Nat.le_of_ble_eq_true rfl)) dX8_cat_2 ⟨Nat.le_of_ble_eq_true rfl, Nat.le_of_ble_eq_true rfl⟩) (fun r_1 u_2 H locs hw hP hD hS => ?_)
  rcases hw with ⟨rfl, rfl⟩
  have hP := hP.sub (ws' := [(x, .inr (8, fs_x)), (mw, .inr (4, fs_mw))]) [0, 1] rfl
  have hD := hD.sub (ws' := [(x, .inr (8, fs_x)), (mw, .inr (4, fs_mw))]) [0, 1] (by decide) rfl
  refine lv_if_ne (tgt := 11) hx hb dX8_cat_5 (by decide) (fun c9 => absurd c9 (by first | decide | simp)) (fun _ => ?_)
  refine lv_bipush (v := (-2)) hx hb dX8_cat_8 (by decide) ?_
  exact k_iret hx hb hr hlocks hK hP hD hS rfl dX8_cat_10
set_option maxHeartbeats 4000000 in
set_option maxRecDepth 100000 in
theorem c_end (l : Launch) (D : va_G) (g : Nat → ClassId) (sz : Nat) (x : Nat) (p0 : Int32) (fs_x : List Value) (h_x_tapeLength : fs_x[1]? = some (.int 0)) : Met l yX8_end wsX8_end ({ frames := 0, cells := 0, slots := 0, locals := 0 }) (va_Pc [.ref x, .int p0] (kPre D g [(x, .inr (8, fs_x))] sz)) (kQi D g (fun (r : Int32) (u : va_W) => ((p0 < 0) ∧ r = (-1)) ∨ ((¬ p0 < 0) ∧ (p0 ≤ 0) ∧ r = p0) ∨ ((¬ p0 < 0) ∧ (¬ p0 ≤ 0) ∧ r = (-1))) (va_A [(x, .inr (8, fs_x))] sz)) 0 0 (va_A [(x, .inr (8, fs_x))] sz) := by
  refine k_head (cc := cX8_end) (maxL := 2) (ret := (some .int)) (by decide) rfl (Nat.le_of_ble_eq_true rfl) ?_
  intro p e s m below meth c ls A hx hb hr hlocks hml hown hin hts hA hP hK hD hS hl
  have hown : s.vm.findClass RX8 = some m.cls := hown
  have hl : lv_has ls 2 [(0, .ref x), (1, .int p0)] := hl
  refine lv_iload_n hx hb dX8_end_0 rfl (lv_at hl 1 rfl) ?_
  refine lv_if_lt (tgt := 12) hx hb dX8_end_1 (by decide) (fun c_1 => ?_) (fun c_1 => ?_)
  · refine lv_iconst (v := (-1)) hx hb dX8_end_12 (by decide) ?_
    exact k_iret hx hb hr hlocks hK hP hD hS (Or.inl ⟨c_1, rfl⟩) dX8_end_13
  · refine lv_iload_n hx hb dX8_end_4 rfl (lv_at hl 1 rfl) ?_
    refine lv_aload_n hx hb dX8_end_5 rfl (lv_at hl 0 rfl) ?_
    refine va_get (D := D) (ci := 8) (v := .int 0) (C := RX8) (T := TX8) (N := 14) hx hb hts iX8_end_X8 hown hK hP 0 rfl rfl 1 (by decide) (hts (.fieldLink RX8 13 "CatLeases" "tapeLength" "I") (List.mem_of_getElem? (i := 1) rfl)) (fun _ h9 => h9) h_x_tapeLength dX8_end_6 ?_
    refine lv_icmp_le (tgt := 14) hx hb dX8_end_9 (by decide) (fun c_2 => ?_) (fun c_2 => ?_)
    · refine lv_aload_n hx hb dX8_end_14 rfl (lv_at hl 0 rfl) ?_
      refine lv_iload_n hx hb dX8_end_15 rfl (lv_at hl 1 rfl) ?_
      refine va_put (D := D) (ci := 8) (v := .int p0) (ty := .int) (C := RX8) (T := TX8) (N := 14) hx hb hts iX8_end_X8 tyX8 tyX8_ok nmX8 hown hK hP hD hS 0 rfl rfl 1 (by decide) (hts (.fieldLink RX8 13 "CatLeases" "tapeLength" "I") (List.mem_of_getElem? (i := 1) rfl)) (fun _ h9 => h9) rfl (by decide +kernel) rfl rfl ((k_len h_x_tapeLength)) dX8_end_16 (fun H locs hP hD hS => ?_)
      have hP : va_P D vwCl [(x, .inr (8, (fs_x.set 1 (.int p0))))] H := hP
      have hD : va_D A [(x, .inr (8, (fs_x.set 1 (.int p0))))] := hD
      refine lv_iload_n hx hb dX8_end_19 rfl (lv_at hl 1 rfl) ?_
      exact k_iret hx hb hr hlocks hK hP hD hS (Or.inr (Or.inl ⟨c_1, c_2, rfl⟩)) dX8_end_20
    · refine lv_iconst (v := (-1)) hx hb dX8_end_12 (by decide) ?_
      exact k_iret hx hb hr hlocks hK hP hD hS (Or.inr (Or.inr ⟨c_1, c_2, rfl⟩)) dX8_end_13
set_option maxHeartbeats 4000000 in
set_option maxRecDepth 100000 in
theorem c_later (l : Launch) (D : va_G) (g : Nat → ClassId) (sz : Nat) (x : Nat) (p0 : Int32) (fs_x : List Value) (h_x_time : fs_x[13]? = some (.int 0)) : Met l yX8_later wsX8_later ({ frames := 0, cells := 0, slots := 0, locals := 0 }) (va_Pc [.ref x, .int p0] (kPre D g [(x, .inr (8, fs_x))] sz)) (kQi D g (fun (r : Int32) (u : va_W) => ((p0 < 0) ∧ r = (-1)) ∨ ((¬ p0 < 0) ∧ (1000 < p0) ∧ r = (-1)) ∨ ((¬ p0 < 0) ∧ (¬ 1000 < p0) ∧ ((0 + p0) ≤ 100000) ∧ r = (0 + p0)) ∨ ((¬ p0 < 0) ∧ (¬ 1000 < p0) ∧ (¬ (0 + p0) ≤ 100000) ∧ r = (-1))) (va_A [(x, .inr (8, fs_x))] sz)) 0 0 (va_A [(x, .inr (8, fs_x))] sz) := by
  refine k_head (cc := cX8_later) (maxL := 2) (ret := (some .int)) (by decide) rfl (Nat.le_of_ble_eq_true rfl) ?_
  intro p e s m below meth c ls A hx hb hr hlocks hml hown hin hts hA hP hK hD hS hl
  have hown : s.vm.findClass RX8 = some m.cls := hown
  have hl : lv_has ls 2 [(0, .ref x), (1, .int p0)] := hl
  refine lv_iload_n hx hb dX8_later_0 rfl (lv_at hl 1 rfl) ?_
  refine lv_if_lt (tgt := 23) hx hb dX8_later_1 (by decide) (fun c_1 => ?_) (fun c_1 => ?_)
  · refine lv_iconst (v := (-1)) hx hb dX8_later_23 (by decide) ?_
    exact k_iret hx hb hr hlocks hK hP hD hS (Or.inl ⟨c_1, rfl⟩) dX8_later_24
  · refine lv_iload_n hx hb dX8_later_4 rfl (lv_at hl 1 rfl) ?_
    refine lv_sipush (v := 1000) hx hb dX8_later_5 (by decide) ?_
    refine lv_icmp_gt (tgt := 23) hx hb dX8_later_8 (by decide) (fun c_2 => ?_) (fun c_2 => ?_)
    · refine lv_iconst (v := (-1)) hx hb dX8_later_23 (by decide) ?_
      exact k_iret hx hb hr hlocks hK hP hD hS (Or.inr (Or.inl ⟨c_1, c_2, rfl⟩)) dX8_later_24
    · refine lv_aload_n hx hb dX8_later_11 rfl (lv_at hl 0 rfl) ?_
      refine va_get (D := D) (ci := 8) (v := .int 0) (C := RX8) (T := TX8) (N := 14) hx hb hts iX8_later_X8 hown hK hP 0 rfl rfl 13 (by decide) (hts (.fieldLink RX8 80 "CatLeases" "time" "I") (List.mem_of_getElem? (i := 1) rfl)) (fun _ h9 => h9) h_x_time dX8_later_12 ?_
      refine lv_iload_n hx hb dX8_later_15 rfl (lv_at hl 1 rfl) ?_
      refine lv_iadd hx hb dX8_later_16 ?_
      refine lv_ldcw (v := 100000) hx hb hown (hts (.constant RX8 325 (100000)) (List.mem_of_getElem? (i := 2) rfl)) dX8_later_17 ?_
      refine lv_icmp_le (tgt := 25) hx hb dX8_later_20 (by decide) (fun c_3 => ?_) (fun c_3 => ?_)
      · refine lv_aload_n hx hb dX8_later_25 rfl (lv_at hl 0 rfl) ?_
        refine lv_dup hx hb dX8_later_26 rfl ?_
        refine va_get (D := D) (ci := 8) (v := .int 0) (C := RX8) (T := TX8) (N := 14) hx hb hts iX8_later_X8 hown hK hP 0 rfl rfl 13 (by decide) (hts (.fieldLink RX8 80 "CatLeases" "time" "I") (List.mem_of_getElem? (i := 1) rfl)) (fun _ h9 => h9) h_x_time dX8_later_27 ?_
        refine lv_iload_n hx hb dX8_later_30 rfl (lv_at hl 1 rfl) ?_
        refine lv_iadd hx hb dX8_later_31 ?_
        refine va_put (D := D) (ci := 8) (v := .int (0 + p0)) (ty := .int) (C := RX8) (T := TX8) (N := 14) hx hb hts iX8_later_X8 tyX8 tyX8_ok nmX8 hown hK hP hD hS 0 rfl rfl 13 (by decide) (hts (.fieldLink RX8 80 "CatLeases" "time" "I") (List.mem_of_getElem? (i := 1) rfl)) (fun _ h9 => h9) rfl (by decide +kernel) rfl rfl ((k_len h_x_time)) dX8_later_32 (fun H locs hP hD hS => ?_)
        have hP : va_P D vwCl [(x, .inr (8, (fs_x.set 13 (.int (0 + p0)))))] H := hP
        have hD : va_D A [(x, .inr (8, (fs_x.set 13 (.int (0 + p0)))))] := hD
        refine lv_aload_n hx hb dX8_later_35 rfl (lv_at hl 0 rfl) ?_
        refine va_get (D := D) (ci := 8) (v := .int (0 + p0)) (C := RX8) (T := TX8) (N := 14) hx hb hts iX8_later_X8 hown hK hP 0 rfl rfl 13 (by decide) (hts (.fieldLink RX8 80 "CatLeases" "time" "I") (List.mem_of_getElem? (i := 1) rfl)) (fun _ h9 => h9) (k_ss h_x_time) dX8_later_36 ?_
        exact k_iret hx hb hr hlocks hK hP hD hS (Or.inr (Or.inr (Or.inl ⟨c_1, c_2, c_3, rfl⟩))) dX8_later_39
      · refine lv_iconst (v := (-1)) hx hb dX8_later_23 (by decide) ?_
        exact k_iret hx hb hr hlocks hK hP hD hS (Or.inr (Or.inr (Or.inr ⟨c_1, c_2, c_3, rfl⟩))) dX8_later_24
set_option maxHeartbeats 4000000 in
set_option maxRecDepth 100000 in
theorem m_isIn (l : Launch) (D : va_G) (g : Nat → ClassId) (sz : Nat) (p0 : Int32) (p1 : Int32) (p2 : Int32) : Met l yX9_isIn wsX9_isIn ({ frames := 0, cells := 0, slots := 0, locals := 0 }) (va_Pc [.int p0, .int p1, .int p2] (kPre D g [] sz)) (kQi D g (fun (r : Int32) (u : va_W) => ((p0 < p1) ∧ r = 0 ∧ u = []) ∨ ((¬ p0 < p1) ∧ (p2 < p0) ∧ r = 0 ∧ u = []) ∨ ((¬ p0 < p1) ∧ (¬ p2 < p0) ∧ r = 1 ∧ u = [])) (va_A [] sz)) 0 0 (va_A [] sz) := by
  refine k_head (cc := cX9_isIn) (maxL := 3) (ret := (some .boolean)) (by decide) rfl (Nat.le_of_ble_eq_true rfl) ?_
  intro p e s m below meth c ls A hx hb hr hlocks hml hown hin hts hA hP hK hD hS hl
  have hown : s.vm.findClass RX9 = some m.cls := hown
  have hl : lv_has ls 3 [(0, .int p0), (1, .int p1), (2, .int p2)] := hl
  refine lv_iload_n hx hb dX9_isIn_0 rfl (lv_at hl 0 rfl) ?_
  refine lv_iload_n hx hb dX9_isIn_1 rfl (lv_at hl 1 rfl) ?_
  refine lv_icmp_lt (tgt := 14) hx hb dX9_isIn_2 (by decide) (fun c_1 => ?_) (fun c_1 => ?_)
  · refine lv_iconst (v := 0) hx hb dX9_isIn_14 (by decide) ?_
    exact k_zret hx hb hr hlocks rfl hK hP hD hS (Or.inl ⟨c_1, rfl, rfl⟩) dX9_isIn_15
  · refine lv_iload_n hx hb dX9_isIn_5 rfl (lv_at hl 0 rfl) ?_
    refine lv_iload_n hx hb dX9_isIn_6 rfl (lv_at hl 2 rfl) ?_
    refine lv_icmp_gt (tgt := 14) hx hb dX9_isIn_7 (by decide) (fun c_2 => ?_) (fun c_2 => ?_)
    · refine lv_iconst (v := 0) hx hb dX9_isIn_14 (by decide) ?_
      exact k_zret hx hb hr hlocks rfl hK hP hD hS (Or.inr (Or.inl ⟨c_1, c_2, rfl, rfl⟩)) dX9_isIn_15
    · refine lv_iconst (v := 1) hx hb dX9_isIn_10 (by decide) ?_
      refine lv_goto (tgt := 15) hx hb dX9_isIn_11 (by decide) ?_
      exact k_zret hx hb hr hlocks rfl hK hP hD hS (Or.inr (Or.inr ⟨c_1, c_2, rfl, rfl⟩)) dX9_isIn_15
set_option maxHeartbeats 4000000 in
set_option maxRecDepth 100000 in
theorem m_many (l : Launch) (D : va_G) (g : Nat → ClassId) (sz : Nat) (y : Nat) (yt : Nat) (fs_y : List Value) (h_y_tenants : fs_y[13]? = some (.ref yt)) (h_y_bank : fs_y[35]? = some (.int 0)) : Met l yX9_many wsX9_many ({ frames := 0, cells := 0, slots := 0, locals := 0 }) (va_Pc [.ref y] (kPre D g [(y, .inr (9, fs_y)), (yt, .inl (g 1, 2, .inl (fun _ => 0)))] sz)) (kQi D g (fun (r : Int32) (u : va_W) => r = 0 ∧ u = [(y, .inr (9, fs_y)), (yt, .inl (g 1, 2, .inl (fun _ => 0)))]) (va_A [(y, .inr (9, fs_y)), (yt, .inl (g 1, 2, .inl (fun _ => 0)))] sz)) 0 0 (va_A [(y, .inr (9, fs_y)), (yt, .inl (g 1, 2, .inl (fun _ => 0)))] sz) := by
  refine k_head (cc := cX9_many) (maxL := 1) (ret := (some .int)) (by decide) rfl (Nat.le_of_ble_eq_true rfl) ?_
  intro p e s m below meth c ls A hx hb hr hlocks hml hown hin hts hA hP hK hD hS hl
  have hown : s.vm.findClass RX9 = some m.cls := hown
  have hl : lv_has ls 1 [(0, .ref y)] := hl
  refine lv_aload_n hx hb dX9_many_0 rfl (lv_at hl 0 rfl) ?_
  refine va_get (D := D) (ci := 9) (v := .ref yt) (C := RX9) (T := TX9) (N := 67) hx hb hts iX9_many_X9 hown hK hP 0 rfl rfl 13 (by decide) (hts (.fieldLink RX9 27 "CatLeasesModel" "tenants" "[I") (List.mem_of_getElem? (i := 1) rfl)) (fun _ h9 => h9) h_y_tenants dX9_many_1 ?_
  refine lv_aload_n hx hb dX9_many_4 rfl (lv_at hl 0 rfl) ?_
  refine va_get (D := D) (ci := 9) (v := .int 0) (C := RX9) (T := TX9) (N := 67) hx hb hts iX9_many_X9 hown hK hP 0 rfl rfl 35 (by decide) (hts (.fieldLink RX9 268 "CatLeasesModel" "bank" "I") (List.mem_of_getElem? (i := 2) rfl)) (fun _ h9 => h9) h_y_bank dX9_many_5 ?_
  refine va_iald hx hb hK hP 1 1 rfl rfl (k_in (i := 0) (n := 2) (by decide)) dX9_many_8 ?_
  refine k_top (v := 0) rfl ?_
  exact k_iret hx hb hr hlocks hK hP hD hS ⟨rfl, rfl⟩ dX9_many_9
set_option maxHeartbeats 4000000 in
set_option maxRecDepth 100000 in
theorem m_isTenant (l : Launch) (D : va_G) (g : Nat → ClassId) (sz : Nat) (y : Nat) (p0 : Int32) (yt : Nat) (fs_y : List Value) (h_y_tenants : fs_y[13]? = some (.ref yt)) (h_y_bank : fs_y[35]? = some (.int 0)) : Met l yX9_isTenant wsX9_isTenant ({ frames := 1, cells := 0, slots := 0, locals := 22 }) (va_Pc [.ref y, .int p0] (kPre D g [(y, .inr (9, fs_y)), (yt, .inl (g 1, 2, .inl (fun _ => 0)))] sz)) (kQi D g (fun (r : Int32) (u : va_W) => r = 0 ∧ u = [(y, .inr (9, fs_y)), (yt, .inl (g 1, 2, .inl (fun _ => 0)))]) (va_A [(y, .inr (9, fs_y)), (yt, .inl (g 1, 2, .inl (fun _ => 0)))] sz)) 0 0 (va_A [(y, .inr (9, fs_y)), (yt, .inl (g 1, 2, .inl (fun _ => 0)))] sz) := by
  refine k_head (cc := cX9_isTenant) (maxL := 2) (ret := (some .boolean)) (by decide) rfl (Nat.le_of_ble_eq_true rfl) ?_
  intro p e s m below meth c ls A hx hb hr hlocks hml hown hin hts hA hP hK hD hS hl
  have hown : s.vm.findClass RX9 = some m.cls := hown
  have hl : lv_has ls 2 [(0, .ref y), (1, .int p0)] := hl
  refine lv_iload_n hx hb dX9_isTenant_0 rfl (lv_at hl 1 rfl) ?_
  refine lv_iconst (v := 0) hx hb dX9_isTenant_1 (by decide) ?_
  refine lv_aload_n hx hb dX9_isTenant_2 rfl (lv_at hl 0 rfl) ?_
  refine k_goi (wr := []) hP hD hS hA [0, 1] [] rfl rfl (by decide) (by decide) (va_runV (As := []) (rest := [.int 0, .int p0]) ⟨hx, hb, hml, hown, hts⟩ (m_many l D g H.size y yt fs_y h_y_tenants h_y_bank) (cwV 0 hts gX9_isTenant_X9_many rfl rfl rfl (by decide +kernel) ⟨Nat.le_of_ble_eq_true rfl, Nat.le_of_ble_eq_true rfl⟩) (k_preV hK (hP.sub [0, 1] rfl) (hD.sub [0, 1] (by decide) rfl) 9 0 rfl rfl) rfl rfl hl.1 rfl (lv_room (Nat.le_of_ble_eq_true rfl)) dX9_isTenant_3 ⟨Nat.le_of_ble_eq_true rfl, Nat.le_of_ble_eq_true rfl⟩) (fun r_1 u_2 H locs hw hP hD hS => ?_)
  rcases hw with ⟨rfl, rfl⟩
  have hP := hP.sub (ws' := [(y, .inr (9, fs_y)), (yt, .inl (g 1, 2, .inl (fun _ => 0)))]) [0, 1] rfl
  have hD := hD.sub (ws' := [(y, .inr (9, fs_y)), (yt, .inl (g 1, 2, .inl (fun _ => 0)))]) [0, 1] (by decide) rfl
  refine lv_iconst (v := 1) hx hb dX9_isTenant_6 (by decide) ?_
  refine lv_isub hx hb dX9_isTenant_7 ?_
  refine k_top (v := (-1)) (by decide) ?_
  refine k_goi (wr := [(y, .inr (9, fs_y)), (yt, .inl (g 1, 2, .inl (fun _ => 0)))]) hP hD hS hA [] [0, 1] rfl rfl (by decide) (by decide) (va_runS (As := [.int p0, .int 0, .int (-1)]) (rest := []) ⟨hx, hb, hml, hown, hts⟩ (m_isIn l D g H.size p0 0 (-1)) (va_cwS 3 hts gX9_isTenant_X9_isIn rfl rfl rfl (by decide +kernel) ⟨Nat.le_of_ble_eq_true rfl, Nat.le_of_ble_eq_true rfl⟩) (k_preS hK (hP.sub [] rfl) (hD.sub [] (by decide) rfl)) rfl rfl hl.1 rfl (lv_room (Nat.le_of_ble_eq_true rfl)) dX9_isTenant_8 ⟨Nat.le_of_ble_eq_true rfl, Nat.le_of_ble_eq_true rfl⟩) (fun r_3 u_4 H locs hw hP hD hS => ?_)
  rcases hw with ⟨c_5, rfl, rfl⟩ | ⟨c_6, c_7, rfl, rfl⟩ | ⟨c_8, c_9, rfl, rfl⟩
  · have hP := hP.sub (ws' := [(y, .inr (9, fs_y)), (yt, .inl (g 1, 2, .inl (fun _ => 0)))]) [0, 1] rfl
    have hD := hD.sub (ws' := [(y, .inr (9, fs_y)), (yt, .inl (g 1, 2, .inl (fun _ => 0)))]) [0, 1] (by decide) rfl
    exact k_zret hx hb hr hlocks rfl hK hP hD hS ⟨rfl, rfl⟩ dX9_isTenant_11
  · have hP := hP.sub (ws' := [(y, .inr (9, fs_y)), (yt, .inl (g 1, 2, .inl (fun _ => 0)))]) [0, 1] rfl
    have hD := hD.sub (ws' := [(y, .inr (9, fs_y)), (yt, .inl (g 1, 2, .inl (fun _ => 0)))]) [0, 1] (by decide) rfl
    exact k_zret hx hb hr hlocks rfl hK hP hD hS ⟨rfl, rfl⟩ dX9_isTenant_11
  · exfalso; have km1 : ((-1) : Int32).toInt = -1 := by decide; have k0 : (0 : Int32).toInt = 0 := by decide; simp only [Int32.lt_iff_toInt_lt, Int32.le_iff_toInt_le, ← Int32.toInt_inj] at c_8 c_9; omega
set_option maxHeartbeats 4000000 in
set_option maxRecDepth 100000 in
theorem m_end (l : Launch) (D : va_G) (g : Nat → ClassId) (sz : Nat) (y : Nat) (p0 : Int32) (fs_y : List Value) (h_y_taped : fs_y[2]? = some (.int 0)) : Met l yX9_end wsX9_end ({ frames := 0, cells := 0, slots := 0, locals := 0 }) (va_Pc [.ref y, .int p0] (kPre D g [(y, .inr (9, fs_y))] sz)) (kQi D g (fun (r : Int32) (u : va_W) => ((p0 < 0) ∧ r = (-1)) ∨ ((¬ p0 < 0) ∧ (p0 ≤ 0) ∧ r = p0) ∨ ((¬ p0 < 0) ∧ (¬ p0 ≤ 0) ∧ r = (-1))) (va_A [(y, .inr (9, fs_y))] sz)) 0 0 (va_A [(y, .inr (9, fs_y))] sz) := by
  refine k_head (cc := cX9_end) (maxL := 2) (ret := (some .int)) (by decide) rfl (Nat.le_of_ble_eq_true rfl) ?_
  intro p e s m below meth c ls A hx hb hr hlocks hml hown hin hts hA hP hK hD hS hl
  have hown : s.vm.findClass RX9 = some m.cls := hown
  have hl : lv_has ls 2 [(0, .ref y), (1, .int p0)] := hl
  refine lv_iload_n hx hb dX9_end_0 rfl (lv_at hl 1 rfl) ?_
  refine lv_if_lt (tgt := 12) hx hb dX9_end_1 (by decide) (fun c_1 => ?_) (fun c_1 => ?_)
  · refine lv_iconst (v := (-1)) hx hb dX9_end_12 (by decide) ?_
    exact k_iret hx hb hr hlocks hK hP hD hS (Or.inl ⟨c_1, rfl⟩) dX9_end_13
  · refine lv_iload_n hx hb dX9_end_4 rfl (lv_at hl 1 rfl) ?_
    refine lv_aload_n hx hb dX9_end_5 rfl (lv_at hl 0 rfl) ?_
    refine va_get (D := D) (ci := 9) (v := .int 0) (C := RX9) (T := TX9) (N := 67) hx hb hts iX9_end_X9 hown hK hP 0 rfl rfl 2 (by decide) (hts (.fieldLink RX9 265 "CatLeasesModel" "taped" "I") (List.mem_of_getElem? (i := 1) rfl)) (fun _ h9 => h9) h_y_taped dX9_end_6 ?_
    refine lv_icmp_le (tgt := 14) hx hb dX9_end_9 (by decide) (fun c_2 => ?_) (fun c_2 => ?_)
    · refine lv_aload_n hx hb dX9_end_14 rfl (lv_at hl 0 rfl) ?_
      refine lv_iload_n hx hb dX9_end_15 rfl (lv_at hl 1 rfl) ?_
      refine va_put (D := D) (ci := 9) (v := .int p0) (ty := .int) (C := RX9) (T := TX9) (N := 67) hx hb hts iX9_end_X9 tyX9 tyX9_ok nmX9 hown hK hP hD hS 0 rfl rfl 2 (by decide) (hts (.fieldLink RX9 265 "CatLeasesModel" "taped" "I") (List.mem_of_getElem? (i := 1) rfl)) (fun _ h9 => h9) rfl (by decide +kernel) rfl rfl ((k_len h_y_taped)) dX9_end_16 (fun H locs hP hD hS => ?_)
      have hP : va_P D vwCl [(y, .inr (9, (fs_y.set 2 (.int p0))))] H := hP
      have hD : va_D A [(y, .inr (9, (fs_y.set 2 (.int p0))))] := hD
      refine lv_iload_n hx hb dX9_end_19 rfl (lv_at hl 1 rfl) ?_
      exact k_iret hx hb hr hlocks hK hP hD hS (Or.inr (Or.inl ⟨c_1, c_2, rfl⟩)) dX9_end_20
    · refine lv_iconst (v := (-1)) hx hb dX9_end_12 (by decide) ?_
      exact k_iret hx hb hr hlocks hK hP hD hS (Or.inr (Or.inr ⟨c_1, c_2, rfl⟩)) dX9_end_13
set_option maxHeartbeats 4000000 in
set_option maxRecDepth 100000 in
theorem m_later (l : Launch) (D : va_G) (g : Nat → ClassId) (sz : Nat) (y : Nat) (p0 : Int32) (fs_y : List Value) (h_y_time : fs_y[64]? = some (.int 0)) : Met l yX9_later wsX9_later ({ frames := 1, cells := 0, slots := 0, locals := 22 }) (va_Pc [.ref y, .int p0] (kPre D g [(y, .inr (9, fs_y))] sz)) (kQi D g (fun (r : Int32) (u : va_W) => ((p0 < 0) ∧ r = (-1)) ∨ ((¬ p0 < 0) ∧ (1000 < p0) ∧ r = (-1)) ∨ ((¬ p0 < 0) ∧ (¬ 1000 < p0) ∧ ((0 + p0) ≤ 100000) ∧ r = (0 + p0)) ∨ ((¬ p0 < 0) ∧ (¬ 1000 < p0) ∧ (¬ (0 + p0) ≤ 100000) ∧ r = (-1))) (va_A [(y, .inr (9, fs_y))] sz)) 0 0 (va_A [(y, .inr (9, fs_y))] sz) := by
  refine k_head (cc := cX9_later) (maxL := 2) (ret := (some .int)) (by decide) rfl (Nat.le_of_ble_eq_true rfl) ?_
  intro p e s m below meth c ls A hx hb hr hlocks hml hown hin hts hA hP hK hD hS hl
  have hown : s.vm.findClass RX9 = some m.cls := hown
  have hl : lv_has ls 2 [(0, .ref y), (1, .int p0)] := hl
  refine lv_iload_n hx hb dX9_later_0 rfl (lv_at hl 1 rfl) ?_
  refine lv_iconst (v := 0) hx hb dX9_later_1 (by decide) ?_
  refine lv_sipush (v := 1000) hx hb dX9_later_2 (by decide) ?_
  refine k_goi (wr := [(y, .inr (9, fs_y))]) hP hD hS hA [] [0] rfl rfl (by decide) (by decide) (va_runS (As := [.int p0, .int 0, .int 1000]) (rest := []) ⟨hx, hb, hml, hown, hts⟩ (m_isIn l D g H.size p0 0 1000) (va_cwS 3 hts gX9_later_X9_isIn rfl rfl rfl (by decide +kernel) ⟨Nat.le_of_ble_eq_true rfl, Nat.le_of_ble_eq_true rfl⟩) (k_preS hK (hP.sub [] rfl) (hD.sub [] (by decide) rfl)) rfl rfl hl.1 rfl (lv_room (Nat.le_of_ble_eq_true rfl)) dX9_later_5 ⟨Nat.le_of_ble_eq_true rfl, Nat.le_of_ble_eq_true rfl⟩) (fun r_1 u_2 H locs hw hP hD hS => ?_)
  rcases hw with ⟨c_3, rfl, rfl⟩ | ⟨c_4, c_5, rfl, rfl⟩ | ⟨c_6, c_7, rfl, rfl⟩
  · have hP := hP.sub (ws' := [(y, .inr (9, fs_y))]) [0] rfl
    have hD := hD.sub (ws' := [(y, .inr (9, fs_y))]) [0] (by decide) rfl
    refine lv_if_eq (tgt := 23) hx hb dX9_later_8 (by decide) (fun _ => ?_) (fun c9 => absurd (by first | decide | rfl) c9)
    refine lv_iconst (v := (-1)) hx hb dX9_later_23 (by decide) ?_
    exact k_iret hx hb hr hlocks hK hP hD hS (Or.inl ⟨c_3, rfl⟩) dX9_later_24
  · have hP := hP.sub (ws' := [(y, .inr (9, fs_y))]) [0] rfl
    have hD := hD.sub (ws' := [(y, .inr (9, fs_y))]) [0] (by decide) rfl
    refine lv_if_eq (tgt := 23) hx hb dX9_later_8 (by decide) (fun _ => ?_) (fun c9 => absurd (by first | decide | rfl) c9)
    refine lv_iconst (v := (-1)) hx hb dX9_later_23 (by decide) ?_
    exact k_iret hx hb hr hlocks hK hP hD hS (Or.inr (Or.inl ⟨c_4, c_5, rfl⟩)) dX9_later_24
  · have hP := hP.sub (ws' := [(y, .inr (9, fs_y))]) [0] rfl
    have hD := hD.sub (ws' := [(y, .inr (9, fs_y))]) [0] (by decide) rfl
    refine lv_if_eq (tgt := 23) hx hb dX9_later_8 (by decide) (fun c9 => absurd c9 (by first | decide | simp)) (fun _ => ?_)
    refine lv_aload_n hx hb dX9_later_11 rfl (lv_at hl 0 rfl) ?_
    refine va_get (D := D) (ci := 9) (v := .int 0) (C := RX9) (T := TX9) (N := 67) hx hb hts iX9_later_X9 hown hK hP 0 rfl rfl 64 (by decide) (hts (.fieldLink RX9 532 "CatLeasesModel" "time" "I") (List.mem_of_getElem? (i := 1) rfl)) (fun _ h9 => h9) h_y_time dX9_later_12 ?_
    refine lv_iload_n hx hb dX9_later_15 rfl (lv_at hl 1 rfl) ?_
    refine lv_iadd hx hb dX9_later_16 ?_
    refine lv_ldcw (v := 100000) hx hb hown (hts (.constant RX9 512 (100000)) (List.mem_of_getElem? (i := 2) rfl)) dX9_later_17 ?_
    refine lv_icmp_le (tgt := 25) hx hb dX9_later_20 (by decide) (fun c_8 => ?_) (fun c_8 => ?_)
    · refine lv_aload_n hx hb dX9_later_25 rfl (lv_at hl 0 rfl) ?_
      refine lv_dup hx hb dX9_later_26 rfl ?_
      refine va_get (D := D) (ci := 9) (v := .int 0) (C := RX9) (T := TX9) (N := 67) hx hb hts iX9_later_X9 hown hK hP 0 rfl rfl 64 (by decide) (hts (.fieldLink RX9 532 "CatLeasesModel" "time" "I") (List.mem_of_getElem? (i := 1) rfl)) (fun _ h9 => h9) h_y_time dX9_later_27 ?_
      refine lv_iload_n hx hb dX9_later_30 rfl (lv_at hl 1 rfl) ?_
      refine lv_iadd hx hb dX9_later_31 ?_
      refine va_put (D := D) (ci := 9) (v := .int (0 + p0)) (ty := .int) (C := RX9) (T := TX9) (N := 67) hx hb hts iX9_later_X9 tyX9 tyX9_ok nmX9 hown hK hP hD hS 0 rfl rfl 64 (by decide) (hts (.fieldLink RX9 532 "CatLeasesModel" "time" "I") (List.mem_of_getElem? (i := 1) rfl)) (fun _ h9 => h9) rfl (by decide +kernel) rfl rfl ((k_len h_y_time)) dX9_later_32 (fun H locs hP hD hS => ?_)
      have hP : va_P D vwCl [(y, .inr (9, (fs_y.set 64 (.int (0 + p0)))))] H := hP
      have hD : va_D A [(y, .inr (9, (fs_y.set 64 (.int (0 + p0)))))] := hD
      refine lv_aload_n hx hb dX9_later_35 rfl (lv_at hl 0 rfl) ?_
      refine va_get (D := D) (ci := 9) (v := .int (0 + p0)) (C := RX9) (T := TX9) (N := 67) hx hb hts iX9_later_X9 hown hK hP 0 rfl rfl 64 (by decide) (hts (.fieldLink RX9 532 "CatLeasesModel" "time" "I") (List.mem_of_getElem? (i := 1) rfl)) (fun _ h9 => h9) (k_ss h_y_time) dX9_later_36 ?_
      exact k_iret hx hb hr hlocks hK hP hD hS (Or.inr (Or.inr (Or.inl ⟨c_6, c_7, c_8, rfl⟩))) dX9_later_39
    · refine lv_iconst (v := (-1)) hx hb dX9_later_23 (by decide) ?_
      exact k_iret hx hb hr hlocks hK hP hD hS (Or.inr (Or.inr (Or.inr ⟨c_6, c_7, c_8, rfl⟩))) dX9_later_24
