set_option maxHeartbeats 4000000 in
set_option maxRecDepth 100000 in
theorem m_isIn (l : Launch) (D : va_G) (g : Nat → ClassId) (sz : Nat) (p0 : Int32) (p1 : Int32) (p2 : Int32) : Met l yX9_isIn wsX9_isIn ({ frames := 0, cells := 0, slots := 0, locals := 0 }) (va_Pc [.int p0, .int p1, .int p2] (kPre D g [] sz)) (kQi D g (fun (r : Int32) (u : va_W) => ((p0 < p1) ∧ 0 = r ∧ u = []) ∨ ((¬ p0 < p1) ∧ (p2 < p0) ∧ 0 = r ∧ u = []) ∨ ((¬ p0 < p1) ∧ (¬ p2 < p0) ∧ 1 = r ∧ u = [])) (va_A [] sz)) 0 0 (va_A [] sz) := by
  refine k_head (cc := cX9_isIn) (maxL := 3) (ret := (some .boolean)) (by decide) rfl (Nat.le_of_ble_eq_true rfl) ?_
  intro p e s m below meth c ls A hx hb hr hlocks hml hown hin hts hA hP hK hD hS hl
  have hown : s.vm.findClass RX9 = some m.cls := hown
  have hl : lv_has ls 3 [(0, .int p0), (1, .int p1), (2, .int p2)] := hl
  refine lv_iload_n hx hb dX9_isIn_0 rfl (lv_at hl 0 rfl) ?_
  refine lv_iload_n hx hb dX9_isIn_1 rfl (lv_at hl 1 rfl) ?_
  refine lv_icmp_lt (tgt := 14) hx hb dX9_isIn_2 (by decide) (fun c_1 => ?_) (fun c_1 => ?_)
  · refine lv_iconst (v := 0) hx hb dX9_isIn_14 (by decide) ?_
    exact k_zret hx hb hr hlocks rfl hK hP hD hS (Or.inl ⟨c_1, rfl, rfl⟩) dX9_isIn_15
  · refine lv_iload_n hx hb dX9_isIn_5 rfl (lv_at hl 0 rfl) ?_
    refine lv_iload_n hx hb dX9_isIn_6 rfl (lv_at hl 2 rfl) ?_
    refine lv_icmp_gt (tgt := 14) hx hb dX9_isIn_7 (by decide) (fun c_2 => ?_) (fun c_2 => ?_)
    · refine lv_iconst (v := 0) hx hb dX9_isIn_14 (by decide) ?_
      exact k_zret hx hb hr hlocks rfl hK hP hD hS (Or.inr (Or.inl ⟨c_1, c_2, rfl, rfl⟩)) dX9_isIn_15
    · refine lv_iconst (v := 1) hx hb dX9_isIn_10 (by decide) ?_
      refine lv_goto (tgt := 15) hx hb dX9_isIn_11 (by decide) ?_
      exact k_zret hx hb hr hlocks rfl hK hP hD hS (Or.inr (Or.inr ⟨c_1, c_2, rfl, rfl⟩)) dX9_isIn_15
set_option maxHeartbeats 4000000 in
set_option maxRecDepth 100000 in
theorem m_many (l : Launch) (D : va_G) (g : Nat → ClassId) (sz : Nat) (y : Nat) (yt : Nat) (fs_y : List Value) (f_yt : Nat → Int32) (h_y_tenants : fs_y[13]? = some (.ref yt)) (h_y_bank : fs_y[35]? = some (.int 0)) (h_yt_at0 : f_yt 0 = 0) : Met l yX9_many wsX9_many ({ frames := 0, cells := 0, slots := 0, locals := 0 }) (va_Pc [.ref y] (kPre D g [(y, .inr (9, fs_y)), (yt, .inl (g 1, 2, .inl f_yt))] sz)) (kQi D g (fun (r : Int32) (u : va_W) => 0 = r ∧ u = [(y, .inr (9, fs_y)), (yt, .inl (g 1, 2, .inl f_yt))]) (va_A [(y, .inr (9, fs_y)), (yt, .inl (g 1, 2, .inl f_yt))] sz)) 0 0 (va_A [(y, .inr (9, fs_y)), (yt, .inl (g 1, 2, .inl f_yt))] sz) := by
  refine k_head (cc := cX9_many) (maxL := 1) (ret := (some .int)) (by decide) rfl (Nat.le_of_ble_eq_true rfl) ?_
  intro p e s m below meth c ls A hx hb hr hlocks hml hown hin hts hA hP hK hD hS hl
  have hown : s.vm.findClass RX9 = some m.cls := hown
  have hl : lv_has ls 1 [(0, .ref y)] := hl
  refine lv_aload_n hx hb dX9_many_0 rfl (lv_at hl 0 rfl) ?_
  refine va_get (D := D) (ci := 9) (v := .ref yt) (C := RX9) (T := TX9) (N := 67) hx hb hts iX9_many_X9 hown hK hP 0 rfl rfl 13 (by decide) (hts (.fieldLink RX9 27 "CatLeasesModel" "tenants" "[I") (List.mem_of_getElem? (i := 1) rfl)) (fun _ h9 => h9) h_y_tenants dX9_many_1 ?_
  refine lv_aload_n hx hb dX9_many_4 rfl (lv_at hl 0 rfl) ?_
  refine va_get (D := D) (ci := 9) (v := .int 0) (C := RX9) (T := TX9) (N := 67) hx hb hts iX9_many_X9 hown hK hP 0 rfl rfl 35 (by decide) (hts (.fieldLink RX9 268 "CatLeasesModel" "bank" "I") (List.mem_of_getElem? (i := 2) rfl)) (fun _ h9 => h9) h_y_bank dX9_many_5 ?_
  refine va_iald hx hb hK hP 1 1 rfl rfl (k_in (i := 0) (n := 2) (by decide)) dX9_many_8 ?_
  refine k_top (v := 0) h_yt_at0 ?_
  exact k_iret hx hb hr hlocks hK hP hD hS ⟨rfl, rfl⟩ dX9_many_9
set_option maxHeartbeats 4000000 in
set_option maxRecDepth 100000 in
theorem m_cattery (l : Launch) (D : va_G) (g : Nat → ClassId) (sz : Nat) (y : Nat) (yc : Nat) (fs_y : List Value) (f_yc : Nat → Int32) (h_y_cats : fs_y[11]? = some (.ref yc)) (h_y_bank : fs_y[35]? = some (.int 0)) (h_yc_at0 : f_yc 0 = 0) : Met l yX9_cattery wsX9_cattery ({ frames := 0, cells := 0, slots := 0, locals := 0 }) (va_Pc [.ref y] (kPre D g [(y, .inr (9, fs_y)), (yc, .inl (g 1, 2, .inl f_yc))] sz)) (kQi D g (fun (r : Int32) (u : va_W) => 0 = r ∧ u = [(y, .inr (9, fs_y)), (yc, .inl (g 1, 2, .inl f_yc))]) (va_A [(y, .inr (9, fs_y)), (yc, .inl (g 1, 2, .inl f_yc))] sz)) 0 0 (va_A [(y, .inr (9, fs_y)), (yc, .inl (g 1, 2, .inl f_yc))] sz) := by
  refine k_head (cc := cX9_cattery) (maxL := 1) (ret := (some .int)) (by decide) rfl (Nat.le_of_ble_eq_true rfl) ?_
  intro p e s m below meth c ls A hx hb hr hlocks hml hown hin hts hA hP hK hD hS hl
  have hown : s.vm.findClass RX9 = some m.cls := hown
  have hl : lv_has ls 1 [(0, .ref y)] := hl
  refine lv_aload_n hx hb dX9_cattery_0 rfl (lv_at hl 0 rfl) ?_
  refine va_get (D := D) (ci := 9) (v := .ref yc) (C := RX9) (T := TX9) (N := 67) hx hb hts iX9_cattery_X9 hown hK hP 0 rfl rfl 11 (by decide) (hts (.fieldLink RX9 20 "CatLeasesModel" "cats" "[I") (List.mem_of_getElem? (i := 1) rfl)) (fun _ h9 => h9) h_y_cats dX9_cattery_1 ?_
  refine lv_aload_n hx hb dX9_cattery_4 rfl (lv_at hl 0 rfl) ?_
  refine va_get (D := D) (ci := 9) (v := .int 0) (C := RX9) (T := TX9) (N := 67) hx hb hts iX9_cattery_X9 hown hK hP 0 rfl rfl 35 (by decide) (hts (.fieldLink RX9 268 "CatLeasesModel" "bank" "I") (List.mem_of_getElem? (i := 2) rfl)) (fun _ h9 => h9) h_y_bank dX9_cattery_5 ?_
  refine va_iald hx hb hK hP 1 1 rfl rfl (k_in (i := 0) (n := 2) (by decide)) dX9_cattery_8 ?_
  refine k_top (v := 0) h_yc_at0 ?_
  exact k_iret hx hb hr hlocks hK hP hD hS ⟨rfl, rfl⟩ dX9_cattery_9
set_option maxHeartbeats 4000000 in
set_option maxRecDepth 100000 in
theorem m_chambers (l : Launch) (D : va_G) (g : Nat → ClassId) (sz : Nat) (y : Nat) (yr : Nat) (fs_y : List Value) (f_yr : Nat → Int32) (h_y_rooms : fs_y[12]? = some (.ref yr)) (h_y_bank : fs_y[35]? = some (.int 0)) (h_yr_at0 : f_yr 0 = 0) : Met l yX9_chambers wsX9_chambers ({ frames := 0, cells := 0, slots := 0, locals := 0 }) (va_Pc [.ref y] (kPre D g [(y, .inr (9, fs_y)), (yr, .inl (g 1, 2, .inl f_yr))] sz)) (kQi D g (fun (r : Int32) (u : va_W) => 0 = r ∧ u = [(y, .inr (9, fs_y)), (yr, .inl (g 1, 2, .inl f_yr))]) (va_A [(y, .inr (9, fs_y)), (yr, .inl (g 1, 2, .inl f_yr))] sz)) 0 0 (va_A [(y, .inr (9, fs_y)), (yr, .inl (g 1, 2, .inl f_yr))] sz) := by
  refine k_head (cc := cX9_chambers) (maxL := 1) (ret := (some .int)) (by decide) rfl (Nat.le_of_ble_eq_true rfl) ?_
  intro p e s m below meth c ls A hx hb hr hlocks hml hown hin hts hA hP hK hD hS hl
  have hown : s.vm.findClass RX9 = some m.cls := hown
  have hl : lv_has ls 1 [(0, .ref y)] := hl
  refine lv_aload_n hx hb dX9_chambers_0 rfl (lv_at hl 0 rfl) ?_
  refine va_get (D := D) (ci := 9) (v := .ref yr) (C := RX9) (T := TX9) (N := 67) hx hb hts iX9_chambers_X9 hown hK hP 0 rfl rfl 12 (by decide) (hts (.fieldLink RX9 24 "CatLeasesModel" "rooms" "[I") (List.mem_of_getElem? (i := 1) rfl)) (fun _ h9 => h9) h_y_rooms dX9_chambers_1 ?_
  refine lv_aload_n hx hb dX9_chambers_4 rfl (lv_at hl 0 rfl) ?_
  refine va_get (D := D) (ci := 9) (v := .int 0) (C := RX9) (T := TX9) (N := 67) hx hb hts iX9_chambers_X9 hown hK hP 0 rfl rfl 35 (by decide) (hts (.fieldLink RX9 268 "CatLeasesModel" "bank" "I") (List.mem_of_getElem? (i := 2) rfl)) (fun _ h9 => h9) h_y_bank dX9_chambers_5 ?_
  refine va_iald hx hb hK hP 1 1 rfl rfl (k_in (i := 0) (n := 2) (by decide)) dX9_chambers_8 ?_
  refine k_top (v := 0) h_yr_at0 ?_
  exact k_iret hx hb hr hlocks hK hP hD hS ⟨rfl, rfl⟩ dX9_chambers_9
set_option maxHeartbeats 4000000 in
set_option maxRecDepth 100000 in
theorem m_isTenant (l : Launch) (D : va_G) (g : Nat → ClassId) (sz : Nat) (y : Nat) (p0 : Int32) (yt : Nat) (fs_y : List Value) (f_yt : Nat → Int32) (h_y_tenants : fs_y[13]? = some (.ref yt)) (h_y_bank : fs_y[35]? = some (.int 0)) (h_yt_at0 : f_yt 0 = 0) : Met l yX9_isTenant wsX9_isTenant ({ frames := 1, cells := 0, slots := 0, locals := 22 }) (va_Pc [.ref y, .int p0] (kPre D g [(y, .inr (9, fs_y)), (yt, .inl (g 1, 2, .inl f_yt))] sz)) (kQi D g (fun (r : Int32) (u : va_W) => 0 = r ∧ u = [(y, .inr (9, fs_y)), (yt, .inl (g 1, 2, .inl f_yt))]) (va_A [(y, .inr (9, fs_y)), (yt, .inl (g 1, 2, .inl f_yt))] sz)) 0 0 (va_A [(y, .inr (9, fs_y)), (yt, .inl (g 1, 2, .inl f_yt))] sz) := by
  refine k_head (cc := cX9_isTenant) (maxL := 2) (ret := (some .boolean)) (by decide) rfl (Nat.le_of_ble_eq_true rfl) ?_
  intro p e s m below meth c ls A hx hb hr hlocks hml hown hin hts hA hP hK hD hS hl
  have hown : s.vm.findClass RX9 = some m.cls := hown
  have hl : lv_has ls 2 [(0, .ref y), (1, .int p0)] := hl
  refine lv_iload_n hx hb dX9_isTenant_0 rfl (lv_at hl 1 rfl) ?_
  refine lv_iconst (v := 0) hx hb dX9_isTenant_1 (by decide) ?_
  refine lv_aload_n hx hb dX9_isTenant_2 rfl (lv_at hl 0 rfl) ?_
  refine k_goi (wr := []) hP hD hS hA [0, 1] [] rfl rfl (by decide) (by decide) (va_runV (As := []) (rest := [.int 0, .int p0]) ⟨hx, hb, hml, hown, hts⟩ (m_many l D g _ y yt fs_y f_yt h_y_tenants h_y_bank h_yt_at0) (cwV 0 hts gX9_isTenant_X9_many rfl rfl rfl (by decide +kernel) ⟨Nat.le_of_ble_eq_true rfl, Nat.le_of_ble_eq_true rfl⟩) (k_preV hK (hP.sub [0, 1] rfl) (hD.sub [0, 1] (by decide) rfl) 9 0 rfl rfl) rfl rfl hl.1 rfl (lv_room (Nat.le_of_ble_eq_true rfl)) dX9_isTenant_3 ⟨Nat.le_of_ble_eq_true rfl, Nat.le_of_ble_eq_true rfl⟩) (fun r_1 u_2 H locs hw hP hD hS => ?_)
  rcases hw with ⟨rfl, rfl⟩
  have hP := hP.sub (ws' := [(y, .inr (9, fs_y)), (yt, .inl (g 1, 2, .inl f_yt))]) [0, 1] rfl
  have hD := hD.sub (ws' := [(y, .inr (9, fs_y)), (yt, .inl (g 1, 2, .inl f_yt))]) [0, 1] (by decide) rfl
  refine lv_iconst (v := 1) hx hb dX9_isTenant_6 (by decide) ?_
  refine lv_isub hx hb dX9_isTenant_7 ?_
  refine k_top (v := (-1)) (by decide) ?_
  refine k_goi (wr := [(y, .inr (9, fs_y)), (yt, .inl (g 1, 2, .inl f_yt))]) hP hD hS hA [] [0, 1] rfl rfl (by decide) (by decide) (va_runS (As := [.int p0, .int 0, .int (-1)]) (rest := []) ⟨hx, hb, hml, hown, hts⟩ (m_isIn l D g _ p0 0 (-1)) (va_cwS 3 hts gX9_isTenant_X9_isIn rfl rfl rfl (by decide +kernel) ⟨Nat.le_of_ble_eq_true rfl, Nat.le_of_ble_eq_true rfl⟩) (k_preS hK (hP.sub [] rfl) (hD.sub [] (by decide) rfl)) rfl rfl hl.1 rfl (lv_room (Nat.le_of_ble_eq_true rfl)) dX9_isTenant_8 ⟨Nat.le_of_ble_eq_true rfl, Nat.le_of_ble_eq_true rfl⟩) (fun r_3 u_4 H locs hw hP hD hS => ?_)
  rcases hw with ⟨c_5, rfl, rfl⟩ | ⟨c_6, c_7, rfl, rfl⟩ | ⟨c_8, c_9, rfl, rfl⟩
  · have hP := hP.sub (ws' := [(y, .inr (9, fs_y)), (yt, .inl (g 1, 2, .inl f_yt))]) [0, 1] rfl
    have hD := hD.sub (ws' := [(y, .inr (9, fs_y)), (yt, .inl (g 1, 2, .inl f_yt))]) [0, 1] (by decide) rfl
    exact k_zret hx hb hr hlocks rfl hK hP hD hS ⟨rfl, rfl⟩ dX9_isTenant_11
  · have hP := hP.sub (ws' := [(y, .inr (9, fs_y)), (yt, .inl (g 1, 2, .inl f_yt))]) [0, 1] rfl
    have hD := hD.sub (ws' := [(y, .inr (9, fs_y)), (yt, .inl (g 1, 2, .inl f_yt))]) [0, 1] (by decide) rfl
    exact k_zret hx hb hr hlocks rfl hK hP hD hS ⟨rfl, rfl⟩ dX9_isTenant_11
  · exfalso; have km1 : ((-1) : Int32).toInt = -1 := (by decide); have k0 : (0 : Int32).toInt = 0 := (by decide); simp only [Int32.lt_iff_toInt_lt, Int32.le_iff_toInt_le, ← Int32.toInt_inj] at c_8 c_9; omega
set_option maxHeartbeats 4000000 in
set_option maxRecDepth 100000 in
theorem m_isCat (l : Launch) (D : va_G) (g : Nat → ClassId) (sz : Nat) (y : Nat) (p0 : Int32) (yc : Nat) (fs_y : List Value) (f_yc : Nat → Int32) (h_y_cats : fs_y[11]? = some (.ref yc)) (h_y_bank : fs_y[35]? = some (.int 0)) (h_yc_at0 : f_yc 0 = 0) : Met l yX9_isCat wsX9_isCat ({ frames := 1, cells := 0, slots := 0, locals := 22 }) (va_Pc [.ref y, .int p0] (kPre D g [(y, .inr (9, fs_y)), (yc, .inl (g 1, 2, .inl f_yc))] sz)) (kQi D g (fun (r : Int32) (u : va_W) => 0 = r ∧ u = [(y, .inr (9, fs_y)), (yc, .inl (g 1, 2, .inl f_yc))]) (va_A [(y, .inr (9, fs_y)), (yc, .inl (g 1, 2, .inl f_yc))] sz)) 0 0 (va_A [(y, .inr (9, fs_y)), (yc, .inl (g 1, 2, .inl f_yc))] sz) := by
  refine k_head (cc := cX9_isCat) (maxL := 2) (ret := (some .boolean)) (by decide) rfl (Nat.le_of_ble_eq_true rfl) ?_
  intro p e s m below meth c ls A hx hb hr hlocks hml hown hin hts hA hP hK hD hS hl
  have hown : s.vm.findClass RX9 = some m.cls := hown
  have hl : lv_has ls 2 [(0, .ref y), (1, .int p0)] := hl
  refine lv_iload_n hx hb dX9_isCat_0 rfl (lv_at hl 1 rfl) ?_
  refine lv_iconst (v := 0) hx hb dX9_isCat_1 (by decide) ?_
  refine lv_aload_n hx hb dX9_isCat_2 rfl (lv_at hl 0 rfl) ?_
  refine k_goi (wr := []) hP hD hS hA [0, 1] [] rfl rfl (by decide) (by decide) (va_runV (As := []) (rest := [.int 0, .int p0]) ⟨hx, hb, hml, hown, hts⟩ (m_cattery l D g _ y yc fs_y f_yc h_y_cats h_y_bank h_yc_at0) (cwV 0 hts gX9_isCat_X9_cattery rfl rfl rfl (by decide +kernel) ⟨Nat.le_of_ble_eq_true rfl, Nat.le_of_ble_eq_true rfl⟩) (k_preV hK (hP.sub [0, 1] rfl) (hD.sub [0, 1] (by decide) rfl) 9 0 rfl rfl) rfl rfl hl.1 rfl (lv_room (Nat.le_of_ble_eq_true rfl)) dX9_isCat_3 ⟨Nat.le_of_ble_eq_true rfl, Nat.le_of_ble_eq_true rfl⟩) (fun r_1 u_2 H locs hw hP hD hS => ?_)
  rcases hw with ⟨rfl, rfl⟩
  have hP := hP.sub (ws' := [(y, .inr (9, fs_y)), (yc, .inl (g 1, 2, .inl f_yc))]) [0, 1] rfl
  have hD := hD.sub (ws' := [(y, .inr (9, fs_y)), (yc, .inl (g 1, 2, .inl f_yc))]) [0, 1] (by decide) rfl
  refine lv_iconst (v := 1) hx hb dX9_isCat_6 (by decide) ?_
  refine lv_isub hx hb dX9_isCat_7 ?_
  refine k_top (v := (-1)) (by decide) ?_
  refine k_goi (wr := [(y, .inr (9, fs_y)), (yc, .inl (g 1, 2, .inl f_yc))]) hP hD hS hA [] [0, 1] rfl rfl (by decide) (by decide) (va_runS (As := [.int p0, .int 0, .int (-1)]) (rest := []) ⟨hx, hb, hml, hown, hts⟩ (m_isIn l D g _ p0 0 (-1)) (va_cwS 3 hts gX9_isCat_X9_isIn rfl rfl rfl (by decide +kernel) ⟨Nat.le_of_ble_eq_true rfl, Nat.le_of_ble_eq_true rfl⟩) (k_preS hK (hP.sub [] rfl) (hD.sub [] (by decide) rfl)) rfl rfl hl.1 rfl (lv_room (Nat.le_of_ble_eq_true rfl)) dX9_isCat_8 ⟨Nat.le_of_ble_eq_true rfl, Nat.le_of_ble_eq_true rfl⟩) (fun r_3 u_4 H locs hw hP hD hS => ?_)
  rcases hw with ⟨c_5, rfl, rfl⟩ | ⟨c_6, c_7, rfl, rfl⟩ | ⟨c_8, c_9, rfl, rfl⟩
  · have hP := hP.sub (ws' := [(y, .inr (9, fs_y)), (yc, .inl (g 1, 2, .inl f_yc))]) [0, 1] rfl
    have hD := hD.sub (ws' := [(y, .inr (9, fs_y)), (yc, .inl (g 1, 2, .inl f_yc))]) [0, 1] (by decide) rfl
    exact k_zret hx hb hr hlocks rfl hK hP hD hS ⟨rfl, rfl⟩ dX9_isCat_11
  · have hP := hP.sub (ws' := [(y, .inr (9, fs_y)), (yc, .inl (g 1, 2, .inl f_yc))]) [0, 1] rfl
    have hD := hD.sub (ws' := [(y, .inr (9, fs_y)), (yc, .inl (g 1, 2, .inl f_yc))]) [0, 1] (by decide) rfl
    exact k_zret hx hb hr hlocks rfl hK hP hD hS ⟨rfl, rfl⟩ dX9_isCat_11
  · exfalso; have km1 : ((-1) : Int32).toInt = -1 := (by decide); have k0 : (0 : Int32).toInt = 0 := (by decide); simp only [Int32.lt_iff_toInt_lt, Int32.le_iff_toInt_le, ← Int32.toInt_inj] at c_8 c_9; omega
set_option maxHeartbeats 4000000 in
set_option maxRecDepth 100000 in
theorem m_isRoom (l : Launch) (D : va_G) (g : Nat → ClassId) (sz : Nat) (y : Nat) (p0 : Int32) (yr : Nat) (fs_y : List Value) (f_yr : Nat → Int32) (h_y_rooms : fs_y[12]? = some (.ref yr)) (h_y_bank : fs_y[35]? = some (.int 0)) (h_yr_at0 : f_yr 0 = 0) : Met l yX9_isRoom wsX9_isRoom ({ frames := 1, cells := 0, slots := 0, locals := 22 }) (va_Pc [.ref y, .int p0] (kPre D g [(y, .inr (9, fs_y)), (yr, .inl (g 1, 2, .inl f_yr))] sz)) (kQi D g (fun (r : Int32) (u : va_W) => 0 = r ∧ u = [(y, .inr (9, fs_y)), (yr, .inl (g 1, 2, .inl f_yr))]) (va_A [(y, .inr (9, fs_y)), (yr, .inl (g 1, 2, .inl f_yr))] sz)) 0 0 (va_A [(y, .inr (9, fs_y)), (yr, .inl (g 1, 2, .inl f_yr))] sz) := by
  refine k_head (cc := cX9_isRoom) (maxL := 2) (ret := (some .boolean)) (by decide) rfl (Nat.le_of_ble_eq_true rfl) ?_
  intro p e s m below meth c ls A hx hb hr hlocks hml hown hin hts hA hP hK hD hS hl
  have hown : s.vm.findClass RX9 = some m.cls := hown
  have hl : lv_has ls 2 [(0, .ref y), (1, .int p0)] := hl
  refine lv_iload_n hx hb dX9_isRoom_0 rfl (lv_at hl 1 rfl) ?_
  refine lv_iconst (v := 0) hx hb dX9_isRoom_1 (by decide) ?_
  refine lv_aload_n hx hb dX9_isRoom_2 rfl (lv_at hl 0 rfl) ?_
  refine k_goi (wr := []) hP hD hS hA [0, 1] [] rfl rfl (by decide) (by decide) (va_runV (As := []) (rest := [.int 0, .int p0]) ⟨hx, hb, hml, hown, hts⟩ (m_chambers l D g _ y yr fs_y f_yr h_y_rooms h_y_bank h_yr_at0) (cwV 0 hts gX9_isRoom_X9_chambers rfl rfl rfl (by decide +kernel) ⟨Nat.le_of_ble_eq_true rfl, Nat.le_of_ble_eq_true rfl⟩) (k_preV hK (hP.sub [0, 1] rfl) (hD.sub [0, 1] (by decide) rfl) 9 0 rfl rfl) rfl rfl hl.1 rfl (lv_room (Nat.le_of_ble_eq_true rfl)) dX9_isRoom_3 ⟨Nat.le_of_ble_eq_true rfl, Nat.le_of_ble_eq_true rfl⟩) (fun r_1 u_2 H locs hw hP hD hS => ?_)
  rcases hw with ⟨rfl, rfl⟩
  have hP := hP.sub (ws' := [(y, .inr (9, fs_y)), (yr, .inl (g 1, 2, .inl f_yr))]) [0, 1] rfl
  have hD := hD.sub (ws' := [(y, .inr (9, fs_y)), (yr, .inl (g 1, 2, .inl f_yr))]) [0, 1] (by decide) rfl
  refine lv_iconst (v := 1) hx hb dX9_isRoom_6 (by decide) ?_
  refine lv_isub hx hb dX9_isRoom_7 ?_
  refine k_top (v := (-1)) (by decide) ?_
  refine k_goi (wr := [(y, .inr (9, fs_y)), (yr, .inl (g 1, 2, .inl f_yr))]) hP hD hS hA [] [0, 1] rfl rfl (by decide) (by decide) (va_runS (As := [.int p0, .int 0, .int (-1)]) (rest := []) ⟨hx, hb, hml, hown, hts⟩ (m_isIn l D g _ p0 0 (-1)) (va_cwS 3 hts gX9_isRoom_X9_isIn rfl rfl rfl (by decide +kernel) ⟨Nat.le_of_ble_eq_true rfl, Nat.le_of_ble_eq_true rfl⟩) (k_preS hK (hP.sub [] rfl) (hD.sub [] (by decide) rfl)) rfl rfl hl.1 rfl (lv_room (Nat.le_of_ble_eq_true rfl)) dX9_isRoom_8 ⟨Nat.le_of_ble_eq_true rfl, Nat.le_of_ble_eq_true rfl⟩) (fun r_3 u_4 H locs hw hP hD hS => ?_)
  rcases hw with ⟨c_5, rfl, rfl⟩ | ⟨c_6, c_7, rfl, rfl⟩ | ⟨c_8, c_9, rfl, rfl⟩
  · have hP := hP.sub (ws' := [(y, .inr (9, fs_y)), (yr, .inl (g 1, 2, .inl f_yr))]) [0, 1] rfl
    have hD := hD.sub (ws' := [(y, .inr (9, fs_y)), (yr, .inl (g 1, 2, .inl f_yr))]) [0, 1] (by decide) rfl
    exact k_zret hx hb hr hlocks rfl hK hP hD hS ⟨rfl, rfl⟩ dX9_isRoom_11
  · have hP := hP.sub (ws' := [(y, .inr (9, fs_y)), (yr, .inl (g 1, 2, .inl f_yr))]) [0, 1] rfl
    have hD := hD.sub (ws' := [(y, .inr (9, fs_y)), (yr, .inl (g 1, 2, .inl f_yr))]) [0, 1] (by decide) rfl
    exact k_zret hx hb hr hlocks rfl hK hP hD hS ⟨rfl, rfl⟩ dX9_isRoom_11
  · exfalso; have km1 : ((-1) : Int32).toInt = -1 := (by decide); have k0 : (0 : Int32).toInt = 0 := (by decide); simp only [Int32.lt_iff_toInt_lt, Int32.le_iff_toInt_le, ← Int32.toInt_inj] at c_8 c_9; omega
set_option maxHeartbeats 4000000 in
set_option maxRecDepth 100000 in
theorem m_isAtHome (l : Launch) (D : va_G) (g : Nat → ClassId) (sz : Nat) (y : Nat) (p0 : Int32) (yt : Nat) (fs_y : List Value) (f_yt : Nat → Int32) (h_y_tenants : fs_y[13]? = some (.ref yt)) (h_y_bank : fs_y[35]? = some (.int 0)) (h_yt_at0 : f_yt 0 = 0) : Met l yX9_isAtHome wsX9_isAtHome ({ frames := 2, cells := 0, slots := 0, locals := 43 }) (va_Pc [.ref y, .int p0] (kPre D g [(y, .inr (9, fs_y)), (yt, .inl (g 1, 2, .inl f_yt))] sz)) (kQi D g (fun (r : Int32) (u : va_W) => 0 = r ∧ u = [(y, .inr (9, fs_y)), (yt, .inl (g 1, 2, .inl f_yt))]) (va_A [(y, .inr (9, fs_y)), (yt, .inl (g 1, 2, .inl f_yt))] sz)) 0 0 (va_A [(y, .inr (9, fs_y)), (yt, .inl (g 1, 2, .inl f_yt))] sz) := by
  refine k_head (cc := cX9_isAtHome) (maxL := 2) (ret := (some .boolean)) (by decide) rfl (Nat.le_of_ble_eq_true rfl) ?_
  intro p e s m below meth c ls A hx hb hr hlocks hml hown hin hts hA hP hK hD hS hl
  have hown : s.vm.findClass RX9 = some m.cls := hown
  have hl : lv_has ls 2 [(0, .ref y), (1, .int p0)] := hl
  refine lv_aload_n hx hb dX9_isAtHome_0 rfl (lv_at hl 0 rfl) ?_
  refine lv_iload_n hx hb dX9_isAtHome_1 rfl (lv_at hl 1 rfl) ?_
  refine k_goi (wr := []) hP hD hS hA [0, 1] [] rfl rfl (by decide) (by decide) (va_runV (As := [.int p0]) (rest := []) ⟨hx, hb, hml, hown, hts⟩ (m_isTenant l D g _ y p0 yt fs_y f_yt h_y_tenants h_y_bank h_yt_at0) (cwV 1 hts gX9_isAtHome_X9_isTenant rfl rfl rfl (by decide +kernel) ⟨Nat.le_of_ble_eq_true rfl, Nat.le_of_ble_eq_true rfl⟩) (k_preV hK (hP.sub [0, 1] rfl) (hD.sub [0, 1] (by decide) rfl) 9 0 rfl rfl) rfl rfl hl.1 rfl (lv_room (Nat.le_of_ble_eq_true rfl)) dX9_isAtHome_2 ⟨Nat.le_of_ble_eq_true rfl, Nat.le_of_ble_eq_true rfl⟩) (fun r_1 u_2 H locs hw hP hD hS => ?_)
  rcases hw with ⟨rfl, rfl⟩
  have hP := hP.sub (ws' := [(y, .inr (9, fs_y)), (yt, .inl (g 1, 2, .inl f_yt))]) [0, 1] rfl
  have hD := hD.sub (ws' := [(y, .inr (9, fs_y)), (yt, .inl (g 1, 2, .inl f_yt))]) [0, 1] (by decide) rfl
  refine lv_if_eq (tgt := 35) hx hb dX9_isAtHome_5 (by decide) (fun _ => ?_) (fun c9 => absurd (by first | decide | rfl) c9)
  refine lv_iconst (v := 0) hx hb dX9_isAtHome_35 (by decide) ?_
  exact k_zret hx hb hr hlocks rfl hK hP hD hS ⟨rfl, rfl⟩ dX9_isAtHome_36
set_option maxHeartbeats 4000000 in
set_option maxRecDepth 100000 in
theorem m_cat (l : Launch) (D : va_G) (g : Nat → ClassId) (sz : Nat) (y : Nat) (p0 : Int32) (p1 : Int32) (yc : Nat) (fs_y : List Value) (f_yc : Nat → Int32) (h_y_cats : fs_y[11]? = some (.ref yc)) (h_y_bank : fs_y[35]? = some (.int 0)) (h_yc_at0 : f_yc 0 = 0) : Met l yX9_cat wsX9_cat ({ frames := 2, cells := 0, slots := 0, locals := 43 }) (va_Pc [.ref y, .int p0, .int p1] (kPre D g [(y, .inr (9, fs_y)), (yc, .inl (g 1, 2, .inl f_yc))] sz)) (kQi D g (fun (r : Int32) (u : va_W) => (-2) = r) (va_A [(y, .inr (9, fs_y)), (yc, .inl (g 1, 2, .inl f_yc))] sz)) 0 0 (va_A [(y, .inr (9, fs_y)), (yc, .inl (g 1, 2, .inl f_yc))] sz) := by
  refine k_head (cc := cX9_cat) (maxL := 3) (ret := (some .int)) (by decide) rfl (Nat.le_of_ble_eq_true rfl) ?_
  intro p e s m below meth c ls A hx hb hr hlocks hml hown hin hts hA hP hK hD hS hl
  have hown : s.vm.findClass RX9 = some m.cls := hown
  have hl : lv_has ls 3 [(0, .ref y), (1, .int p0), (2, .int p1)] := hl
  refine lv_aload_n hx hb dX9_cat_0 rfl (lv_at hl 0 rfl) ?_
  refine lv_iload_n hx hb dX9_cat_1 rfl (lv_at hl 1 rfl) ?_
  refine k_goi (wr := []) hP hD hS hA [0, 1] [] rfl rfl (by decide) (by decide) (va_runV (As := [.int p0]) (rest := []) ⟨hx, hb, hml, hown, hts⟩ (m_isCat l D g _ y p0 yc fs_y f_yc h_y_cats h_y_bank h_yc_at0) (cwV 1 hts gX9_cat_X9_isCat rfl rfl rfl (by decide +kernel) ⟨Nat.le_of_ble_eq_true rfl, Nat.le_of_ble_eq_true rfl⟩) (k_preV hK (hP.sub [0, 1] rfl) (hD.sub [0, 1] (by decide) rfl) 9 0 rfl rfl) rfl rfl hl.1 rfl (lv_room (Nat.le_of_ble_eq_true rfl)) dX9_cat_2 ⟨Nat.le_of_ble_eq_true rfl, Nat.le_of_ble_eq_true rfl⟩) (fun r_1 u_2 H locs hw hP hD hS => ?_)
  rcases hw with ⟨rfl, rfl⟩
  have hP := hP.sub (ws' := [(y, .inr (9, fs_y)), (yc, .inl (g 1, 2, .inl f_yc))]) [0, 1] rfl
  have hD := hD.sub (ws' := [(y, .inr (9, fs_y)), (yc, .inl (g 1, 2, .inl f_yc))]) [0, 1] (by decide) rfl
  refine lv_if_ne (tgt := 11) hx hb dX9_cat_5 (by decide) (fun c9 => absurd (by first | decide | rfl) c9) (fun _ => ?_)
  refine lv_bipush (v := (-2)) hx hb dX9_cat_8 (by decide) ?_
  exact k_iret hx hb hr hlocks hK hP hD hS rfl dX9_cat_10
set_option maxHeartbeats 4000000 in
set_option maxRecDepth 100000 in
theorem m_room (l : Launch) (D : va_G) (g : Nat → ClassId) (sz : Nat) (y : Nat) (p0 : Int32) (p1 : Int32) (yr : Nat) (fs_y : List Value) (f_yr : Nat → Int32) (h_y_rooms : fs_y[12]? = some (.ref yr)) (h_y_bank : fs_y[35]? = some (.int 0)) (h_yr_at0 : f_yr 0 = 0) : Met l yX9_room wsX9_room ({ frames := 2, cells := 0, slots := 0, locals := 43 }) (va_Pc [.ref y, .int p0, .int p1] (kPre D g [(y, .inr (9, fs_y)), (yr, .inl (g 1, 2, .inl f_yr))] sz)) (kQi D g (fun (r : Int32) (u : va_W) => (-2) = r) (va_A [(y, .inr (9, fs_y)), (yr, .inl (g 1, 2, .inl f_yr))] sz)) 0 0 (va_A [(y, .inr (9, fs_y)), (yr, .inl (g 1, 2, .inl f_yr))] sz) := by
  refine k_head (cc := cX9_room) (maxL := 3) (ret := (some .int)) (by decide) rfl (Nat.le_of_ble_eq_true rfl) ?_
  intro p e s m below meth c ls A hx hb hr hlocks hml hown hin hts hA hP hK hD hS hl
  have hown : s.vm.findClass RX9 = some m.cls := hown
  have hl : lv_has ls 3 [(0, .ref y), (1, .int p0), (2, .int p1)] := hl
  refine lv_aload_n hx hb dX9_room_0 rfl (lv_at hl 0 rfl) ?_
  refine lv_iload_n hx hb dX9_room_1 rfl (lv_at hl 1 rfl) ?_
  refine k_goi (wr := []) hP hD hS hA [0, 1] [] rfl rfl (by decide) (by decide) (va_runV (As := [.int p0]) (rest := []) ⟨hx, hb, hml, hown, hts⟩ (m_isRoom l D g _ y p0 yr fs_y f_yr h_y_rooms h_y_bank h_yr_at0) (cwV 1 hts gX9_room_X9_isRoom rfl rfl rfl (by decide +kernel) ⟨Nat.le_of_ble_eq_true rfl, Nat.le_of_ble_eq_true rfl⟩) (k_preV hK (hP.sub [0, 1] rfl) (hD.sub [0, 1] (by decide) rfl) 9 0 rfl rfl) rfl rfl hl.1 rfl (lv_room (Nat.le_of_ble_eq_true rfl)) dX9_room_2 ⟨Nat.le_of_ble_eq_true rfl, Nat.le_of_ble_eq_true rfl⟩) (fun r_1 u_2 H locs hw hP hD hS => ?_)
  rcases hw with ⟨rfl, rfl⟩
  have hP := hP.sub (ws' := [(y, .inr (9, fs_y)), (yr, .inl (g 1, 2, .inl f_yr))]) [0, 1] rfl
  have hD := hD.sub (ws' := [(y, .inr (9, fs_y)), (yr, .inl (g 1, 2, .inl f_yr))]) [0, 1] (by decide) rfl
  refine lv_if_ne (tgt := 11) hx hb dX9_room_5 (by decide) (fun c9 => absurd (by first | decide | rfl) c9) (fun _ => ?_)
  refine lv_bipush (v := (-2)) hx hb dX9_room_8 (by decide) ?_
  exact k_iret hx hb hr hlocks hK hP hD hS rfl dX9_room_10
set_option maxHeartbeats 4000000 in
set_option maxRecDepth 100000 in
theorem m_tenant (l : Launch) (D : va_G) (g : Nat → ClassId) (sz : Nat) (y : Nat) (p0 : Int32) (p1 : Int32) (yt : Nat) (fs_y : List Value) (f_yt : Nat → Int32) (h_y_tenants : fs_y[13]? = some (.ref yt)) (h_y_bank : fs_y[35]? = some (.int 0)) (h_yt_at0 : f_yt 0 = 0) : Met l yX9_tenant wsX9_tenant ({ frames := 2, cells := 0, slots := 0, locals := 43 }) (va_Pc [.ref y, .int p0, .int p1] (kPre D g [(y, .inr (9, fs_y)), (yt, .inl (g 1, 2, .inl f_yt))] sz)) (kQi D g (fun (r : Int32) (u : va_W) => (-2) = r) (va_A [(y, .inr (9, fs_y)), (yt, .inl (g 1, 2, .inl f_yt))] sz)) 0 0 (va_A [(y, .inr (9, fs_y)), (yt, .inl (g 1, 2, .inl f_yt))] sz) := by
  refine k_head (cc := cX9_tenant) (maxL := 3) (ret := (some .int)) (by decide) rfl (Nat.le_of_ble_eq_true rfl) ?_
  intro p e s m below meth c ls A hx hb hr hlocks hml hown hin hts hA hP hK hD hS hl
  have hown : s.vm.findClass RX9 = some m.cls := hown
  have hl : lv_has ls 3 [(0, .ref y), (1, .int p0), (2, .int p1)] := hl
  refine lv_aload_n hx hb dX9_tenant_0 rfl (lv_at hl 0 rfl) ?_
  refine lv_iload_n hx hb dX9_tenant_1 rfl (lv_at hl 1 rfl) ?_
  refine k_goi (wr := []) hP hD hS hA [0, 1] [] rfl rfl (by decide) (by decide) (va_runV (As := [.int p0]) (rest := []) ⟨hx, hb, hml, hown, hts⟩ (m_isTenant l D g _ y p0 yt fs_y f_yt h_y_tenants h_y_bank h_yt_at0) (cwV 1 hts gX9_tenant_X9_isTenant rfl rfl rfl (by decide +kernel) ⟨Nat.le_of_ble_eq_true rfl, Nat.le_of_ble_eq_true rfl⟩) (k_preV hK (hP.sub [0, 1] rfl) (hD.sub [0, 1] (by decide) rfl) 9 0 rfl rfl) rfl rfl hl.1 rfl (lv_room (Nat.le_of_ble_eq_true rfl)) dX9_tenant_2 ⟨Nat.le_of_ble_eq_true rfl, Nat.le_of_ble_eq_true rfl⟩) (fun r_1 u_2 H locs hw hP hD hS => ?_)
  rcases hw with ⟨rfl, rfl⟩
  have hP := hP.sub (ws' := [(y, .inr (9, fs_y)), (yt, .inl (g 1, 2, .inl f_yt))]) [0, 1] rfl
  have hD := hD.sub (ws' := [(y, .inr (9, fs_y)), (yt, .inl (g 1, 2, .inl f_yt))]) [0, 1] (by decide) rfl
  refine lv_if_ne (tgt := 11) hx hb dX9_tenant_5 (by decide) (fun c9 => absurd (by first | decide | rfl) c9) (fun _ => ?_)
  refine lv_bipush (v := (-2)) hx hb dX9_tenant_8 (by decide) ?_
  exact k_iret hx hb hr hlocks hK hP hD hS rfl dX9_tenant_10
set_option maxHeartbeats 4000000 in
set_option maxRecDepth 100000 in
theorem m_liking (l : Launch) (D : va_G) (g : Nat → ClassId) (sz : Nat) (y : Nat) (p0 : Int32) (p1 : Int32) (yt : Nat) (fs_y : List Value) (f_yt : Nat → Int32) (h_y_tenants : fs_y[13]? = some (.ref yt)) (h_y_bank : fs_y[35]? = some (.int 0)) (h_yt_at0 : f_yt 0 = 0) : Met l yX9_liking wsX9_liking ({ frames := 2, cells := 0, slots := 0, locals := 43 }) (va_Pc [.ref y, .int p0, .int p1] (kPre D g [(y, .inr (9, fs_y)), (yt, .inl (g 1, 2, .inl f_yt))] sz)) (kQi D g (fun (r : Int32) (u : va_W) => (-1000000000) = r) (va_A [(y, .inr (9, fs_y)), (yt, .inl (g 1, 2, .inl f_yt))] sz)) 0 0 (va_A [(y, .inr (9, fs_y)), (yt, .inl (g 1, 2, .inl f_yt))] sz) := by
  refine k_head (cc := cX9_liking) (maxL := 3) (ret := (some .int)) (by decide) rfl (Nat.le_of_ble_eq_true rfl) ?_
  intro p e s m below meth c ls A hx hb hr hlocks hml hown hin hts hA hP hK hD hS hl
  have hown : s.vm.findClass RX9 = some m.cls := hown
  have hl : lv_has ls 3 [(0, .ref y), (1, .int p0), (2, .int p1)] := hl
  refine lv_aload_n hx hb dX9_liking_0 rfl (lv_at hl 0 rfl) ?_
  refine lv_iload_n hx hb dX9_liking_1 rfl (lv_at hl 1 rfl) ?_
  refine k_goi (wr := []) hP hD hS hA [0, 1] [] rfl rfl (by decide) (by decide) (va_runV (As := [.int p0]) (rest := []) ⟨hx, hb, hml, hown, hts⟩ (m_isTenant l D g _ y p0 yt fs_y f_yt h_y_tenants h_y_bank h_yt_at0) (cwV 1 hts gX9_liking_X9_isTenant rfl rfl rfl (by decide +kernel) ⟨Nat.le_of_ble_eq_true rfl, Nat.le_of_ble_eq_true rfl⟩) (k_preV hK (hP.sub [0, 1] rfl) (hD.sub [0, 1] (by decide) rfl) 9 0 rfl rfl) rfl rfl hl.1 rfl (lv_room (Nat.le_of_ble_eq_true rfl)) dX9_liking_2 ⟨Nat.le_of_ble_eq_true rfl, Nat.le_of_ble_eq_true rfl⟩) (fun r_1 u_2 H locs hw hP hD hS => ?_)
  rcases hw with ⟨rfl, rfl⟩
  have hP := hP.sub (ws' := [(y, .inr (9, fs_y)), (yt, .inl (g 1, 2, .inl f_yt))]) [0, 1] rfl
  have hD := hD.sub (ws' := [(y, .inr (9, fs_y)), (yt, .inl (g 1, 2, .inl f_yt))]) [0, 1] (by decide) rfl
  refine lv_if_eq (tgt := 33) hx hb dX9_liking_5 (by decide) (fun _ => ?_) (fun c9 => absurd (by first | decide | rfl) c9)
  refine lv_ldcw (v := (-1000000000)) hx hb hown (hts (.constant RX9 468 (-1000000000)) (List.mem_of_getElem? (i := 1) rfl)) dX9_liking_33 ?_
  exact k_iret hx hb hr hlocks hK hP hD hS rfl dX9_liking_36
set_option maxHeartbeats 4000000 in
set_option maxRecDepth 100000 in
theorem m_move (l : Launch) (D : va_G) (g : Nat → ClassId) (sz : Nat) (y : Nat) (p0 : Int32) (p1 : Int32) (yt : Nat) (fs_y : List Value) (f_yt : Nat → Int32) (h_y_tenants : fs_y[13]? = some (.ref yt)) (h_y_bank : fs_y[35]? = some (.int 0)) (h_yt_at0 : f_yt 0 = 0) : Met l yX9_move wsX9_move ({ frames := 2, cells := 0, slots := 0, locals := 43 }) (va_Pc [.ref y, .int p0, .int p1] (kPre D g [(y, .inr (9, fs_y)), (yt, .inl (g 1, 2, .inl f_yt))] sz)) (kQi D g (fun (r : Int32) (u : va_W) => (-2) = r) (va_A [(y, .inr (9, fs_y)), (yt, .inl (g 1, 2, .inl f_yt))] sz)) 0 0 (va_A [(y, .inr (9, fs_y)), (yt, .inl (g 1, 2, .inl f_yt))] sz) := by
  refine k_head (cc := cX9_move) (maxL := 4) (ret := (some .int)) (by decide) rfl (Nat.le_of_ble_eq_true rfl) ?_
  intro p e s m below meth c ls A hx hb hr hlocks hml hown hin hts hA hP hK hD hS hl
  have hown : s.vm.findClass RX9 = some m.cls := hown
  have hl : lv_has ls 4 [(0, .ref y), (1, .int p0), (2, .int p1)] := hl
  refine lv_aload_n hx hb dX9_move_0 rfl (lv_at hl 0 rfl) ?_
  refine lv_iload_n hx hb dX9_move_1 rfl (lv_at hl 1 rfl) ?_
  refine k_goi (wr := []) hP hD hS hA [0, 1] [] rfl rfl (by decide) (by decide) (va_runV (As := [.int p0]) (rest := []) ⟨hx, hb, hml, hown, hts⟩ (m_isTenant l D g _ y p0 yt fs_y f_yt h_y_tenants h_y_bank h_yt_at0) (cwV 1 hts gX9_move_X9_isTenant rfl rfl rfl (by decide +kernel) ⟨Nat.le_of_ble_eq_true rfl, Nat.le_of_ble_eq_true rfl⟩) (k_preV hK (hP.sub [0, 1] rfl) (hD.sub [0, 1] (by decide) rfl) 9 0 rfl rfl) rfl rfl hl.1 rfl (lv_room (Nat.le_of_ble_eq_true rfl)) dX9_move_2 ⟨Nat.le_of_ble_eq_true rfl, Nat.le_of_ble_eq_true rfl⟩) (fun r_1 u_2 H locs hw hP hD hS => ?_)
  rcases hw with ⟨rfl, rfl⟩
  have hP := hP.sub (ws' := [(y, .inr (9, fs_y)), (yt, .inl (g 1, 2, .inl f_yt))]) [0, 1] rfl
  have hD := hD.sub (ws' := [(y, .inr (9, fs_y)), (yt, .inl (g 1, 2, .inl f_yt))]) [0, 1] (by decide) rfl
  refine lv_if_eq (tgt := 24) hx hb dX9_move_5 (by decide) (fun _ => ?_) (fun c9 => absurd (by first | decide | rfl) c9)
  refine lv_bipush (v := (-2)) hx hb dX9_move_24 (by decide) ?_
  exact k_iret hx hb hr hlocks hK hP hD hS rfl dX9_move_26
set_option maxHeartbeats 4000000 in
set_option maxRecDepth 100000 in
theorem m_leave (l : Launch) (D : va_G) (g : Nat → ClassId) (sz : Nat) (y : Nat) (p0 : Int32) (yt : Nat) (fs_y : List Value) (f_yt : Nat → Int32) (h_y_tenants : fs_y[13]? = some (.ref yt)) (h_y_bank : fs_y[35]? = some (.int 0)) (h_yt_at0 : f_yt 0 = 0) : Met l yX9_leave wsX9_leave ({ frames := 2, cells := 0, slots := 0, locals := 43 }) (va_Pc [.ref y, .int p0] (kPre D g [(y, .inr (9, fs_y)), (yt, .inl (g 1, 2, .inl f_yt))] sz)) (kQi D g (fun (r : Int32) (u : va_W) => (-1) = r) (va_A [(y, .inr (9, fs_y)), (yt, .inl (g 1, 2, .inl f_yt))] sz)) 0 0 (va_A [(y, .inr (9, fs_y)), (yt, .inl (g 1, 2, .inl f_yt))] sz) := by
  refine k_head (cc := cX9_leave) (maxL := 3) (ret := (some .int)) (by decide) rfl (Nat.le_of_ble_eq_true rfl) ?_
  intro p e s m below meth c ls A hx hb hr hlocks hml hown hin hts hA hP hK hD hS hl
  have hown : s.vm.findClass RX9 = some m.cls := hown
  have hl : lv_has ls 3 [(0, .ref y), (1, .int p0)] := hl
  refine lv_aload_n hx hb dX9_leave_0 rfl (lv_at hl 0 rfl) ?_
  refine lv_iload_n hx hb dX9_leave_1 rfl (lv_at hl 1 rfl) ?_
  refine k_goi (wr := []) hP hD hS hA [0, 1] [] rfl rfl (by decide) (by decide) (va_runV (As := [.int p0]) (rest := []) ⟨hx, hb, hml, hown, hts⟩ (m_isTenant l D g _ y p0 yt fs_y f_yt h_y_tenants h_y_bank h_yt_at0) (cwV 1 hts gX9_leave_X9_isTenant rfl rfl rfl (by decide +kernel) ⟨Nat.le_of_ble_eq_true rfl, Nat.le_of_ble_eq_true rfl⟩) (k_preV hK (hP.sub [0, 1] rfl) (hD.sub [0, 1] (by decide) rfl) 9 0 rfl rfl) rfl rfl hl.1 rfl (lv_room (Nat.le_of_ble_eq_true rfl)) dX9_leave_2 ⟨Nat.le_of_ble_eq_true rfl, Nat.le_of_ble_eq_true rfl⟩) (fun r_1 u_2 H locs hw hP hD hS => ?_)
  rcases hw with ⟨rfl, rfl⟩
  have hP := hP.sub (ws' := [(y, .inr (9, fs_y)), (yt, .inl (g 1, 2, .inl f_yt))]) [0, 1] rfl
  have hD := hD.sub (ws' := [(y, .inr (9, fs_y)), (yt, .inl (g 1, 2, .inl f_yt))]) [0, 1] (by decide) rfl
  refine lv_if_eq (tgt := 16) hx hb dX9_leave_5 (by decide) (fun _ => ?_) (fun c9 => absurd (by first | decide | rfl) c9)
  refine lv_iconst (v := (-1)) hx hb dX9_leave_16 (by decide) ?_
  exact k_iret hx hb hr hlocks hK hP hD hS rfl dX9_leave_17
set_option maxHeartbeats 4000000 in
set_option maxRecDepth 100000 in
theorem m_exchange (l : Launch) (D : va_G) (g : Nat → ClassId) (sz : Nat) (y : Nat) (p0 : Int32) (p1 : Int32) (yt : Nat) (fs_y : List Value) (f_yt : Nat → Int32) (h_y_tenants : fs_y[13]? = some (.ref yt)) (h_y_bank : fs_y[35]? = some (.int 0)) (h_yt_at0 : f_yt 0 = 0) : Met l yX9_exchange wsX9_exchange ({ frames := 2, cells := 0, slots := 0, locals := 43 }) (va_Pc [.ref y, .int p0, .int p1] (kPre D g [(y, .inr (9, fs_y)), (yt, .inl (g 1, 2, .inl f_yt))] sz)) (kQi D g (fun (r : Int32) (u : va_W) => (-1) = r) (va_A [(y, .inr (9, fs_y)), (yt, .inl (g 1, 2, .inl f_yt))] sz)) 0 0 (va_A [(y, .inr (9, fs_y)), (yt, .inl (g 1, 2, .inl f_yt))] sz) := by
  refine k_head (cc := cX9_exchange) (maxL := 4) (ret := (some .int)) (by decide) rfl (Nat.le_of_ble_eq_true rfl) ?_
  intro p e s m below meth c ls A hx hb hr hlocks hml hown hin hts hA hP hK hD hS hl
  have hown : s.vm.findClass RX9 = some m.cls := hown
  have hl : lv_has ls 4 [(0, .ref y), (1, .int p0), (2, .int p1)] := hl
  refine lv_aload_n hx hb dX9_exchange_0 rfl (lv_at hl 0 rfl) ?_
  refine lv_iload_n hx hb dX9_exchange_1 rfl (lv_at hl 1 rfl) ?_
  refine k_goi (wr := []) hP hD hS hA [0, 1] [] rfl rfl (by decide) (by decide) (va_runV (As := [.int p0]) (rest := []) ⟨hx, hb, hml, hown, hts⟩ (m_isTenant l D g _ y p0 yt fs_y f_yt h_y_tenants h_y_bank h_yt_at0) (cwV 1 hts gX9_exchange_X9_isTenant rfl rfl rfl (by decide +kernel) ⟨Nat.le_of_ble_eq_true rfl, Nat.le_of_ble_eq_true rfl⟩) (k_preV hK (hP.sub [0, 1] rfl) (hD.sub [0, 1] (by decide) rfl) 9 0 rfl rfl) rfl rfl hl.1 rfl (lv_room (Nat.le_of_ble_eq_true rfl)) dX9_exchange_2 ⟨Nat.le_of_ble_eq_true rfl, Nat.le_of_ble_eq_true rfl⟩) (fun r_1 u_2 H locs hw hP hD hS => ?_)
  rcases hw with ⟨rfl, rfl⟩
  have hP := hP.sub (ws' := [(y, .inr (9, fs_y)), (yt, .inl (g 1, 2, .inl f_yt))]) [0, 1] rfl
  have hD := hD.sub (ws' := [(y, .inr (9, fs_y)), (yt, .inl (g 1, 2, .inl f_yt))]) [0, 1] (by decide) rfl
  refine lv_if_eq (tgt := 37) hx hb dX9_exchange_5 (by decide) (fun _ => ?_) (fun c9 => absurd (by first | decide | rfl) c9)
  refine lv_iconst (v := (-1)) hx hb dX9_exchange_37 (by decide) ?_
  exact k_iret hx hb hr hlocks hK hP hD hS rfl dX9_exchange_38
set_option maxHeartbeats 4000000 in
set_option maxRecDepth 100000 in
theorem m_claim (l : Launch) (D : va_G) (g : Nat → ClassId) (sz : Nat) (y : Nat) (p0 : Int32) (p1 : Int32) (yr : Nat) (fs_y : List Value) (f_yr : Nat → Int32) (h_y_rooms : fs_y[12]? = some (.ref yr)) (h_y_bank : fs_y[35]? = some (.int 0)) (h_yr_at0 : f_yr 0 = 0) : Met l yX9_claim wsX9_claim ({ frames := 2, cells := 0, slots := 0, locals := 43 }) (va_Pc [.ref y, .int p0, .int p1] (kPre D g [(y, .inr (9, fs_y)), (yr, .inl (g 1, 2, .inl f_yr))] sz)) (kQi D g (fun (r : Int32) (u : va_W) => (-1) = r) (va_A [(y, .inr (9, fs_y)), (yr, .inl (g 1, 2, .inl f_yr))] sz)) 0 0 (va_A [(y, .inr (9, fs_y)), (yr, .inl (g 1, 2, .inl f_yr))] sz) := by
  refine k_head (cc := cX9_claim) (maxL := 3) (ret := (some .int)) (by decide) rfl (Nat.le_of_ble_eq_true rfl) ?_
  intro p e s m below meth c ls A hx hb hr hlocks hml hown hin hts hA hP hK hD hS hl
  have hown : s.vm.findClass RX9 = some m.cls := hown
  have hl : lv_has ls 3 [(0, .ref y), (1, .int p0), (2, .int p1)] := hl
  refine lv_aload_n hx hb dX9_claim_0 rfl (lv_at hl 0 rfl) ?_
  refine lv_iload_n hx hb dX9_claim_1 rfl (lv_at hl 1 rfl) ?_
  refine k_goi (wr := []) hP hD hS hA [0, 1] [] rfl rfl (by decide) (by decide) (va_runV (As := [.int p0]) (rest := []) ⟨hx, hb, hml, hown, hts⟩ (m_isRoom l D g _ y p0 yr fs_y f_yr h_y_rooms h_y_bank h_yr_at0) (cwV 1 hts gX9_claim_X9_isRoom rfl rfl rfl (by decide +kernel) ⟨Nat.le_of_ble_eq_true rfl, Nat.le_of_ble_eq_true rfl⟩) (k_preV hK (hP.sub [0, 1] rfl) (hD.sub [0, 1] (by decide) rfl) 9 0 rfl rfl) rfl rfl hl.1 rfl (lv_room (Nat.le_of_ble_eq_true rfl)) dX9_claim_2 ⟨Nat.le_of_ble_eq_true rfl, Nat.le_of_ble_eq_true rfl⟩) (fun r_1 u_2 H locs hw hP hD hS => ?_)
  rcases hw with ⟨rfl, rfl⟩
  have hP := hP.sub (ws' := [(y, .inr (9, fs_y)), (yr, .inl (g 1, 2, .inl f_yr))]) [0, 1] rfl
  have hD := hD.sub (ws' := [(y, .inr (9, fs_y)), (yr, .inl (g 1, 2, .inl f_yr))]) [0, 1] (by decide) rfl
  refine lv_if_eq (tgt := 32) hx hb dX9_claim_5 (by decide) (fun _ => ?_) (fun c9 => absurd (by first | decide | rfl) c9)
  refine lv_iconst (v := (-1)) hx hb dX9_claim_32 (by decide) ?_
  exact k_iret hx hb hr hlocks hK hP hD hS rfl dX9_claim_33
set_option maxHeartbeats 4000000 in
set_option maxRecDepth 100000 in
theorem m_spend (l : Launch) (D : va_G) (g : Nat → ClassId) (sz : Nat) (y : Nat) (p0 : Int32) (p1 : Int32) (yt : Nat) (fs_y : List Value) (f_yt : Nat → Int32) (h_y_tenants : fs_y[13]? = some (.ref yt)) (h_y_bank : fs_y[35]? = some (.int 0)) (h_yt_at0 : f_yt 0 = 0) : Met l yX9_spend wsX9_spend ({ frames := 2, cells := 0, slots := 0, locals := 43 }) (va_Pc [.ref y, .int p0, .int p1] (kPre D g [(y, .inr (9, fs_y)), (yt, .inl (g 1, 2, .inl f_yt))] sz)) (kQi D g (fun (r : Int32) (u : va_W) => (-1) = r) (va_A [(y, .inr (9, fs_y)), (yt, .inl (g 1, 2, .inl f_yt))] sz)) 0 0 (va_A [(y, .inr (9, fs_y)), (yt, .inl (g 1, 2, .inl f_yt))] sz) := by
  refine k_head (cc := cX9_spend) (maxL := 3) (ret := (some .int)) (by decide) rfl (Nat.le_of_ble_eq_true rfl) ?_
  intro p e s m below meth c ls A hx hb hr hlocks hml hown hin hts hA hP hK hD hS hl
  have hown : s.vm.findClass RX9 = some m.cls := hown
  have hl : lv_has ls 3 [(0, .ref y), (1, .int p0), (2, .int p1)] := hl
  refine lv_aload_n hx hb dX9_spend_0 rfl (lv_at hl 0 rfl) ?_
  refine lv_iload_n hx hb dX9_spend_1 rfl (lv_at hl 1 rfl) ?_
  refine k_goi (wr := []) hP hD hS hA [0, 1] [] rfl rfl (by decide) (by decide) (va_runV (As := [.int p0]) (rest := []) ⟨hx, hb, hml, hown, hts⟩ (m_isTenant l D g _ y p0 yt fs_y f_yt h_y_tenants h_y_bank h_yt_at0) (cwV 1 hts gX9_spend_X9_isTenant rfl rfl rfl (by decide +kernel) ⟨Nat.le_of_ble_eq_true rfl, Nat.le_of_ble_eq_true rfl⟩) (k_preV hK (hP.sub [0, 1] rfl) (hD.sub [0, 1] (by decide) rfl) 9 0 rfl rfl) rfl rfl hl.1 rfl (lv_room (Nat.le_of_ble_eq_true rfl)) dX9_spend_2 ⟨Nat.le_of_ble_eq_true rfl, Nat.le_of_ble_eq_true rfl⟩) (fun r_1 u_2 H locs hw hP hD hS => ?_)
  rcases hw with ⟨rfl, rfl⟩
  have hP := hP.sub (ws' := [(y, .inr (9, fs_y)), (yt, .inl (g 1, 2, .inl f_yt))]) [0, 1] rfl
  have hD := hD.sub (ws' := [(y, .inr (9, fs_y)), (yt, .inl (g 1, 2, .inl f_yt))]) [0, 1] (by decide) rfl
  refine lv_if_eq (tgt := 30) hx hb dX9_spend_5 (by decide) (fun _ => ?_) (fun c9 => absurd (by first | decide | rfl) c9)
  refine lv_iconst (v := (-1)) hx hb dX9_spend_30 (by decide) ?_
  exact k_iret hx hb hr hlocks hK hP hD hS rfl dX9_spend_31
set_option maxHeartbeats 4000000 in
set_option maxRecDepth 100000 in
theorem m_calm (l : Launch) (D : va_G) (g : Nat → ClassId) (sz : Nat) (y : Nat) (p0 : Int32) (p1 : Int32) (yt : Nat) (fs_y : List Value) (f_yt : Nat → Int32) (h_y_tenants : fs_y[13]? = some (.ref yt)) (h_y_bank : fs_y[35]? = some (.int 0)) (h_yt_at0 : f_yt 0 = 0) : Met l yX9_calm wsX9_calm ({ frames := 2, cells := 0, slots := 0, locals := 43 }) (va_Pc [.ref y, .int p0, .int p1] (kPre D g [(y, .inr (9, fs_y)), (yt, .inl (g 1, 2, .inl f_yt))] sz)) (kQi D g (fun (r : Int32) (u : va_W) => (-1) = r) (va_A [(y, .inr (9, fs_y)), (yt, .inl (g 1, 2, .inl f_yt))] sz)) 0 0 (va_A [(y, .inr (9, fs_y)), (yt, .inl (g 1, 2, .inl f_yt))] sz) := by
  refine k_head (cc := cX9_calm) (maxL := 3) (ret := (some .int)) (by decide) rfl (Nat.le_of_ble_eq_true rfl) ?_
  intro p e s m below meth c ls A hx hb hr hlocks hml hown hin hts hA hP hK hD hS hl
  have hown : s.vm.findClass RX9 = some m.cls := hown
  have hl : lv_has ls 3 [(0, .ref y), (1, .int p0), (2, .int p1)] := hl
  refine lv_aload_n hx hb dX9_calm_0 rfl (lv_at hl 0 rfl) ?_
  refine lv_iload_n hx hb dX9_calm_1 rfl (lv_at hl 1 rfl) ?_
  refine k_goi (wr := []) hP hD hS hA [0, 1] [] rfl rfl (by decide) (by decide) (va_runV (As := [.int p0]) (rest := []) ⟨hx, hb, hml, hown, hts⟩ (m_isTenant l D g _ y p0 yt fs_y f_yt h_y_tenants h_y_bank h_yt_at0) (cwV 1 hts gX9_calm_X9_isTenant rfl rfl rfl (by decide +kernel) ⟨Nat.le_of_ble_eq_true rfl, Nat.le_of_ble_eq_true rfl⟩) (k_preV hK (hP.sub [0, 1] rfl) (hD.sub [0, 1] (by decide) rfl) 9 0 rfl rfl) rfl rfl hl.1 rfl (lv_room (Nat.le_of_ble_eq_true rfl)) dX9_calm_2 ⟨Nat.le_of_ble_eq_true rfl, Nat.le_of_ble_eq_true rfl⟩) (fun r_1 u_2 H locs hw hP hD hS => ?_)
  rcases hw with ⟨rfl, rfl⟩
  have hP := hP.sub (ws' := [(y, .inr (9, fs_y)), (yt, .inl (g 1, 2, .inl f_yt))]) [0, 1] rfl
  have hD := hD.sub (ws' := [(y, .inr (9, fs_y)), (yt, .inl (g 1, 2, .inl f_yt))]) [0, 1] (by decide) rfl
  refine lv_if_eq (tgt := 30) hx hb dX9_calm_5 (by decide) (fun _ => ?_) (fun c9 => absurd (by first | decide | rfl) c9)
  refine lv_iconst (v := (-1)) hx hb dX9_calm_30 (by decide) ?_
  exact k_iret hx hb hr hlocks hK hP hD hS rfl dX9_calm_31
set_option maxHeartbeats 4000000 in
set_option maxRecDepth 100000 in
theorem m_undo (l : Launch) (D : va_G) (g : Nat → ClassId) (sz : Nat) (y : Nat) (fs_y : List Value) (h_y_acts : fs_y[50]? = some (.int 0)) : Met l yX9_undo wsX9_undo ({ frames := 0, cells := 0, slots := 0, locals := 0 }) (va_Pc [.ref y] (kPre D g [(y, .inr (9, fs_y))] sz)) (kQi D g (fun (r : Int32) (u : va_W) => 0 = r) (va_A [(y, .inr (9, fs_y))] sz)) 0 0 (va_A [(y, .inr (9, fs_y))] sz) := by
  refine k_head (cc := cX9_undo) (maxL := 1) (ret := (some .boolean)) (by decide) rfl (Nat.le_of_ble_eq_true rfl) ?_
  intro p e s m below meth c ls A hx hb hr hlocks hml hown hin hts hA hP hK hD hS hl
  have hown : s.vm.findClass RX9 = some m.cls := hown
  have hl : lv_has ls 1 [(0, .ref y)] := hl
  refine lv_aload_n hx hb dX9_undo_0 rfl (lv_at hl 0 rfl) ?_
  refine va_get (D := D) (ci := 9) (v := .int 0) (C := RX9) (T := TX9) (N := 67) hx hb hts iX9_undo_X9 hown hK hP 0 rfl rfl 50 (by decide) (hts (.fieldLink RX9 398 "CatLeasesModel" "acts" "I") (List.mem_of_getElem? (i := 1) rfl)) (fun _ h9 => h9) h_y_acts dX9_undo_1 ?_
  refine lv_if_ne (tgt := 9) hx hb dX9_undo_4 (by decide) (fun c9 => absurd (by first | decide | rfl) c9) (fun _ => ?_)
  refine lv_iconst (v := 0) hx hb dX9_undo_7 (by decide) ?_
  exact k_zret hx hb hr hlocks rfl hK hP hD hS rfl dX9_undo_8
set_option maxHeartbeats 4000000 in
set_option maxRecDepth 100000 in
theorem m_redo (l : Launch) (D : va_G) (g : Nat → ClassId) (sz : Nat) (y : Nat) (fs_y : List Value) (h_y_undone : fs_y[51]? = some (.int 0)) : Met l yX9_redo wsX9_redo ({ frames := 0, cells := 0, slots := 0, locals := 0 }) (va_Pc [.ref y] (kPre D g [(y, .inr (9, fs_y))] sz)) (kQi D g (fun (r : Int32) (u : va_W) => 0 = r) (va_A [(y, .inr (9, fs_y))] sz)) 0 0 (va_A [(y, .inr (9, fs_y))] sz) := by
  refine k_head (cc := cX9_redo) (maxL := 1) (ret := (some .boolean)) (by decide) rfl (Nat.le_of_ble_eq_true rfl) ?_
  intro p e s m below meth c ls A hx hb hr hlocks hml hown hin hts hA hP hK hD hS hl
  have hown : s.vm.findClass RX9 = some m.cls := hown
  have hl : lv_has ls 1 [(0, .ref y)] := hl
  refine lv_aload_n hx hb dX9_redo_0 rfl (lv_at hl 0 rfl) ?_
  refine va_get (D := D) (ci := 9) (v := .int 0) (C := RX9) (T := TX9) (N := 67) hx hb hts iX9_redo_X9 hown hK hP 0 rfl rfl 51 (by decide) (hts (.fieldLink RX9 401 "CatLeasesModel" "undone" "I") (List.mem_of_getElem? (i := 1) rfl)) (fun _ h9 => h9) h_y_undone dX9_redo_1 ?_
  refine lv_if_ne (tgt := 9) hx hb dX9_redo_4 (by decide) (fun c9 => absurd (by first | decide | rfl) c9) (fun _ => ?_)
  refine lv_iconst (v := 0) hx hb dX9_redo_7 (by decide) ?_
  exact k_zret hx hb hr hlocks rfl hK hP hD hS rfl dX9_redo_8
set_option maxHeartbeats 4000000 in
set_option maxRecDepth 100000 in
theorem m_will (l : Launch) (D : va_G) (g : Nat → ClassId) (sz : Nat) (y : Nat) (p0 : Int32) (p1 : Int32) (p2 : Int32) (yt : Nat) (fs_y : List Value) (f_yt : Nat → Int32) (h_y_tenants : fs_y[13]? = some (.ref yt)) (h_y_bank : fs_y[35]? = some (.int 0)) (h_yt_at0 : f_yt 0 = 0) : Met l yX9_will wsX9_will ({ frames := 2, cells := 0, slots := 0, locals := 43 }) (va_Pc [.ref y, .int p0, .int p1, .int p2] (kPre D g [(y, .inr (9, fs_y)), (yt, .inl (g 1, 2, .inl f_yt))] sz)) (kQi D g (fun (r : Int32) (u : va_W) => (-2) = r) (va_A [(y, .inr (9, fs_y)), (yt, .inl (g 1, 2, .inl f_yt))] sz)) 0 0 (va_A [(y, .inr (9, fs_y)), (yt, .inl (g 1, 2, .inl f_yt))] sz) := by
  refine k_head (cc := cX9_will) (maxL := 6) (ret := (some .int)) (by decide) rfl (Nat.le_of_ble_eq_true rfl) ?_
  intro p e s m below meth c ls A hx hb hr hlocks hml hown hin hts hA hP hK hD hS hl
  have hown : s.vm.findClass RX9 = some m.cls := hown
  have hl : lv_has ls 6 [(0, .ref y), (1, .int p0), (2, .int p1), (3, .int p2)] := hl
  refine lv_aload_n hx hb dX9_will_0 rfl (lv_at hl 0 rfl) ?_
  refine lv_iload_n hx hb dX9_will_1 rfl (lv_at hl 1 rfl) ?_
  refine k_goi (wr := []) hP hD hS hA [0, 1] [] rfl rfl (by decide) (by decide) (va_runV (As := [.int p0]) (rest := []) ⟨hx, hb, hml, hown, hts⟩ (m_isTenant l D g _ y p0 yt fs_y f_yt h_y_tenants h_y_bank h_yt_at0) (cwV 1 hts gX9_will_X9_isTenant rfl rfl rfl (by decide +kernel) ⟨Nat.le_of_ble_eq_true rfl, Nat.le_of_ble_eq_true rfl⟩) (k_preV hK (hP.sub [0, 1] rfl) (hD.sub [0, 1] (by decide) rfl) 9 0 rfl rfl) rfl rfl hl.1 rfl (lv_room (Nat.le_of_ble_eq_true rfl)) dX9_will_2 ⟨Nat.le_of_ble_eq_true rfl, Nat.le_of_ble_eq_true rfl⟩) (fun r_1 u_2 H locs hw hP hD hS => ?_)
  rcases hw with ⟨rfl, rfl⟩
  have hP := hP.sub (ws' := [(y, .inr (9, fs_y)), (yt, .inl (g 1, 2, .inl f_yt))]) [0, 1] rfl
  have hD := hD.sub (ws' := [(y, .inr (9, fs_y)), (yt, .inl (g 1, 2, .inl f_yt))]) [0, 1] (by decide) rfl
  refine lv_if_eq (tgt := 24) hx hb dX9_will_5 (by decide) (fun _ => ?_) (fun c9 => absurd (by first | decide | rfl) c9)
  refine lv_bipush (v := (-2)) hx hb dX9_will_24 (by decide) ?_
  exact k_iret hx hb hr hlocks hK hP hD hS rfl dX9_will_26
set_option maxHeartbeats 4000000 in
set_option maxRecDepth 100000 in
theorem m_lasts (l : Launch) (D : va_G) (g : Nat → ClassId) (sz : Nat) (y : Nat) (p0 : Int32) (yt : Nat) (fs_y : List Value) (f_yt : Nat → Int32) (h_y_tenants : fs_y[13]? = some (.ref yt)) (h_y_bank : fs_y[35]? = some (.int 0)) (h_yt_at0 : f_yt 0 = 0) : Met l yX9_lasts wsX9_lasts ({ frames := 2, cells := 0, slots := 0, locals := 43 }) (va_Pc [.ref y, .int p0] (kPre D g [(y, .inr (9, fs_y)), (yt, .inl (g 1, 2, .inl f_yt))] sz)) (kQi D g (fun (r : Int32) (u : va_W) => (-1) = r) (va_A [(y, .inr (9, fs_y)), (yt, .inl (g 1, 2, .inl f_yt))] sz)) 0 0 (va_A [(y, .inr (9, fs_y)), (yt, .inl (g 1, 2, .inl f_yt))] sz) := by
  refine k_head (cc := cX9_lasts) (maxL := 2) (ret := (some .int)) (by decide) rfl (Nat.le_of_ble_eq_true rfl) ?_
  intro p e s m below meth c ls A hx hb hr hlocks hml hown hin hts hA hP hK hD hS hl
  have hown : s.vm.findClass RX9 = some m.cls := hown
  have hl : lv_has ls 2 [(0, .ref y), (1, .int p0)] := hl
  refine lv_aload_n hx hb dX9_lasts_0 rfl (lv_at hl 0 rfl) ?_
  refine lv_iload_n hx hb dX9_lasts_1 rfl (lv_at hl 1 rfl) ?_
  refine k_goi (wr := []) hP hD hS hA [0, 1] [] rfl rfl (by decide) (by decide) (va_runV (As := [.int p0]) (rest := []) ⟨hx, hb, hml, hown, hts⟩ (m_isTenant l D g _ y p0 yt fs_y f_yt h_y_tenants h_y_bank h_yt_at0) (cwV 1 hts gX9_lasts_X9_isTenant rfl rfl rfl (by decide +kernel) ⟨Nat.le_of_ble_eq_true rfl, Nat.le_of_ble_eq_true rfl⟩) (k_preV hK (hP.sub [0, 1] rfl) (hD.sub [0, 1] (by decide) rfl) 9 0 rfl rfl) rfl rfl hl.1 rfl (lv_room (Nat.le_of_ble_eq_true rfl)) dX9_lasts_2 ⟨Nat.le_of_ble_eq_true rfl, Nat.le_of_ble_eq_true rfl⟩) (fun r_1 u_2 H locs hw hP hD hS => ?_)
  rcases hw with ⟨rfl, rfl⟩
  have hP := hP.sub (ws' := [(y, .inr (9, fs_y)), (yt, .inl (g 1, 2, .inl f_yt))]) [0, 1] rfl
  have hD := hD.sub (ws' := [(y, .inr (9, fs_y)), (yt, .inl (g 1, 2, .inl f_yt))]) [0, 1] (by decide) rfl
  refine lv_if_ne (tgt := 10) hx hb dX9_lasts_5 (by decide) (fun c9 => absurd (by first | decide | rfl) c9) (fun _ => ?_)
  refine lv_iconst (v := (-1)) hx hb dX9_lasts_8 (by decide) ?_
  exact k_iret hx hb hr hlocks hK hP hD hS rfl dX9_lasts_9
set_option maxHeartbeats 4000000 in
set_option maxRecDepth 100000 in
theorem m_thrown (l : Launch) (D : va_G) (g : Nat → ClassId) (sz : Nat) (y : Nat) (yt : Nat) (fs_y : List Value) (f_yt : Nat → Int32) (h_y_tenants : fs_y[13]? = some (.ref yt)) (h_y_bank : fs_y[35]? = some (.int 0)) (h_yt_at0 : f_yt 0 = 0) : Met l yX9_thrown wsX9_thrown ({ frames := 1, cells := 0, slots := 0, locals := 20 }) (va_Pc [.ref y] (kPre D g [(y, .inr (9, fs_y)), (yt, .inl (g 1, 2, .inl f_yt))] sz)) (kQi D g (fun (r : Int32) (u : va_W) => 0 = r ∧ u = [(y, .inr (9, fs_y)), (yt, .inl (g 1, 2, .inl f_yt))]) (va_A [(y, .inr (9, fs_y)), (yt, .inl (g 1, 2, .inl f_yt))] sz)) 0 0 (va_A [(y, .inr (9, fs_y)), (yt, .inl (g 1, 2, .inl f_yt))] sz) := by
  refine k_head (cc := cX9_thrown) (maxL := 3) (ret := (some .int)) (by decide) rfl (Nat.le_of_ble_eq_true rfl) ?_
  intro p e s m below meth c ls A hx hb hr hlocks hml hown hin hts hA hP hK hD hS hl
  have hown : s.vm.findClass RX9 = some m.cls := hown
  have hl : lv_has ls 3 [(0, .ref y)] := hl
  refine lv_iconst (v := 0) hx hb dX9_thrown_0 (by decide) ?_
  refine lv_istore_n (lv' := [(1, .int 0), (0, .ref y)]) hx hb dX9_thrown_1 rfl hl (by decide) rfl (fun ls hl => ?_)
  refine lv_iconst (v := 0) hx hb dX9_thrown_2 (by decide) ?_
  refine lv_istore_n (lv' := [(2, .int 0), (1, .int 0), (0, .ref y)]) hx hb dX9_thrown_3 rfl hl (by decide) rfl (fun ls hl => ?_)
  refine lv_iload_n hx hb dX9_thrown_4 rfl (lv_at hl 0 rfl) ?_
  refine lv_aload_n hx hb dX9_thrown_5 rfl (lv_at hl 2 rfl) ?_
  refine k_goi (wr := []) hP hD hS hA [0, 1] [] rfl rfl (by decide) (by decide) (va_runV (As := []) (rest := [.int 0]) ⟨hx, hb, hml, hown, hts⟩ (m_many l D g _ y yt fs_y f_yt h_y_tenants h_y_bank h_yt_at0) (cwV 0 hts gX9_thrown_X9_many rfl rfl rfl (by decide +kernel) ⟨Nat.le_of_ble_eq_true rfl, Nat.le_of_ble_eq_true rfl⟩) (k_preV hK (hP.sub [0, 1] rfl) (hD.sub [0, 1] (by decide) rfl) 9 0 rfl rfl) rfl rfl hl.1 rfl (lv_room (Nat.le_of_ble_eq_true rfl)) dX9_thrown_6 ⟨Nat.le_of_ble_eq_true rfl, Nat.le_of_ble_eq_true rfl⟩) (fun r_1 u_2 H locs hw hP hD hS => ?_)
  rcases hw with ⟨rfl, rfl⟩
  have hP := hP.sub (ws' := [(y, .inr (9, fs_y)), (yt, .inl (g 1, 2, .inl f_yt))]) [0, 1] rfl
  have hD := hD.sub (ws' := [(y, .inr (9, fs_y)), (yt, .inl (g 1, 2, .inl f_yt))]) [0, 1] (by decide) rfl
  refine lv_icmp_ge (tgt := 40) hx hb dX9_thrown_9 (by decide) (fun _ => ?_) (fun c9 => absurd (by first | decide | rfl) c9)
  refine lv_iload_n hx hb dX9_thrown_40 rfl (lv_at hl 1 rfl) ?_
  exact k_iret hx hb hr hlocks hK hP hD hS ⟨rfl, rfl⟩ dX9_thrown_41
set_option maxHeartbeats 4000000 in
set_option maxRecDepth 100000 in
theorem m_shaky (l : Launch) (D : va_G) (g : Nat → ClassId) (sz : Nat) (y : Nat) (yt : Nat) (fs_y : List Value) (f_yt : Nat → Int32) (h_y_tenants : fs_y[13]? = some (.ref yt)) (h_y_bank : fs_y[35]? = some (.int 0)) (h_yt_at0 : f_yt 0 = 0) : Met l yX9_shaky wsX9_shaky ({ frames := 2, cells := 0, slots := 0, locals := 42 }) (va_Pc [.ref y] (kPre D g [(y, .inr (9, fs_y)), (yt, .inl (g 1, 2, .inl f_yt))] sz)) (kQi D g (fun (r : Int32) (u : va_W) => 0 = r) (va_A [(y, .inr (9, fs_y)), (yt, .inl (g 1, 2, .inl f_yt))] sz)) 0 0 (va_A [(y, .inr (9, fs_y)), (yt, .inl (g 1, 2, .inl f_yt))] sz) := by
  refine k_head (cc := cX9_shaky) (maxL := 1) (ret := (some .int)) (by decide) rfl (Nat.le_of_ble_eq_true rfl) ?_
  intro p e s m below meth c ls A hx hb hr hlocks hml hown hin hts hA hP hK hD hS hl
  have hown : s.vm.findClass RX9 = some m.cls := hown
  have hl : lv_has ls 1 [(0, .ref y)] := hl
  refine lv_aload_n hx hb dX9_shaky_0 rfl (lv_at hl 0 rfl) ?_
  refine k_goi (wr := []) hP hD hS hA [0, 1] [] rfl rfl (by decide) (by decide) (va_runV (As := []) (rest := []) ⟨hx, hb, hml, hown, hts⟩ (m_thrown l D g _ y yt fs_y f_yt h_y_tenants h_y_bank h_yt_at0) (cwV 0 hts gX9_shaky_X9_thrown rfl rfl rfl (by decide +kernel) ⟨Nat.le_of_ble_eq_true rfl, Nat.le_of_ble_eq_true rfl⟩) (k_preV hK (hP.sub [0, 1] rfl) (hD.sub [0, 1] (by decide) rfl) 9 0 rfl rfl) rfl rfl hl.1 rfl (lv_room (Nat.le_of_ble_eq_true rfl)) dX9_shaky_1 ⟨Nat.le_of_ble_eq_true rfl, Nat.le_of_ble_eq_true rfl⟩) (fun r_1 u_2 H locs hw hP hD hS => ?_)
  rcases hw with ⟨rfl, rfl⟩
  have hP := hP.sub (ws' := [(y, .inr (9, fs_y)), (yt, .inl (g 1, 2, .inl f_yt))]) [0, 1] rfl
  have hD := hD.sub (ws' := [(y, .inr (9, fs_y)), (yt, .inl (g 1, 2, .inl f_yt))]) [0, 1] (by decide) rfl
  exact k_iret hx hb hr hlocks hK hP hD hS rfl dX9_shaky_4
set_option maxHeartbeats 4000000 in
set_option maxRecDepth 100000 in
theorem m_bitsOf (l : Launch) (D : va_G) (g : Nat → ClassId) (sz : Nat)  : Met l yX9_bitsOf wsX9_bitsOf ({ frames := 0, cells := 0, slots := 0, locals := 0 }) (va_Pc [.int 0] (kPre D g [] sz)) (kQi D g (fun (r : Int32) (u : va_W) => 0 = r ∧ u = []) (va_A [] sz)) 0 0 (va_A [] sz) := by
  refine k_head (cc := cX9_bitsOf) (maxL := 3) (ret := (some .int)) (by decide) rfl (Nat.le_of_ble_eq_true rfl) ?_
  intro p e s m below meth c ls A hx hb hr hlocks hml hown hin hts hA hP hK hD hS hl
  have hown : s.vm.findClass RX9 = some m.cls := hown
  have hl : lv_has ls 3 [(0, .int 0)] := hl
  refine lv_iconst (v := 0) hx hb dX9_bitsOf_0 (by decide) ?_
  refine lv_istore_n (lv' := [(1, .int 0), (0, .int 0)]) hx hb dX9_bitsOf_1 rfl hl (by decide) rfl (fun ls hl => ?_)
  refine lv_iload_n hx hb dX9_bitsOf_2 rfl (lv_at hl 1 rfl) ?_
  refine lv_istore_n (lv' := [(2, .int 0), (1, .int 0), (0, .int 0)]) hx hb dX9_bitsOf_3 rfl hl (by decide) rfl (fun ls hl => ?_)
  refine lv_iload_n hx hb dX9_bitsOf_4 rfl (lv_at hl 0 rfl) ?_
  refine lv_if_eq (tgt := 20) hx hb dX9_bitsOf_5 (by decide) (fun _ => ?_) (fun c9 => absurd (by first | decide | rfl) c9)
  refine lv_iload_n hx hb dX9_bitsOf_20 rfl (lv_at hl 1 rfl) ?_
  exact k_iret hx hb hr hlocks hK hP hD hS ⟨rfl, rfl⟩ dX9_bitsOf_21
set_option maxHeartbeats 4000000 in
set_option maxRecDepth 100000 in
theorem m_law (l : Launch) (D : va_G) (g : Nat → ClassId) (sz : Nat) (y : Nat) (p0 : Int32) (yt : Nat) (fs_y : List Value) (v_y_allWant : Value) (f_yt : Nat → Int32) (h_y_tenants : fs_y[13]? = some (.ref yt)) (h_y_bank : fs_y[35]? = some (.int 0)) (h_y_allWant : fs_y[47]? = some (v_y_allWant)) (h_yt_at0 : f_yt 0 = 0) : Met l yX9_law wsX9_law ({ frames := 2, cells := 0, slots := 0, locals := 42 }) (va_Pc [.ref y, .int p0] (kPre D g [(y, .inr (9, fs_y)), (yt, .inl (g 1, 2, .inl f_yt))] sz)) (kQi D g (fun (r : Int32) (u : va_W) => ((p0 < 0) ∧ (-1) = r) ∨ ((¬ p0 < 0) ∧ (99 < p0) ∧ (-1) = r) ∨ ((¬ p0 < 0) ∧ (¬ 99 < p0) ∧ 0 = r)) (va_A [(y, .inr (9, fs_y)), (yt, .inl (g 1, 2, .inl f_yt))] sz)) 0 0 (va_A [(y, .inr (9, fs_y)), (yt, .inl (g 1, 2, .inl f_yt))] sz) := by
  refine k_head (cc := cX9_law) (maxL := 3) (ret := (some .int)) (by decide) rfl (Nat.le_of_ble_eq_true rfl) ?_
  intro p e s m below meth c ls A hx hb hr hlocks hml hown hin hts hA hP hK hD hS hl
  have hown : s.vm.findClass RX9 = some m.cls := hown
  have hl : lv_has ls 3 [(0, .ref y), (1, .int p0)] := hl
  refine lv_iload_n hx hb dX9_law_0 rfl (lv_at hl 1 rfl) ?_
  refine lv_iconst (v := 0) hx hb dX9_law_1 (by decide) ?_
  refine lv_bipush (v := 99) hx hb dX9_law_2 (by decide) ?_
  refine k_goi (wr := [(y, .inr (9, fs_y)), (yt, .inl (g 1, 2, .inl f_yt))]) hP hD hS hA [] [0, 1] rfl rfl (by decide) (by decide) (va_runS (As := [.int p0, .int 0, .int 99]) (rest := []) ⟨hx, hb, hml, hown, hts⟩ (m_isIn l D g _ p0 0 99) (va_cwS 3 hts gX9_law_X9_isIn rfl rfl rfl (by decide +kernel) ⟨Nat.le_of_ble_eq_true rfl, Nat.le_of_ble_eq_true rfl⟩) (k_preS hK (hP.sub [] rfl) (hD.sub [] (by decide) rfl)) rfl rfl hl.1 rfl (lv_room (Nat.le_of_ble_eq_true rfl)) dX9_law_4 ⟨Nat.le_of_ble_eq_true rfl, Nat.le_of_ble_eq_true rfl⟩) (fun r_1 u_2 H locs hw hP hD hS => ?_)
  rcases hw with ⟨c_3, rfl, rfl⟩ | ⟨c_4, c_5, rfl, rfl⟩ | ⟨c_6, c_7, rfl, rfl⟩
  · have hP := hP.sub (ws' := [(y, .inr (9, fs_y)), (yt, .inl (g 1, 2, .inl f_yt))]) [0, 1] rfl
    have hD := hD.sub (ws' := [(y, .inr (9, fs_y)), (yt, .inl (g 1, 2, .inl f_yt))]) [0, 1] (by decide) rfl
    refine lv_if_ne (tgt := 12) hx hb dX9_law_7 (by decide) (fun c9 => absurd (by first | decide | rfl) c9) (fun _ => ?_)
    refine lv_iconst (v := (-1)) hx hb dX9_law_10 (by decide) ?_
    exact k_iret hx hb hr hlocks hK hP hD hS (Or.inl ⟨c_3, rfl⟩) dX9_law_11
  · have hP := hP.sub (ws' := [(y, .inr (9, fs_y)), (yt, .inl (g 1, 2, .inl f_yt))]) [0, 1] rfl
    have hD := hD.sub (ws' := [(y, .inr (9, fs_y)), (yt, .inl (g 1, 2, .inl f_yt))]) [0, 1] (by decide) rfl
    refine lv_if_ne (tgt := 12) hx hb dX9_law_7 (by decide) (fun c9 => absurd (by first | decide | rfl) c9) (fun _ => ?_)
    refine lv_iconst (v := (-1)) hx hb dX9_law_10 (by decide) ?_
    exact k_iret hx hb hr hlocks hK hP hD hS (Or.inr (Or.inl ⟨c_4, c_5, rfl⟩)) dX9_law_11
  · have hP := hP.sub (ws' := [(y, .inr (9, fs_y)), (yt, .inl (g 1, 2, .inl f_yt))]) [0, 1] rfl
    have hD := hD.sub (ws' := [(y, .inr (9, fs_y)), (yt, .inl (g 1, 2, .inl f_yt))]) [0, 1] (by decide) rfl
    refine lv_if_ne (tgt := 12) hx hb dX9_law_7 (by decide) (fun _ => ?_) (fun c9 => absurd c9 (by first | decide | simp))
    refine lv_aload_n hx hb dX9_law_12 rfl (lv_at hl 0 rfl) ?_
    refine lv_iload_n hx hb dX9_law_13 rfl (lv_at hl 1 rfl) ?_
    refine va_put (D := D) (ci := 9) (v := .int p0) (ty := .int) (C := RX9) (T := TX9) (N := 67) hx hb hts iX9_law_X9 tyX9 tyX9_ok nmX9 hown hK hP hD hS 0 rfl rfl 47 (by decide) (hts (.fieldLink RX9 100 "CatLeasesModel" "allWant" "I") (List.mem_of_getElem? (i := 1) rfl)) (fun _ h9 => h9) rfl (by decide +kernel) rfl rfl ((k_len h_y_allWant)) dX9_law_14 (fun H locs hP hD hS => ?_)
    have hP : va_P D vwCl [(y, .inr (9, (fs_y.set 47 (.int p0)))), (yt, .inl (g 1, 2, .inl f_yt))] H := hP
    have hD : va_D A [(y, .inr (9, (fs_y.set 47 (.int p0)))), (yt, .inl (g 1, 2, .inl f_yt))] := hD
    refine lv_aload_n hx hb dX9_law_17 rfl (lv_at hl 0 rfl) ?_
    refine k_goi (wr := []) hP hD hS hA [0, 1] [] rfl rfl (by decide) (by decide) (va_runV (As := []) (rest := []) ⟨hx, hb, hml, hown, hts⟩ (m_thrown l D g _ y yt (fs_y.set 47 (.int p0)) f_yt (k_sn (by decide) h_y_tenants) (k_sn (by decide) h_y_bank) h_yt_at0) (cwV 0 hts gX9_law_X9_thrown rfl rfl rfl (by decide +kernel) ⟨Nat.le_of_ble_eq_true rfl, Nat.le_of_ble_eq_true rfl⟩) (k_preV hK (hP.sub [0, 1] rfl) (hD.sub [0, 1] (by decide) rfl) 9 0 rfl rfl) rfl rfl hl.1 rfl (lv_room (Nat.le_of_ble_eq_true rfl)) dX9_law_18 ⟨Nat.le_of_ble_eq_true rfl, Nat.le_of_ble_eq_true rfl⟩) (fun r_8 u_9 H locs hw hP hD hS => ?_)
    rcases hw with ⟨rfl, rfl⟩
    have hP := hP.sub (ws' := [(y, .inr (9, (fs_y.set 47 (.int p0)))), (yt, .inl (g 1, 2, .inl f_yt))]) [0, 1] rfl
    have hD := hD.sub (ws' := [(y, .inr (9, (fs_y.set 47 (.int p0)))), (yt, .inl (g 1, 2, .inl f_yt))]) [0, 1] (by decide) rfl
    refine k_goi (wr := [(y, .inr (9, (fs_y.set 47 (.int p0)))), (yt, .inl (g 1, 2, .inl f_yt))]) hP hD hS hA [] [0, 1] rfl rfl (by decide) (by decide) (va_runS (As := [.int 0]) (rest := []) ⟨hx, hb, hml, hown, hts⟩ (m_bitsOf l D g _ ) (va_cwS 1 hts gX9_law_X9_bitsOf rfl rfl rfl (by decide +kernel) ⟨Nat.le_of_ble_eq_true rfl, Nat.le_of_ble_eq_true rfl⟩) (k_preS hK (hP.sub [] rfl) (hD.sub [] (by decide) rfl)) rfl rfl hl.1 rfl (lv_room (Nat.le_of_ble_eq_true rfl)) dX9_law_21 ⟨Nat.le_of_ble_eq_true rfl, Nat.le_of_ble_eq_true rfl⟩) (fun r_10 u_11 H locs hw hP hD hS => ?_)
    rcases hw with ⟨rfl, rfl⟩
    have hP := hP.sub (ws' := [(y, .inr (9, (fs_y.set 47 (.int p0)))), (yt, .inl (g 1, 2, .inl f_yt))]) [0, 1] rfl
    have hD := hD.sub (ws' := [(y, .inr (9, (fs_y.set 47 (.int p0)))), (yt, .inl (g 1, 2, .inl f_yt))]) [0, 1] (by decide) rfl
    refine lv_istore_n (lv' := [(2, .int 0), (0, .ref y), (1, .int p0)]) hx hb dX9_law_24 rfl hl (by decide) rfl (fun ls hl => ?_)
    refine lv_aload_n hx hb dX9_law_25 rfl (lv_at hl 1 rfl) ?_
    refine lv_iconst (v := (-1)) hx hb dX9_law_26 (by decide) ?_
    refine va_put (D := D) (ci := 9) (v := .int (-1)) (ty := .int) (C := RX9) (T := TX9) (N := 67) hx hb hts iX9_law_X9 tyX9 tyX9_ok nmX9 hown hK hP hD hS 0 rfl rfl 47 (by decide) (hts (.fieldLink RX9 100 "CatLeasesModel" "allWant" "I") (List.mem_of_getElem? (i := 1) rfl)) (fun _ h9 => h9) rfl (by decide +kernel) rfl rfl ((k_len (k_ss h_y_allWant))) dX9_law_27 (fun H locs hP hD hS => ?_)
    have hP : va_P D vwCl [(y, .inr (9, ((fs_y.set 47 (.int p0)).set 47 (.int (-1))))), (yt, .inl (g 1, 2, .inl f_yt))] H := hP
    have hD : va_D A [(y, .inr (9, ((fs_y.set 47 (.int p0)).set 47 (.int (-1))))), (yt, .inl (g 1, 2, .inl f_yt))] := hD
    refine lv_iload_n hx hb dX9_law_30 rfl (lv_at hl 0 rfl) ?_
    exact k_iret hx hb hr hlocks hK hP hD hS (Or.inr (Or.inr ⟨c_6, c_7, rfl⟩)) dX9_law_31
set_option maxHeartbeats 4000000 in
set_option maxRecDepth 100000 in
theorem m_grief (l : Launch) (D : va_G) (g : Nat → ClassId) (sz : Nat) (y : Nat) (p0 : Int32) (p1 : Int32) (yc : Nat) (fs_y : List Value) (f_yc : Nat → Int32) (h_y_cats : fs_y[11]? = some (.ref yc)) (h_y_bank : fs_y[35]? = some (.int 0)) (h_yc_at0 : f_yc 0 = 0) : Met l yX9_grief wsX9_grief ({ frames := 2, cells := 0, slots := 0, locals := 43 }) (va_Pc [.ref y, .int p0, .int p1] (kPre D g [(y, .inr (9, fs_y)), (yc, .inl (g 1, 2, .inl f_yc))] sz)) (kQi D g (fun (r : Int32) (u : va_W) => (-1000) = r) (va_A [(y, .inr (9, fs_y)), (yc, .inl (g 1, 2, .inl f_yc))] sz)) 0 0 (va_A [(y, .inr (9, fs_y)), (yc, .inl (g 1, 2, .inl f_yc))] sz) := by
  refine k_head (cc := cX9_grief) (maxL := 4) (ret := (some .int)) (by decide) rfl (Nat.le_of_ble_eq_true rfl) ?_
  intro p e s m below meth c ls A hx hb hr hlocks hml hown hin hts hA hP hK hD hS hl
  have hown : s.vm.findClass RX9 = some m.cls := hown
  have hl : lv_has ls 4 [(0, .ref y), (1, .int p0), (2, .int p1)] := hl
  refine lv_aload_n hx hb dX9_grief_0 rfl (lv_at hl 0 rfl) ?_
  refine lv_iload_n hx hb dX9_grief_1 rfl (lv_at hl 1 rfl) ?_
  refine k_goi (wr := []) hP hD hS hA [0, 1] [] rfl rfl (by decide) (by decide) (va_runV (As := [.int p0]) (rest := []) ⟨hx, hb, hml, hown, hts⟩ (m_isCat l D g _ y p0 yc fs_y f_yc h_y_cats h_y_bank h_yc_at0) (cwV 1 hts gX9_grief_X9_isCat rfl rfl rfl (by decide +kernel) ⟨Nat.le_of_ble_eq_true rfl, Nat.le_of_ble_eq_true rfl⟩) (k_preV hK (hP.sub [0, 1] rfl) (hD.sub [0, 1] (by decide) rfl) 9 0 rfl rfl) rfl rfl hl.1 rfl (lv_room (Nat.le_of_ble_eq_true rfl)) dX9_grief_2 ⟨Nat.le_of_ble_eq_true rfl, Nat.le_of_ble_eq_true rfl⟩) (fun r_1 u_2 H locs hw hP hD hS => ?_)
  rcases hw with ⟨rfl, rfl⟩
  have hP := hP.sub (ws' := [(y, .inr (9, fs_y)), (yc, .inl (g 1, 2, .inl f_yc))]) [0, 1] rfl
  have hD := hD.sub (ws' := [(y, .inr (9, fs_y)), (yc, .inl (g 1, 2, .inl f_yc))]) [0, 1] (by decide) rfl
  refine lv_if_eq (tgt := 26) hx hb dX9_grief_5 (by decide) (fun _ => ?_) (fun c9 => absurd (by first | decide | rfl) c9)
  refine lv_sipush (v := (-1000)) hx hb dX9_grief_26 (by decide) ?_
  exact k_iret hx hb hr hlocks hK hP hD hS rfl dX9_grief_29
set_option maxHeartbeats 4000000 in
set_option maxRecDepth 100000 in
theorem m_haven (l : Launch) (D : va_G) (g : Nat → ClassId) (sz : Nat) (y : Nat) (p0 : Int32) (p1 : Int32) (yt : Nat) (fs_y : List Value) (f_yt : Nat → Int32) (h_y_tenants : fs_y[13]? = some (.ref yt)) (h_y_bank : fs_y[35]? = some (.int 0)) (h_yt_at0 : f_yt 0 = 0) : Met l yX9_haven wsX9_haven ({ frames := 2, cells := 0, slots := 0, locals := 43 }) (va_Pc [.ref y, .int p0, .int p1] (kPre D g [(y, .inr (9, fs_y)), (yt, .inl (g 1, 2, .inl f_yt))] sz)) (kQi D g (fun (r : Int32) (u : va_W) => (-1) = r) (va_A [(y, .inr (9, fs_y)), (yt, .inl (g 1, 2, .inl f_yt))] sz)) 0 0 (va_A [(y, .inr (9, fs_y)), (yt, .inl (g 1, 2, .inl f_yt))] sz) := by
  refine k_head (cc := cX9_haven) (maxL := 7) (ret := (some .int)) (by decide) rfl (Nat.le_of_ble_eq_true rfl) ?_
  intro p e s m below meth c ls A hx hb hr hlocks hml hown hin hts hA hP hK hD hS hl
  have hown : s.vm.findClass RX9 = some m.cls := hown
  have hl : lv_has ls 7 [(0, .ref y), (1, .int p0), (2, .int p1)] := hl
  refine lv_aload_n hx hb dX9_haven_0 rfl (lv_at hl 0 rfl) ?_
  refine lv_iload_n hx hb dX9_haven_1 rfl (lv_at hl 1 rfl) ?_
  refine k_goi (wr := []) hP hD hS hA [0, 1] [] rfl rfl (by decide) (by decide) (va_runV (As := [.int p0]) (rest := []) ⟨hx, hb, hml, hown, hts⟩ (m_isTenant l D g _ y p0 yt fs_y f_yt h_y_tenants h_y_bank h_yt_at0) (cwV 1 hts gX9_haven_X9_isTenant rfl rfl rfl (by decide +kernel) ⟨Nat.le_of_ble_eq_true rfl, Nat.le_of_ble_eq_true rfl⟩) (k_preV hK (hP.sub [0, 1] rfl) (hD.sub [0, 1] (by decide) rfl) 9 0 rfl rfl) rfl rfl hl.1 rfl (lv_room (Nat.le_of_ble_eq_true rfl)) dX9_haven_2 ⟨Nat.le_of_ble_eq_true rfl, Nat.le_of_ble_eq_true rfl⟩) (fun r_1 u_2 H locs hw hP hD hS => ?_)
  rcases hw with ⟨rfl, rfl⟩
  have hP := hP.sub (ws' := [(y, .inr (9, fs_y)), (yt, .inl (g 1, 2, .inl f_yt))]) [0, 1] rfl
  have hD := hD.sub (ws' := [(y, .inr (9, fs_y)), (yt, .inl (g 1, 2, .inl f_yt))]) [0, 1] (by decide) rfl
  refine lv_if_eq (tgt := 17) hx hb dX9_haven_5 (by decide) (fun _ => ?_) (fun c9 => absurd (by first | decide | rfl) c9)
  refine lv_iconst (v := (-1)) hx hb dX9_haven_17 (by decide) ?_
  exact k_iret hx hb hr hlocks hK hP hD hS rfl dX9_haven_18
set_option maxHeartbeats 4000000 in
set_option maxRecDepth 100000 in
theorem m_odds (l : Launch) (D : va_G) (g : Nat → ClassId) (sz : Nat) (y : Nat) (p0 : Int32) (p1 : Int32) (p2 : Int32) (yc : Nat) (fs_y : List Value) (f_yc : Nat → Int32) (h_y_cats : fs_y[11]? = some (.ref yc)) (h_y_bank : fs_y[35]? = some (.int 0)) (h_yc_at0 : f_yc 0 = 0) : Met l yX9_odds wsX9_odds ({ frames := 2, cells := 0, slots := 0, locals := 43 }) (va_Pc [.ref y, .int p0, .int p1, .int p2] (kPre D g [(y, .inr (9, fs_y)), (yc, .inl (g 1, 2, .inl f_yc))] sz)) (kQi D g (fun (r : Int32) (u : va_W) => (-1) = r) (va_A [(y, .inr (9, fs_y)), (yc, .inl (g 1, 2, .inl f_yc))] sz)) 0 0 (va_A [(y, .inr (9, fs_y)), (yc, .inl (g 1, 2, .inl f_yc))] sz) := by
  refine k_head (cc := cX9_odds) (maxL := 6) (ret := (some .int)) (by decide) rfl (Nat.le_of_ble_eq_true rfl) ?_
  intro p e s m below meth c ls A hx hb hr hlocks hml hown hin hts hA hP hK hD hS hl
  have hown : s.vm.findClass RX9 = some m.cls := hown
  have hl : lv_has ls 6 [(0, .ref y), (1, .int p0), (2, .int p1), (3, .int p2)] := hl
  refine lv_aload_n hx hb dX9_odds_0 rfl (lv_at hl 0 rfl) ?_
  refine lv_iload_n hx hb dX9_odds_1 rfl (lv_at hl 1 rfl) ?_
  refine k_goi (wr := []) hP hD hS hA [0, 1] [] rfl rfl (by decide) (by decide) (va_runV (As := [.int p0]) (rest := []) ⟨hx, hb, hml, hown, hts⟩ (m_isCat l D g _ y p0 yc fs_y f_yc h_y_cats h_y_bank h_yc_at0) (cwV 1 hts gX9_odds_X9_isCat rfl rfl rfl (by decide +kernel) ⟨Nat.le_of_ble_eq_true rfl, Nat.le_of_ble_eq_true rfl⟩) (k_preV hK (hP.sub [0, 1] rfl) (hD.sub [0, 1] (by decide) rfl) 9 0 rfl rfl) rfl rfl hl.1 rfl (lv_room (Nat.le_of_ble_eq_true rfl)) dX9_odds_2 ⟨Nat.le_of_ble_eq_true rfl, Nat.le_of_ble_eq_true rfl⟩) (fun r_1 u_2 H locs hw hP hD hS => ?_)
  rcases hw with ⟨rfl, rfl⟩
  have hP := hP.sub (ws' := [(y, .inr (9, fs_y)), (yc, .inl (g 1, 2, .inl f_yc))]) [0, 1] rfl
  have hD := hD.sub (ws' := [(y, .inr (9, fs_y)), (yc, .inl (g 1, 2, .inl f_yc))]) [0, 1] (by decide) rfl
  refine lv_if_eq (tgt := 34) hx hb dX9_odds_5 (by decide) (fun _ => ?_) (fun c9 => absurd (by first | decide | rfl) c9)
  refine lv_iconst (v := (-1)) hx hb dX9_odds_34 (by decide) ?_
  exact k_iret hx hb hr hlocks hK hP hD hS rfl dX9_odds_35
set_option maxHeartbeats 4000000 in
set_option maxRecDepth 100000 in
theorem m_swaps (l : Launch) (D : va_G) (g : Nat → ClassId) (sz : Nat) (y : Nat) (p0 : Int32) (yt : Nat) (fs_y : List Value) (f_yt : Nat → Int32) (h_y_tenants : fs_y[13]? = some (.ref yt)) (h_y_bank : fs_y[35]? = some (.int 0)) (h_yt_at0 : f_yt 0 = 0) : Met l yX9_swaps wsX9_swaps ({ frames := 1, cells := 0, slots := 0, locals := 22 }) (va_Pc [.ref y, .int p0] (kPre D g [(y, .inr (9, fs_y)), (yt, .inl (g 1, 2, .inl f_yt))] sz)) (kQi D g (fun (r : Int32) (u : va_W) => ((p0 < 0) ∧ (-1) = r) ∨ ((¬ p0 < 0) ∧ (2 < p0) ∧ (-1) = r) ∨ ((¬ p0 < 0) ∧ (¬ 2 < p0) ∧ (¬ p0 = 0) ∧ (-1) = r) ∨ ((¬ p0 < 0) ∧ (¬ 2 < p0) ∧ (p0 = 0) ∧ 0 = r)) (va_A [(y, .inr (9, fs_y)), (yt, .inl (g 1, 2, .inl f_yt))] sz)) 0 0 (va_A [(y, .inr (9, fs_y)), (yt, .inl (g 1, 2, .inl f_yt))] sz) := by
  refine k_head (cc := cX9_swaps) (maxL := 6) (ret := (some .int)) (by decide) rfl (Nat.le_of_ble_eq_true rfl) ?_
  intro p e s m below meth c ls A hx hb hr hlocks hml hown hin hts hA hP hK hD hS hl
  have hown : s.vm.findClass RX9 = some m.cls := hown
  have hl : lv_has ls 6 [(0, .ref y), (1, .int p0)] := hl
  refine lv_iload_n hx hb dX9_swaps_0 rfl (lv_at hl 1 rfl) ?_
  refine lv_iconst (v := 0) hx hb dX9_swaps_1 (by decide) ?_
  refine lv_iconst (v := 2) hx hb dX9_swaps_2 (by decide) ?_
  refine k_goi (wr := [(y, .inr (9, fs_y)), (yt, .inl (g 1, 2, .inl f_yt))]) hP hD hS hA [] [0, 1] rfl rfl (by decide) (by decide) (va_runS (As := [.int p0, .int 0, .int 2]) (rest := []) ⟨hx, hb, hml, hown, hts⟩ (m_isIn l D g _ p0 0 2) (va_cwS 3 hts gX9_swaps_X9_isIn rfl rfl rfl (by decide +kernel) ⟨Nat.le_of_ble_eq_true rfl, Nat.le_of_ble_eq_true rfl⟩) (k_preS hK (hP.sub [] rfl) (hD.sub [] (by decide) rfl)) rfl rfl hl.1 rfl (lv_room (Nat.le_of_ble_eq_true rfl)) dX9_swaps_3 ⟨Nat.le_of_ble_eq_true rfl, Nat.le_of_ble_eq_true rfl⟩) (fun r_1 u_2 H locs hw hP hD hS => ?_)
  rcases hw with ⟨c_3, rfl, rfl⟩ | ⟨c_4, c_5, rfl, rfl⟩ | ⟨c_6, c_7, rfl, rfl⟩
  · have hP := hP.sub (ws' := [(y, .inr (9, fs_y)), (yt, .inl (g 1, 2, .inl f_yt))]) [0, 1] rfl
    have hD := hD.sub (ws' := [(y, .inr (9, fs_y)), (yt, .inl (g 1, 2, .inl f_yt))]) [0, 1] (by decide) rfl
    refine lv_if_ne (tgt := 11) hx hb dX9_swaps_6 (by decide) (fun c9 => absurd (by first | decide | rfl) c9) (fun _ => ?_)
    refine lv_iconst (v := (-1)) hx hb dX9_swaps_9 (by decide) ?_
    exact k_iret hx hb hr hlocks hK hP hD hS (Or.inl ⟨c_3, rfl⟩) dX9_swaps_10
  · have hP := hP.sub (ws' := [(y, .inr (9, fs_y)), (yt, .inl (g 1, 2, .inl f_yt))]) [0, 1] rfl
    have hD := hD.sub (ws' := [(y, .inr (9, fs_y)), (yt, .inl (g 1, 2, .inl f_yt))]) [0, 1] (by decide) rfl
    refine lv_if_ne (tgt := 11) hx hb dX9_swaps_6 (by decide) (fun c9 => absurd (by first | decide | rfl) c9) (fun _ => ?_)
    refine lv_iconst (v := (-1)) hx hb dX9_swaps_9 (by decide) ?_
    exact k_iret hx hb hr hlocks hK hP hD hS (Or.inr (Or.inl ⟨c_4, c_5, rfl⟩)) dX9_swaps_10
  · have hP := hP.sub (ws' := [(y, .inr (9, fs_y)), (yt, .inl (g 1, 2, .inl f_yt))]) [0, 1] rfl
    have hD := hD.sub (ws' := [(y, .inr (9, fs_y)), (yt, .inl (g 1, 2, .inl f_yt))]) [0, 1] (by decide) rfl
    refine lv_if_ne (tgt := 11) hx hb dX9_swaps_6 (by decide) (fun _ => ?_) (fun c9 => absurd c9 (by first | decide | simp))
    refine lv_iconst (v := 0) hx hb dX9_swaps_11 (by decide) ?_
    refine lv_istore_n (lv' := [(2, .int 0), (0, .ref y), (1, .int p0)]) hx hb dX9_swaps_12 rfl hl (by decide) rfl (fun ls hl => ?_)
    refine lv_iconst (v := (-1)) hx hb dX9_swaps_13 (by decide) ?_
    refine lv_istore_n (lv' := [(3, .int (-1)), (2, .int 0), (0, .ref y), (1, .int p0)]) hx hb dX9_swaps_14 rfl hl (by decide) rfl (fun ls hl => ?_)
    refine lv_iconst (v := 0) hx hb dX9_swaps_15 (by decide) ?_
    refine lv_istore (lv' := [(4, .int 0), (3, .int (-1)), (2, .int 0), (0, .ref y), (1, .int p0)]) hx hb dX9_swaps_16 hl (by decide) rfl (fun ls hl => ?_)
    refine lv_iload hx hb dX9_swaps_18 (lv_at hl 0 rfl) ?_
    refine lv_aload_n hx hb dX9_swaps_20 rfl (lv_at hl 3 rfl) ?_
    refine k_goi (wr := []) hP hD hS hA [0, 1] [] rfl rfl (by decide) (by decide) (va_runV (As := []) (rest := [.int 0]) ⟨hx, hb, hml, hown, hts⟩ (m_many l D g _ y yt fs_y f_yt h_y_tenants h_y_bank h_yt_at0) (cwV 0 hts gX9_swaps_X9_many rfl rfl rfl (by decide +kernel) ⟨Nat.le_of_ble_eq_true rfl, Nat.le_of_ble_eq_true rfl⟩) (k_preV hK (hP.sub [0, 1] rfl) (hD.sub [0, 1] (by decide) rfl) 9 0 rfl rfl) rfl rfl hl.1 rfl (lv_room (Nat.le_of_ble_eq_true rfl)) dX9_swaps_21 ⟨Nat.le_of_ble_eq_true rfl, Nat.le_of_ble_eq_true rfl⟩) (fun r_8 u_9 H locs hw hP hD hS => ?_)
    rcases hw with ⟨rfl, rfl⟩
    have hP := hP.sub (ws' := [(y, .inr (9, fs_y)), (yt, .inl (g 1, 2, .inl f_yt))]) [0, 1] rfl
    have hD := hD.sub (ws' := [(y, .inr (9, fs_y)), (yt, .inl (g 1, 2, .inl f_yt))]) [0, 1] (by decide) rfl
    refine lv_icmp_ge (tgt := 148) hx hb dX9_swaps_24 (by decide) (fun _ => ?_) (fun c9 => absurd (by first | decide | rfl) c9)
    refine lv_iload_n hx hb dX9_swaps_148 rfl (lv_at hl 4 rfl) ?_
    refine lv_if_ne (tgt := 156) hx hb dX9_swaps_149 (by decide) (fun c_10 => ?_) (fun c_10 => ?_)
    · refine lv_iload_n hx hb dX9_swaps_156 rfl (lv_at hl 2 rfl) ?_
      refine lv_if_ne (tgt := 164) hx hb dX9_swaps_157 (by decide) (fun c9 => absurd (by first | decide | rfl) c9) (fun _ => ?_)
      refine lv_iconst (v := (-1)) hx hb dX9_swaps_160 (by decide) ?_
      refine lv_goto (tgt := 180) hx hb dX9_swaps_161 (by decide) ?_
      exact k_iret hx hb hr hlocks hK hP hD hS (Or.inr (Or.inr (Or.inl ⟨c_6, c_7, c_10, rfl⟩))) dX9_swaps_180
    · refine lv_iload_n hx hb dX9_swaps_152 rfl (lv_at hl 2 rfl) ?_
      refine lv_goto (tgt := 180) hx hb dX9_swaps_153 (by decide) ?_
      exact k_iret hx hb hr hlocks hK hP hD hS (Or.inr (Or.inr (Or.inr ⟨c_6, c_7, c_10, rfl⟩))) dX9_swaps_180
set_option maxHeartbeats 4000000 in
set_option maxRecDepth 100000 in
theorem m_pay (l : Launch) (D : va_G) (g : Nat → ClassId) (sz : Nat) (y : Nat) (p0 : Int32) (yt : Nat) (fs_y : List Value) (f_yt : Nat → Int32) (h_y_tenants : fs_y[13]? = some (.ref yt)) (h_y_bank : fs_y[35]? = some (.int 0)) (h_yt_at0 : f_yt 0 = 0) : Met l yX9_pay wsX9_pay ({ frames := 3, cells := 0, slots := 0, locals := 64 }) (va_Pc [.ref y, .int p0] (kPre D g [(y, .inr (9, fs_y)), (yt, .inl (g 1, 2, .inl f_yt))] sz)) (kQi D g (fun (r : Int32) (u : va_W) => (-1) = r) (va_A [(y, .inr (9, fs_y)), (yt, .inl (g 1, 2, .inl f_yt))] sz)) 0 0 (va_A [(y, .inr (9, fs_y)), (yt, .inl (g 1, 2, .inl f_yt))] sz) := by
  refine k_head (cc := cX9_pay) (maxL := 3) (ret := (some .int)) (by decide) rfl (Nat.le_of_ble_eq_true rfl) ?_
  intro p e s m below meth c ls A hx hb hr hlocks hml hown hin hts hA hP hK hD hS hl
  have hown : s.vm.findClass RX9 = some m.cls := hown
  have hl : lv_has ls 3 [(0, .ref y), (1, .int p0)] := hl
  refine lv_aload_n hx hb dX9_pay_0 rfl (lv_at hl 0 rfl) ?_
  refine lv_iload_n hx hb dX9_pay_1 rfl (lv_at hl 1 rfl) ?_
  refine k_goi (wr := []) hP hD hS hA [0, 1] [] rfl rfl (by decide) (by decide) (va_runV (As := [.int p0]) (rest := []) ⟨hx, hb, hml, hown, hts⟩ (m_isAtHome l D g _ y p0 yt fs_y f_yt h_y_tenants h_y_bank h_yt_at0) (cwV 1 hts gX9_pay_X9_isAtHome rfl rfl rfl (by decide +kernel) ⟨Nat.le_of_ble_eq_true rfl, Nat.le_of_ble_eq_true rfl⟩) (k_preV hK (hP.sub [0, 1] rfl) (hD.sub [0, 1] (by decide) rfl) 9 0 rfl rfl) rfl rfl hl.1 rfl (lv_room (Nat.le_of_ble_eq_true rfl)) dX9_pay_2 ⟨Nat.le_of_ble_eq_true rfl, Nat.le_of_ble_eq_true rfl⟩) (fun r_1 u_2 H locs hw hP hD hS => ?_)
  rcases hw with ⟨rfl, rfl⟩
  have hP := hP.sub (ws' := [(y, .inr (9, fs_y)), (yt, .inl (g 1, 2, .inl f_yt))]) [0, 1] rfl
  have hD := hD.sub (ws' := [(y, .inr (9, fs_y)), (yt, .inl (g 1, 2, .inl f_yt))]) [0, 1] (by decide) rfl
  refine lv_if_ne (tgt := 10) hx hb dX9_pay_5 (by decide) (fun c9 => absurd (by first | decide | rfl) c9) (fun _ => ?_)
  refine lv_iconst (v := (-1)) hx hb dX9_pay_8 (by decide) ?_
  exact k_iret hx hb hr hlocks hK hP hD hS rfl dX9_pay_9
set_option maxHeartbeats 4000000 in
set_option maxRecDepth 100000 in
theorem m_borne (l : Launch) (D : va_G) (g : Nat → ClassId) (sz : Nat) (y : Nat) (p0 : Int32) (yt : Nat) (fs_y : List Value) (f_yt : Nat → Int32) (h_y_tenants : fs_y[13]? = some (.ref yt)) (h_y_bank : fs_y[35]? = some (.int 0)) (h_yt_at0 : f_yt 0 = 0) : Met l yX9_borne wsX9_borne ({ frames := 3, cells := 0, slots := 0, locals := 64 }) (va_Pc [.ref y, .int p0] (kPre D g [(y, .inr (9, fs_y)), (yt, .inl (g 1, 2, .inl f_yt))] sz)) (kQi D g (fun (r : Int32) (u : va_W) => (-1) = r) (va_A [(y, .inr (9, fs_y)), (yt, .inl (g 1, 2, .inl f_yt))] sz)) 0 0 (va_A [(y, .inr (9, fs_y)), (yt, .inl (g 1, 2, .inl f_yt))] sz) := by
  refine k_head (cc := cX9_borne) (maxL := 3) (ret := (some .int)) (by decide) rfl (Nat.le_of_ble_eq_true rfl) ?_
  intro p e s m below meth c ls A hx hb hr hlocks hml hown hin hts hA hP hK hD hS hl
  have hown : s.vm.findClass RX9 = some m.cls := hown
  have hl : lv_has ls 3 [(0, .ref y), (1, .int p0)] := hl
  refine lv_aload_n hx hb dX9_borne_0 rfl (lv_at hl 0 rfl) ?_
  refine lv_iload_n hx hb dX9_borne_1 rfl (lv_at hl 1 rfl) ?_
  refine k_goi (wr := []) hP hD hS hA [0, 1] [] rfl rfl (by decide) (by decide) (va_runV (As := [.int p0]) (rest := []) ⟨hx, hb, hml, hown, hts⟩ (m_isAtHome l D g _ y p0 yt fs_y f_yt h_y_tenants h_y_bank h_yt_at0) (cwV 1 hts gX9_borne_X9_isAtHome rfl rfl rfl (by decide +kernel) ⟨Nat.le_of_ble_eq_true rfl, Nat.le_of_ble_eq_true rfl⟩) (k_preV hK (hP.sub [0, 1] rfl) (hD.sub [0, 1] (by decide) rfl) 9 0 rfl rfl) rfl rfl hl.1 rfl (lv_room (Nat.le_of_ble_eq_true rfl)) dX9_borne_2 ⟨Nat.le_of_ble_eq_true rfl, Nat.le_of_ble_eq_true rfl⟩) (fun r_1 u_2 H locs hw hP hD hS => ?_)
  rcases hw with ⟨rfl, rfl⟩
  have hP := hP.sub (ws' := [(y, .inr (9, fs_y)), (yt, .inl (g 1, 2, .inl f_yt))]) [0, 1] rfl
  have hD := hD.sub (ws' := [(y, .inr (9, fs_y)), (yt, .inl (g 1, 2, .inl f_yt))]) [0, 1] (by decide) rfl
  refine lv_if_ne (tgt := 10) hx hb dX9_borne_5 (by decide) (fun c9 => absurd (by first | decide | rfl) c9) (fun _ => ?_)
  refine lv_iconst (v := (-1)) hx hb dX9_borne_8 (by decide) ?_
  exact k_iret hx hb hr hlocks hK hP hD hS rfl dX9_borne_9
set_option maxHeartbeats 4000000 in
set_option maxRecDepth 100000 in
theorem m_bid (l : Launch) (D : va_G) (g : Nat → ClassId) (sz : Nat) (y : Nat) (p0 : Int32) (p1 : Int32) (p2 : Int32) (yt : Nat) (fs_y : List Value) (v_y_laid : Value) (f_yt : Nat → Int32) (h_y_tenants : fs_y[13]? = some (.ref yt)) (h_y_bank : fs_y[35]? = some (.int 0)) (h_y_laid : fs_y[54]? = some (v_y_laid)) (h_yt_at0 : f_yt 0 = 0) : Met l yX9_bid wsX9_bid ({ frames := 2, cells := 0, slots := 0, locals := 43 }) (va_Pc [.ref y, .int p0, .int p1, .int p2] (kPre D g [(y, .inr (9, fs_y)), (yt, .inl (g 1, 2, .inl f_yt))] sz)) (kQi D g (fun (r : Int32) (u : va_W) => (-1) = r) (va_A [(y, .inr (9, fs_y)), (yt, .inl (g 1, 2, .inl f_yt))] sz)) 0 0 (va_A [(y, .inr (9, fs_y)), (yt, .inl (g 1, 2, .inl f_yt))] sz) := by
  refine k_head (cc := cX9_bid) (maxL := 6) (ret := (some .int)) (by decide) rfl (Nat.le_of_ble_eq_true rfl) ?_
  intro p e s m below meth c ls A hx hb hr hlocks hml hown hin hts hA hP hK hD hS hl
  have hown : s.vm.findClass RX9 = some m.cls := hown
  have hl : lv_has ls 6 [(0, .ref y), (1, .int p0), (2, .int p1), (3, .int p2)] := hl
  refine lv_aload_n hx hb dX9_bid_0 rfl (lv_at hl 0 rfl) ?_
  refine lv_iconst (v := 0) hx hb dX9_bid_1 (by decide) ?_
  refine va_put (D := D) (ci := 9) (v := .int 0) (ty := .int) (C := RX9) (T := TX9) (N := 67) hx hb hts iX9_bid_X9 tyX9 tyX9_ok nmX9 hown hK hP hD hS 0 rfl rfl 54 (by decide) (hts (.fieldLink RX9 407 "CatLeasesModel" "laid" "I") (List.mem_of_getElem? (i := 1) rfl)) (fun _ h9 => h9) rfl (by decide +kernel) rfl rfl ((k_len h_y_laid)) dX9_bid_2 (fun H locs hP hD hS => ?_)
  have hP : va_P D vwCl [(y, .inr (9, (fs_y.set 54 (.int 0)))), (yt, .inl (g 1, 2, .inl f_yt))] H := hP
  have hD : va_D A [(y, .inr (9, (fs_y.set 54 (.int 0)))), (yt, .inl (g 1, 2, .inl f_yt))] := hD
  refine lv_aload_n hx hb dX9_bid_5 rfl (lv_at hl 0 rfl) ?_
  refine lv_iload_n hx hb dX9_bid_6 rfl (lv_at hl 1 rfl) ?_
  refine k_goi (wr := []) hP hD hS hA [0, 1] [] rfl rfl (by decide) (by decide) (va_runV (As := [.int p0]) (rest := []) ⟨hx, hb, hml, hown, hts⟩ (m_isTenant l D g _ y p0 yt (fs_y.set 54 (.int 0)) f_yt (k_sn (by decide) h_y_tenants) (k_sn (by decide) h_y_bank) h_yt_at0) (cwV 1 hts gX9_bid_X9_isTenant rfl rfl rfl (by decide +kernel) ⟨Nat.le_of_ble_eq_true rfl, Nat.le_of_ble_eq_true rfl⟩) (k_preV hK (hP.sub [0, 1] rfl) (hD.sub [0, 1] (by decide) rfl) 9 0 rfl rfl) rfl rfl hl.1 rfl (lv_room (Nat.le_of_ble_eq_true rfl)) dX9_bid_7 ⟨Nat.le_of_ble_eq_true rfl, Nat.le_of_ble_eq_true rfl⟩) (fun r_1 u_2 H locs hw hP hD hS => ?_)
  rcases hw with ⟨rfl, rfl⟩
  have hP := hP.sub (ws' := [(y, .inr (9, (fs_y.set 54 (.int 0)))), (yt, .inl (g 1, 2, .inl f_yt))]) [0, 1] rfl
  have hD := hD.sub (ws' := [(y, .inr (9, (fs_y.set 54 (.int 0)))), (yt, .inl (g 1, 2, .inl f_yt))]) [0, 1] (by decide) rfl
  refine lv_if_eq (tgt := 42) hx hb dX9_bid_10 (by decide) (fun _ => ?_) (fun c9 => absurd (by first | decide | rfl) c9)
  refine lv_iconst (v := (-1)) hx hb dX9_bid_42 (by decide) ?_
  exact k_iret hx hb hr hlocks hK hP hD hS rfl dX9_bid_43
set_option maxHeartbeats 4000000 in
set_option maxRecDepth 100000 in
theorem m_lies (l : Launch) (D : va_G) (g : Nat → ClassId) (sz : Nat) (y : Nat) (p0 : Int32) (fs_y : List Value) (h_y_laid : fs_y[54]? = some (.int 0)) : Met l yX9_lies wsX9_lies ({ frames := 1, cells := 0, slots := 0, locals := 22 }) (va_Pc [.ref y, .int p0] (kPre D g [(y, .inr (9, fs_y))] sz)) (kQi D g (fun (r : Int32) (u : va_W) => (-2) = r) (va_A [(y, .inr (9, fs_y))] sz)) 0 0 (va_A [(y, .inr (9, fs_y))] sz) := by
  refine k_head (cc := cX9_lies) (maxL := 2) (ret := (some .int)) (by decide) rfl (Nat.le_of_ble_eq_true rfl) ?_
  intro p e s m below meth c ls A hx hb hr hlocks hml hown hin hts hA hP hK hD hS hl
  have hown : s.vm.findClass RX9 = some m.cls := hown
  have hl : lv_has ls 2 [(0, .ref y), (1, .int p0)] := hl
  refine lv_iload_n hx hb dX9_lies_0 rfl (lv_at hl 1 rfl) ?_
  refine lv_iconst (v := 0) hx hb dX9_lies_1 (by decide) ?_
  refine lv_aload_n hx hb dX9_lies_2 rfl (lv_at hl 0 rfl) ?_
  refine va_get (D := D) (ci := 9) (v := .int 0) (C := RX9) (T := TX9) (N := 67) hx hb hts iX9_lies_X9 hown hK hP 0 rfl rfl 54 (by decide) (hts (.fieldLink RX9 407 "CatLeasesModel" "laid" "I") (List.mem_of_getElem? (i := 1) rfl)) (fun _ h9 => h9) h_y_laid dX9_lies_3 ?_
  refine lv_iconst (v := 1) hx hb dX9_lies_6 (by decide) ?_
  refine lv_isub hx hb dX9_lies_7 ?_
  refine k_top (v := (-1)) (by decide) ?_
  refine k_goi (wr := [(y, .inr (9, fs_y))]) hP hD hS hA [] [0] rfl rfl (by decide) (by decide) (va_runS (As := [.int p0, .int 0, .int (-1)]) (rest := []) ⟨hx, hb, hml, hown, hts⟩ (m_isIn l D g _ p0 0 (-1)) (va_cwS 3 hts gX9_lies_X9_isIn rfl rfl rfl (by decide +kernel) ⟨Nat.le_of_ble_eq_true rfl, Nat.le_of_ble_eq_true rfl⟩) (k_preS hK (hP.sub [] rfl) (hD.sub [] (by decide) rfl)) rfl rfl hl.1 rfl (lv_room (Nat.le_of_ble_eq_true rfl)) dX9_lies_8 ⟨Nat.le_of_ble_eq_true rfl, Nat.le_of_ble_eq_true rfl⟩) (fun r_1 u_2 H locs hw hP hD hS => ?_)
  rcases hw with ⟨c_3, rfl, rfl⟩ | ⟨c_4, c_5, rfl, rfl⟩ | ⟨c_6, c_7, rfl, rfl⟩
  · have hP := hP.sub (ws' := [(y, .inr (9, fs_y))]) [0] rfl
    have hD := hD.sub (ws' := [(y, .inr (9, fs_y))]) [0] (by decide) rfl
    refine lv_if_eq (tgt := 23) hx hb dX9_lies_11 (by decide) (fun _ => ?_) (fun c9 => absurd (by first | decide | rfl) c9)
    refine lv_bipush (v := (-2)) hx hb dX9_lies_23 (by decide) ?_
    exact k_iret hx hb hr hlocks hK hP hD hS rfl dX9_lies_25
  · have hP := hP.sub (ws' := [(y, .inr (9, fs_y))]) [0] rfl
    have hD := hD.sub (ws' := [(y, .inr (9, fs_y))]) [0] (by decide) rfl
    refine lv_if_eq (tgt := 23) hx hb dX9_lies_11 (by decide) (fun _ => ?_) (fun c9 => absurd (by first | decide | rfl) c9)
    refine lv_bipush (v := (-2)) hx hb dX9_lies_23 (by decide) ?_
    exact k_iret hx hb hr hlocks hK hP hD hS rfl dX9_lies_25
  · exfalso; have km1 : ((-1) : Int32).toInt = -1 := (by decide); have k0 : (0 : Int32).toInt = 0 := (by decide); simp only [Int32.lt_iff_toInt_lt, Int32.le_iff_toInt_le, ← Int32.toInt_inj] at c_6 c_7; omega
set_option maxHeartbeats 4000000 in
set_option maxRecDepth 100000 in
theorem m_areCats (l : Launch) (D : va_G) (g : Nat → ClassId) (sz : Nat) (y : Nat) (p0 : Int32) (yc : Nat) (fs_y : List Value) (f_yc : Nat → Int32) (h_y_cats : fs_y[11]? = some (.ref yc)) (h_y_bank : fs_y[35]? = some (.int 0)) (h_yc_at0 : f_yc 0 = 0) : Met l yX9_areCats wsX9_areCats ({ frames := 1, cells := 0, slots := 0, locals := 22 }) (va_Pc [.ref y, .int p0] (kPre D g [(y, .inr (9, fs_y)), (yc, .inl (g 1, 2, .inl f_yc))] sz)) (kQi D g (fun (r : Int32) (u : va_W) => ((p0 < 0) ∧ 0 = r ∧ u = [(y, .inr (9, fs_y)), (yc, .inl (g 1, 2, .inl f_yc))]) ∨ ((¬ p0 < 0) ∧ (0 < p0) ∧ 0 = r ∧ u = [(y, .inr (9, fs_y)), (yc, .inl (g 1, 2, .inl f_yc))]) ∨ ((¬ p0 < 0) ∧ (¬ 0 < p0) ∧ 1 = r ∧ u = [(y, .inr (9, fs_y)), (yc, .inl (g 1, 2, .inl f_yc))])) (va_A [(y, .inr (9, fs_y)), (yc, .inl (g 1, 2, .inl f_yc))] sz)) 0 0 (va_A [(y, .inr (9, fs_y)), (yc, .inl (g 1, 2, .inl f_yc))] sz) := by
  refine k_head (cc := cX9_areCats) (maxL := 2) (ret := (some .boolean)) (by decide) rfl (Nat.le_of_ble_eq_true rfl) ?_
  intro p e s m below meth c ls A hx hb hr hlocks hml hown hin hts hA hP hK hD hS hl
  have hown : s.vm.findClass RX9 = some m.cls := hown
  have hl : lv_has ls 2 [(0, .ref y), (1, .int p0)] := hl
  refine lv_iload_n hx hb dX9_areCats_0 rfl (lv_at hl 1 rfl) ?_
  refine lv_iconst (v := 0) hx hb dX9_areCats_1 (by decide) ?_
  refine lv_iconst (v := 1) hx hb dX9_areCats_2 (by decide) ?_
  refine lv_aload_n hx hb dX9_areCats_3 rfl (lv_at hl 0 rfl) ?_
  refine k_goi (wr := []) hP hD hS hA [0, 1] [] rfl rfl (by decide) (by decide) (va_runV (As := []) (rest := [.int 1, .int 0, .int p0]) ⟨hx, hb, hml, hown, hts⟩ (m_cattery l D g _ y yc fs_y f_yc h_y_cats h_y_bank h_yc_at0) (cwV 0 hts gX9_areCats_X9_cattery rfl rfl rfl (by decide +kernel) ⟨Nat.le_of_ble_eq_true rfl, Nat.le_of_ble_eq_true rfl⟩) (k_preV hK (hP.sub [0, 1] rfl) (hD.sub [0, 1] (by decide) rfl) 9 0 rfl rfl) rfl rfl hl.1 rfl (lv_room (Nat.le_of_ble_eq_true rfl)) dX9_areCats_4 ⟨Nat.le_of_ble_eq_true rfl, Nat.le_of_ble_eq_true rfl⟩) (fun r_1 u_2 H locs hw hP hD hS => ?_)
  rcases hw with ⟨rfl, rfl⟩
  have hP := hP.sub (ws' := [(y, .inr (9, fs_y)), (yc, .inl (g 1, 2, .inl f_yc))]) [0, 1] rfl
  have hD := hD.sub (ws' := [(y, .inr (9, fs_y)), (yc, .inl (g 1, 2, .inl f_yc))]) [0, 1] (by decide) rfl
  refine lv_ishl hx hb dX9_areCats_7 ?_
  refine k_top (v := 1) (by decide) ?_
  refine lv_iconst (v := 1) hx hb dX9_areCats_8 (by decide) ?_
  refine lv_isub hx hb dX9_areCats_9 ?_
  refine k_top (v := 0) (by decide) ?_
  refine k_goi (wr := [(y, .inr (9, fs_y)), (yc, .inl (g 1, 2, .inl f_yc))]) hP hD hS hA [] [0, 1] rfl rfl (by decide) (by decide) (va_runS (As := [.int p0, .int 0, .int 0]) (rest := []) ⟨hx, hb, hml, hown, hts⟩ (m_isIn l D g _ p0 0 0) (va_cwS 3 hts gX9_areCats_X9_isIn rfl rfl rfl (by decide +kernel) ⟨Nat.le_of_ble_eq_true rfl, Nat.le_of_ble_eq_true rfl⟩) (k_preS hK (hP.sub [] rfl) (hD.sub [] (by decide) rfl)) rfl rfl hl.1 rfl (lv_room (Nat.le_of_ble_eq_true rfl)) dX9_areCats_10 ⟨Nat.le_of_ble_eq_true rfl, Nat.le_of_ble_eq_true rfl⟩) (fun r_3 u_4 H locs hw hP hD hS => ?_)
  rcases hw with ⟨c_5, rfl, rfl⟩ | ⟨c_6, c_7, rfl, rfl⟩ | ⟨c_8, c_9, rfl, rfl⟩
  · have hP := hP.sub (ws' := [(y, .inr (9, fs_y)), (yc, .inl (g 1, 2, .inl f_yc))]) [0, 1] rfl
    have hD := hD.sub (ws' := [(y, .inr (9, fs_y)), (yc, .inl (g 1, 2, .inl f_yc))]) [0, 1] (by decide) rfl
    exact k_zret hx hb hr hlocks rfl hK hP hD hS (Or.inl ⟨c_5, rfl, rfl⟩) dX9_areCats_13
  · have hP := hP.sub (ws' := [(y, .inr (9, fs_y)), (yc, .inl (g 1, 2, .inl f_yc))]) [0, 1] rfl
    have hD := hD.sub (ws' := [(y, .inr (9, fs_y)), (yc, .inl (g 1, 2, .inl f_yc))]) [0, 1] (by decide) rfl
    exact k_zret hx hb hr hlocks rfl hK hP hD hS (Or.inr (Or.inl ⟨c_6, c_7, rfl, rfl⟩)) dX9_areCats_13
  · have hP := hP.sub (ws' := [(y, .inr (9, fs_y)), (yc, .inl (g 1, 2, .inl f_yc))]) [0, 1] rfl
    have hD := hD.sub (ws' := [(y, .inr (9, fs_y)), (yc, .inl (g 1, 2, .inl f_yc))]) [0, 1] (by decide) rfl
    exact k_zret hx hb hr hlocks rfl hK hP hD hS (Or.inr (Or.inr ⟨c_8, c_9, rfl, rfl⟩)) dX9_areCats_13
set_option maxHeartbeats 4000000 in
set_option maxRecDepth 100000 in
theorem m_keeper (l : Launch) (D : va_G) (g : Nat → ClassId) (sz : Nat) (y : Nat) (p0 : Int32) (p1 : Int32) (yr : Nat) (fs_y : List Value) (f_yr : Nat → Int32) (h_y_rooms : fs_y[12]? = some (.ref yr)) (h_y_bank : fs_y[35]? = some (.int 0)) (h_yr_at0 : f_yr 0 = 0) : Met l yX9_keeper wsX9_keeper ({ frames := 2, cells := 0, slots := 0, locals := 43 }) (va_Pc [.ref y, .int p0, .int p1] (kPre D g [(y, .inr (9, fs_y)), (yr, .inl (g 1, 2, .inl f_yr))] sz)) (kQi D g (fun (r : Int32) (u : va_W) => (-2) = r) (va_A [(y, .inr (9, fs_y)), (yr, .inl (g 1, 2, .inl f_yr))] sz)) 0 0 (va_A [(y, .inr (9, fs_y)), (yr, .inl (g 1, 2, .inl f_yr))] sz) := by
  refine k_head (cc := cX9_keeper) (maxL := 3) (ret := (some .int)) (by decide) rfl (Nat.le_of_ble_eq_true rfl) ?_
  intro p e s m below meth c ls A hx hb hr hlocks hml hown hin hts hA hP hK hD hS hl
  have hown : s.vm.findClass RX9 = some m.cls := hown
  have hl : lv_has ls 3 [(0, .ref y), (1, .int p0), (2, .int p1)] := hl
  refine lv_aload_n hx hb dX9_keeper_0 rfl (lv_at hl 0 rfl) ?_
  refine lv_iload_n hx hb dX9_keeper_1 rfl (lv_at hl 1 rfl) ?_
  refine k_goi (wr := []) hP hD hS hA [0, 1] [] rfl rfl (by decide) (by decide) (va_runV (As := [.int p0]) (rest := []) ⟨hx, hb, hml, hown, hts⟩ (m_isRoom l D g _ y p0 yr fs_y f_yr h_y_rooms h_y_bank h_yr_at0) (cwV 1 hts gX9_keeper_X9_isRoom rfl rfl rfl (by decide +kernel) ⟨Nat.le_of_ble_eq_true rfl, Nat.le_of_ble_eq_true rfl⟩) (k_preV hK (hP.sub [0, 1] rfl) (hD.sub [0, 1] (by decide) rfl) 9 0 rfl rfl) rfl rfl hl.1 rfl (lv_room (Nat.le_of_ble_eq_true rfl)) dX9_keeper_2 ⟨Nat.le_of_ble_eq_true rfl, Nat.le_of_ble_eq_true rfl⟩) (fun r_1 u_2 H locs hw hP hD hS => ?_)
  rcases hw with ⟨rfl, rfl⟩
  have hP := hP.sub (ws' := [(y, .inr (9, fs_y)), (yr, .inl (g 1, 2, .inl f_yr))]) [0, 1] rfl
  have hD := hD.sub (ws' := [(y, .inr (9, fs_y)), (yr, .inl (g 1, 2, .inl f_yr))]) [0, 1] (by decide) rfl
  refine lv_if_eq (tgt := 25) hx hb dX9_keeper_5 (by decide) (fun _ => ?_) (fun c9 => absurd (by first | decide | rfl) c9)
  refine lv_bipush (v := (-2)) hx hb dX9_keeper_25 (by decide) ?_
  exact k_iret hx hb hr hlocks hK hP hD hS rfl dX9_keeper_27
set_option maxHeartbeats 4000000 in
set_option maxRecDepth 100000 in
theorem m_probate (l : Launch) (D : va_G) (g : Nat → ClassId) (sz : Nat) (y : Nat) (p0 : Int32) (yc : Nat) (yr : Nat) (fs_y : List Value) (f_yc : Nat → Int32) (f_yr : Nat → Int32) (h_y_cats : fs_y[11]? = some (.ref yc)) (h_y_rooms : fs_y[12]? = some (.ref yr)) (h_y_bank : fs_y[35]? = some (.int 0)) (h_yc_at0 : f_yc 0 = 0) (h_yr_at0 : f_yr 0 = 0) : Met l yX9_probate wsX9_probate ({ frames := 2, cells := 0, slots := 0, locals := 43 }) (va_Pc [.ref y, .int p0] (kPre D g [(y, .inr (9, fs_y)), (yc, .inl (g 1, 2, .inl f_yc)), (yr, .inl (g 1, 2, .inl f_yr))] sz)) (kQi D g (fun (r : Int32) (u : va_W) => ((p0 < 0) ∧ (-1) = r) ∨ ((¬ p0 < 0) ∧ (0 < p0) ∧ (-1) = r) ∨ ((¬ p0 < 0) ∧ (¬ 0 < p0) ∧ 0 = r)) (va_A [(y, .inr (9, fs_y)), (yc, .inl (g 1, 2, .inl f_yc)), (yr, .inl (g 1, 2, .inl f_yr))] sz)) 0 0 (va_A [(y, .inr (9, fs_y)), (yc, .inl (g 1, 2, .inl f_yc)), (yr, .inl (g 1, 2, .inl f_yr))] sz) := by
  refine k_head (cc := cX9_probate) (maxL := 4) (ret := (some .int)) (by decide) rfl (Nat.le_of_ble_eq_true rfl) ?_
  intro p e s m below meth c ls A hx hb hr hlocks hml hown hin hts hA hP hK hD hS hl
  have hown : s.vm.findClass RX9 = some m.cls := hown
  have hl : lv_has ls 4 [(0, .ref y), (1, .int p0)] := hl
  refine lv_aload_n hx hb dX9_probate_0 rfl (lv_at hl 0 rfl) ?_
  refine lv_iload_n hx hb dX9_probate_1 rfl (lv_at hl 1 rfl) ?_
  refine k_goi (wr := [(yr, .inl (g 1, 2, .inl f_yr))]) hP hD hS hA [0, 1] [2] rfl rfl (by decide) (by decide) (va_runV (As := [.int p0]) (rest := []) ⟨hx, hb, hml, hown, hts⟩ (m_areCats l D g _ y p0 yc fs_y f_yc h_y_cats h_y_bank h_yc_at0) (cwV 1 hts gX9_probate_X9_areCats rfl rfl rfl (by decide +kernel) ⟨Nat.le_of_ble_eq_true rfl, Nat.le_of_ble_eq_true rfl⟩) (k_preV hK (hP.sub [0, 1] rfl) (hD.sub [0, 1] (by decide) rfl) 9 0 rfl rfl) rfl rfl hl.1 rfl (lv_room (Nat.le_of_ble_eq_true rfl)) dX9_probate_2 ⟨Nat.le_of_ble_eq_true rfl, Nat.le_of_ble_eq_true rfl⟩) (fun r_1 u_2 H locs hw hP hD hS => ?_)
  rcases hw with ⟨c_3, rfl, rfl⟩ | ⟨c_4, c_5, rfl, rfl⟩ | ⟨c_6, c_7, rfl, rfl⟩
  · have hP := hP.sub (ws' := [(y, .inr (9, fs_y)), (yc, .inl (g 1, 2, .inl f_yc)), (yr, .inl (g 1, 2, .inl f_yr))]) [1, 2, 0] rfl
    have hD := hD.sub (ws' := [(y, .inr (9, fs_y)), (yc, .inl (g 1, 2, .inl f_yc)), (yr, .inl (g 1, 2, .inl f_yr))]) [1, 2, 0] (by decide) rfl
    refine lv_if_ne (tgt := 10) hx hb dX9_probate_5 (by decide) (fun c9 => absurd (by first | decide | rfl) c9) (fun _ => ?_)
    refine lv_iconst (v := (-1)) hx hb dX9_probate_8 (by decide) ?_
    exact k_iret hx hb hr hlocks hK hP hD hS (Or.inl ⟨c_3, rfl⟩) dX9_probate_9
  · have hP := hP.sub (ws' := [(y, .inr (9, fs_y)), (yc, .inl (g 1, 2, .inl f_yc)), (yr, .inl (g 1, 2, .inl f_yr))]) [1, 2, 0] rfl
    have hD := hD.sub (ws' := [(y, .inr (9, fs_y)), (yc, .inl (g 1, 2, .inl f_yc)), (yr, .inl (g 1, 2, .inl f_yr))]) [1, 2, 0] (by decide) rfl
    refine lv_if_ne (tgt := 10) hx hb dX9_probate_5 (by decide) (fun c9 => absurd (by first | decide | rfl) c9) (fun _ => ?_)
    refine lv_iconst (v := (-1)) hx hb dX9_probate_8 (by decide) ?_
    exact k_iret hx hb hr hlocks hK hP hD hS (Or.inr (Or.inl ⟨c_4, c_5, rfl⟩)) dX9_probate_9
  · have hP := hP.sub (ws' := [(y, .inr (9, fs_y)), (yc, .inl (g 1, 2, .inl f_yc)), (yr, .inl (g 1, 2, .inl f_yr))]) [1, 2, 0] rfl
    have hD := hD.sub (ws' := [(y, .inr (9, fs_y)), (yc, .inl (g 1, 2, .inl f_yc)), (yr, .inl (g 1, 2, .inl f_yr))]) [1, 2, 0] (by decide) rfl
    refine lv_if_ne (tgt := 10) hx hb dX9_probate_5 (by decide) (fun _ => ?_) (fun c9 => absurd c9 (by first | decide | simp))
    refine lv_iconst (v := 0) hx hb dX9_probate_10 (by decide) ?_
    refine lv_istore_n (lv' := [(2, .int 0), (0, .ref y), (1, .int p0)]) hx hb dX9_probate_11 rfl hl (by decide) rfl (fun ls hl => ?_)
    refine lv_iconst (v := 0) hx hb dX9_probate_12 (by decide) ?_
    refine lv_istore_n (lv' := [(3, .int 0), (2, .int 0), (0, .ref y), (1, .int p0)]) hx hb dX9_probate_13 rfl hl (by decide) rfl (fun ls hl => ?_)
    refine lv_iload_n hx hb dX9_probate_14 rfl (lv_at hl 0 rfl) ?_
    refine lv_aload_n hx hb dX9_probate_15 rfl (lv_at hl 2 rfl) ?_
    refine k_goi (wr := [(yc, .inl (g 1, 2, .inl f_yc))]) hP hD hS hA [0, 2] [1] rfl rfl (by decide) (by decide) (va_runV (As := []) (rest := [.int 0]) ⟨hx, hb, hml, hown, hts⟩ (m_chambers l D g _ y yr fs_y f_yr h_y_rooms h_y_bank h_yr_at0) (cwV 0 hts gX9_probate_X9_chambers rfl rfl rfl (by decide +kernel) ⟨Nat.le_of_ble_eq_true rfl, Nat.le_of_ble_eq_true rfl⟩) (k_preV hK (hP.sub [0, 2] rfl) (hD.sub [0, 2] (by decide) rfl) 9 0 rfl rfl) rfl rfl hl.1 rfl (lv_room (Nat.le_of_ble_eq_true rfl)) dX9_probate_16 ⟨Nat.le_of_ble_eq_true rfl, Nat.le_of_ble_eq_true rfl⟩) (fun r_8 u_9 H locs hw hP hD hS => ?_)
    rcases hw with ⟨rfl, rfl⟩
    have hP := hP.sub (ws' := [(y, .inr (9, fs_y)), (yc, .inl (g 1, 2, .inl f_yc)), (yr, .inl (g 1, 2, .inl f_yr))]) [1, 0, 2] rfl
    have hD := hD.sub (ws' := [(y, .inr (9, fs_y)), (yc, .inl (g 1, 2, .inl f_yc)), (yr, .inl (g 1, 2, .inl f_yr))]) [1, 0, 2] (by decide) rfl
    refine lv_icmp_ge (tgt := 45) hx hb dX9_probate_19 (by decide) (fun _ => ?_) (fun c9 => absurd (by first | decide | rfl) c9)
    refine lv_iload_n hx hb dX9_probate_45 rfl (lv_at hl 1 rfl) ?_
    exact k_iret hx hb hr hlocks hK hP hD hS (Or.inr (Or.inr ⟨c_6, c_7, rfl⟩)) dX9_probate_46
set_option maxHeartbeats 4000000 in
set_option maxRecDepth 100000 in
theorem m_crowd (l : Launch) (D : va_G) (g : Nat → ClassId) (sz : Nat) (y : Nat) (p0 : Int32) (yc : Nat) (fs_y : List Value) (f_yc : Nat → Int32) (h_y_cats : fs_y[11]? = some (.ref yc)) (h_y_bank : fs_y[35]? = some (.int 0)) (h_yc_at0 : f_yc 0 = 0) : Met l yX9_crowd wsX9_crowd ({ frames := 2, cells := 0, slots := 0, locals := 43 }) (va_Pc [.ref y, .int p0] (kPre D g [(y, .inr (9, fs_y)), (yc, .inl (g 1, 2, .inl f_yc))] sz)) (kQi D g (fun (r : Int32) (u : va_W) => (-1) = r) (va_A [(y, .inr (9, fs_y)), (yc, .inl (g 1, 2, .inl f_yc))] sz)) 0 0 (va_A [(y, .inr (9, fs_y)), (yc, .inl (g 1, 2, .inl f_yc))] sz) := by
  refine k_head (cc := cX9_crowd) (maxL := 7) (ret := (some .int)) (by decide) rfl (Nat.le_of_ble_eq_true rfl) ?_
  intro p e s m below meth c ls A hx hb hr hlocks hml hown hin hts hA hP hK hD hS hl
  have hown : s.vm.findClass RX9 = some m.cls := hown
  have hl : lv_has ls 7 [(0, .ref y), (1, .int p0)] := hl
  refine lv_aload_n hx hb dX9_crowd_0 rfl (lv_at hl 0 rfl) ?_
  refine lv_iload_n hx hb dX9_crowd_1 rfl (lv_at hl 1 rfl) ?_
  refine k_goi (wr := []) hP hD hS hA [0, 1] [] rfl rfl (by decide) (by decide) (va_runV (As := [.int p0]) (rest := []) ⟨hx, hb, hml, hown, hts⟩ (m_isCat l D g _ y p0 yc fs_y f_yc h_y_cats h_y_bank h_yc_at0) (cwV 1 hts gX9_crowd_X9_isCat rfl rfl rfl (by decide +kernel) ⟨Nat.le_of_ble_eq_true rfl, Nat.le_of_ble_eq_true rfl⟩) (k_preV hK (hP.sub [0, 1] rfl) (hD.sub [0, 1] (by decide) rfl) 9 0 rfl rfl) rfl rfl hl.1 rfl (lv_room (Nat.le_of_ble_eq_true rfl)) dX9_crowd_2 ⟨Nat.le_of_ble_eq_true rfl, Nat.le_of_ble_eq_true rfl⟩) (fun r_1 u_2 H locs hw hP hD hS => ?_)
  rcases hw with ⟨rfl, rfl⟩
  have hP := hP.sub (ws' := [(y, .inr (9, fs_y)), (yc, .inl (g 1, 2, .inl f_yc))]) [0, 1] rfl
  have hD := hD.sub (ws' := [(y, .inr (9, fs_y)), (yc, .inl (g 1, 2, .inl f_yc))]) [0, 1] (by decide) rfl
  refine lv_if_eq (tgt := 16) hx hb dX9_crowd_5 (by decide) (fun _ => ?_) (fun c9 => absurd (by first | decide | rfl) c9)
  refine lv_iconst (v := (-1)) hx hb dX9_crowd_16 (by decide) ?_
  exact k_iret hx hb hr hlocks hK hP hD hS rfl dX9_crowd_17
set_option maxHeartbeats 4000000 in
set_option maxRecDepth 100000 in
theorem m_fondest (l : Launch) (D : va_G) (g : Nat → ClassId) (sz : Nat) (y : Nat) (yc : Nat) (fs_y : List Value) (f_yc : Nat → Int32) (h_y_cats : fs_y[11]? = some (.ref yc)) (h_y_bank : fs_y[35]? = some (.int 0)) (h_yc_at0 : f_yc 0 = 0) : Met l yX9_fondest wsX9_fondest ({ frames := 1, cells := 0, slots := 0, locals := 20 }) (va_Pc [.ref y] (kPre D g [(y, .inr (9, fs_y)), (yc, .inl (g 1, 2, .inl f_yc))] sz)) (kQi D g (fun (r : Int32) (u : va_W) => (-1) = r) (va_A [(y, .inr (9, fs_y)), (yc, .inl (g 1, 2, .inl f_yc))] sz)) 0 0 (va_A [(y, .inr (9, fs_y)), (yc, .inl (g 1, 2, .inl f_yc))] sz) := by
  refine k_head (cc := cX9_fondest) (maxL := 7) (ret := (some .int)) (by decide) rfl (Nat.le_of_ble_eq_true rfl) ?_
  intro p e s m below meth c ls A hx hb hr hlocks hml hown hin hts hA hP hK hD hS hl
  have hown : s.vm.findClass RX9 = some m.cls := hown
  have hl : lv_has ls 7 [(0, .ref y)] := hl
  refine lv_iconst (v := (-1)) hx hb dX9_fondest_0 (by decide) ?_
  refine lv_istore_n (lv' := [(1, .int (-1)), (0, .ref y)]) hx hb dX9_fondest_1 rfl hl (by decide) rfl (fun ls hl => ?_)
  refine lv_iconst (v := 0) hx hb dX9_fondest_2 (by decide) ?_
  refine lv_istore_n (lv' := [(2, .int 0), (1, .int (-1)), (0, .ref y)]) hx hb dX9_fondest_3 rfl hl (by decide) rfl (fun ls hl => ?_)
  refine lv_iconst (v := 0) hx hb dX9_fondest_4 (by decide) ?_
  refine lv_istore_n (lv' := [(3, .int 0), (2, .int 0), (1, .int (-1)), (0, .ref y)]) hx hb dX9_fondest_5 rfl hl (by decide) rfl (fun ls hl => ?_)
  refine lv_iload_n hx hb dX9_fondest_6 rfl (lv_at hl 0 rfl) ?_
  refine lv_aload_n hx hb dX9_fondest_7 rfl (lv_at hl 3 rfl) ?_
  refine k_goi (wr := []) hP hD hS hA [0, 1] [] rfl rfl (by decide) (by decide) (va_runV (As := []) (rest := [.int 0]) ⟨hx, hb, hml, hown, hts⟩ (m_cattery l D g _ y yc fs_y f_yc h_y_cats h_y_bank h_yc_at0) (cwV 0 hts gX9_fondest_X9_cattery rfl rfl rfl (by decide +kernel) ⟨Nat.le_of_ble_eq_true rfl, Nat.le_of_ble_eq_true rfl⟩) (k_preV hK (hP.sub [0, 1] rfl) (hD.sub [0, 1] (by decide) rfl) 9 0 rfl rfl) rfl rfl hl.1 rfl (lv_room (Nat.le_of_ble_eq_true rfl)) dX9_fondest_8 ⟨Nat.le_of_ble_eq_true rfl, Nat.le_of_ble_eq_true rfl⟩) (fun r_1 u_2 H locs hw hP hD hS => ?_)
  rcases hw with ⟨rfl, rfl⟩
  have hP := hP.sub (ws' := [(y, .inr (9, fs_y)), (yc, .inl (g 1, 2, .inl f_yc))]) [0, 1] rfl
  have hD := hD.sub (ws' := [(y, .inr (9, fs_y)), (yc, .inl (g 1, 2, .inl f_yc))]) [0, 1] (by decide) rfl
  refine lv_icmp_ge (tgt := 103) hx hb dX9_fondest_11 (by decide) (fun _ => ?_) (fun c9 => absurd (by first | decide | rfl) c9)
  refine lv_iload_n hx hb dX9_fondest_103 rfl (lv_at hl 2 rfl) ?_
  exact k_iret hx hb hr hlocks hK hP hD hS rfl dX9_fondest_104
set_option maxHeartbeats 4000000 in
set_option maxRecDepth 100000 in
theorem m_nobodys (l : Launch) (D : va_G) (g : Nat → ClassId) (sz : Nat) (y : Nat) (yt : Nat) (fs_y : List Value) (f_yt : Nat → Int32) (h_y_tenants : fs_y[13]? = some (.ref yt)) (h_y_bank : fs_y[35]? = some (.int 0)) (h_yt_at0 : f_yt 0 = 0) : Met l yX9_nobodys wsX9_nobodys ({ frames := 1, cells := 0, slots := 0, locals := 20 }) (va_Pc [.ref y] (kPre D g [(y, .inr (9, fs_y)), (yt, .inl (g 1, 2, .inl f_yt))] sz)) (kQi D g (fun (r : Int32) (u : va_W) => 0 = r) (va_A [(y, .inr (9, fs_y)), (yt, .inl (g 1, 2, .inl f_yt))] sz)) 0 0 (va_A [(y, .inr (9, fs_y)), (yt, .inl (g 1, 2, .inl f_yt))] sz) := by
  refine k_head (cc := cX9_nobodys) (maxL := 5) (ret := (some .int)) (by decide) rfl (Nat.le_of_ble_eq_true rfl) ?_
  intro p e s m below meth c ls A hx hb hr hlocks hml hown hin hts hA hP hK hD hS hl
  have hown : s.vm.findClass RX9 = some m.cls := hown
  have hl : lv_has ls 5 [(0, .ref y)] := hl
  refine lv_iconst (v := 0) hx hb dX9_nobodys_0 (by decide) ?_
  refine lv_istore_n (lv' := [(1, .int 0), (0, .ref y)]) hx hb dX9_nobodys_1 rfl hl (by decide) rfl (fun ls hl => ?_)
  refine lv_iconst (v := 0) hx hb dX9_nobodys_2 (by decide) ?_
  refine lv_istore_n (lv' := [(2, .int 0), (1, .int 0), (0, .ref y)]) hx hb dX9_nobodys_3 rfl hl (by decide) rfl (fun ls hl => ?_)
  refine lv_iload_n hx hb dX9_nobodys_4 rfl (lv_at hl 0 rfl) ?_
  refine lv_aload_n hx hb dX9_nobodys_5 rfl (lv_at hl 2 rfl) ?_
  refine k_goi (wr := []) hP hD hS hA [0, 1] [] rfl rfl (by decide) (by decide) (va_runV (As := []) (rest := [.int 0]) ⟨hx, hb, hml, hown, hts⟩ (m_many l D g _ y yt fs_y f_yt h_y_tenants h_y_bank h_yt_at0) (cwV 0 hts gX9_nobodys_X9_many rfl rfl rfl (by decide +kernel) ⟨Nat.le_of_ble_eq_true rfl, Nat.le_of_ble_eq_true rfl⟩) (k_preV hK (hP.sub [0, 1] rfl) (hD.sub [0, 1] (by decide) rfl) 9 0 rfl rfl) rfl rfl hl.1 rfl (lv_room (Nat.le_of_ble_eq_true rfl)) dX9_nobodys_6 ⟨Nat.le_of_ble_eq_true rfl, Nat.le_of_ble_eq_true rfl⟩) (fun r_1 u_2 H locs hw hP hD hS => ?_)
  rcases hw with ⟨rfl, rfl⟩
  have hP := hP.sub (ws' := [(y, .inr (9, fs_y)), (yt, .inl (g 1, 2, .inl f_yt))]) [0, 1] rfl
  have hD := hD.sub (ws' := [(y, .inr (9, fs_y)), (yt, .inl (g 1, 2, .inl f_yt))]) [0, 1] (by decide) rfl
  refine lv_icmp_ge (tgt := 77) hx hb dX9_nobodys_9 (by decide) (fun _ => ?_) (fun c9 => absurd (by first | decide | rfl) c9)
  refine lv_iload_n hx hb dX9_nobodys_77 rfl (lv_at hl 1 rfl) ?_
  exact k_iret hx hb hr hlocks hK hP hD hS rfl dX9_nobodys_78
set_option maxHeartbeats 4000000 in
set_option maxRecDepth 100000 in
theorem m_purse (l : Launch) (D : va_G) (g : Nat → ClassId) (sz : Nat) (y : Nat) (p0 : Int32) (yc : Nat) (fs_y : List Value) (f_yc : Nat → Int32) (h_y_cats : fs_y[11]? = some (.ref yc)) (h_y_bank : fs_y[35]? = some (.int 0)) (h_yc_at0 : f_yc 0 = 0) : Met l yX9_purse wsX9_purse ({ frames := 2, cells := 0, slots := 0, locals := 43 }) (va_Pc [.ref y, .int p0] (kPre D g [(y, .inr (9, fs_y)), (yc, .inl (g 1, 2, .inl f_yc))] sz)) (kQi D g (fun (r : Int32) (u : va_W) => (-1000000) = r) (va_A [(y, .inr (9, fs_y)), (yc, .inl (g 1, 2, .inl f_yc))] sz)) 0 0 (va_A [(y, .inr (9, fs_y)), (yc, .inl (g 1, 2, .inl f_yc))] sz) := by
  refine k_head (cc := cX9_purse) (maxL := 5) (ret := (some .int)) (by decide) rfl (Nat.le_of_ble_eq_true rfl) ?_
  intro p e s m below meth c ls A hx hb hr hlocks hml hown hin hts hA hP hK hD hS hl
  have hown : s.vm.findClass RX9 = some m.cls := hown
  have hl : lv_has ls 5 [(0, .ref y), (1, .int p0)] := hl
  refine lv_aload_n hx hb dX9_purse_0 rfl (lv_at hl 0 rfl) ?_
  refine lv_iload_n hx hb dX9_purse_1 rfl (lv_at hl 1 rfl) ?_
  refine k_goi (wr := []) hP hD hS hA [0, 1] [] rfl rfl (by decide) (by decide) (va_runV (As := [.int p0]) (rest := []) ⟨hx, hb, hml, hown, hts⟩ (m_isCat l D g _ y p0 yc fs_y f_yc h_y_cats h_y_bank h_yc_at0) (cwV 1 hts gX9_purse_X9_isCat rfl rfl rfl (by decide +kernel) ⟨Nat.le_of_ble_eq_true rfl, Nat.le_of_ble_eq_true rfl⟩) (k_preV hK (hP.sub [0, 1] rfl) (hD.sub [0, 1] (by decide) rfl) 9 0 rfl rfl) rfl rfl hl.1 rfl (lv_room (Nat.le_of_ble_eq_true rfl)) dX9_purse_2 ⟨Nat.le_of_ble_eq_true rfl, Nat.le_of_ble_eq_true rfl⟩) (fun r_1 u_2 H locs hw hP hD hS => ?_)
  rcases hw with ⟨rfl, rfl⟩
  have hP := hP.sub (ws' := [(y, .inr (9, fs_y)), (yc, .inl (g 1, 2, .inl f_yc))]) [0, 1] rfl
  have hD := hD.sub (ws' := [(y, .inr (9, fs_y)), (yc, .inl (g 1, 2, .inl f_yc))]) [0, 1] (by decide) rfl
  refine lv_if_ne (tgt := 12) hx hb dX9_purse_5 (by decide) (fun c9 => absurd (by first | decide | rfl) c9) (fun _ => ?_)
  refine lv_ldcw (v := (-1000000)) hx hb hown (hts (.constant RX9 469 (-1000000)) (List.mem_of_getElem? (i := 1) rfl)) dX9_purse_8 ?_
  exact k_iret hx hb hr hlocks hK hP hD hS rfl dX9_purse_11
set_option maxHeartbeats 4000000 in
set_option maxRecDepth 100000 in
theorem m_seen (l : Launch) (D : va_G) (g : Nat → ClassId) (sz : Nat) (y : Nat) (p0 : Int32) (p1 : Int32) (p2 : Int32) (yt : Nat) (fs_y : List Value) (f_yt : Nat → Int32) (h_y_tenants : fs_y[13]? = some (.ref yt)) (h_y_bank : fs_y[35]? = some (.int 0)) (h_yt_at0 : f_yt 0 = 0) : Met l yX9_seen wsX9_seen ({ frames := 2, cells := 0, slots := 0, locals := 43 }) (va_Pc [.ref y, .int p0, .int p1, .int p2] (kPre D g [(y, .inr (9, fs_y)), (yt, .inl (g 1, 2, .inl f_yt))] sz)) (kQi D g (fun (r : Int32) (u : va_W) => (-1) = r) (va_A [(y, .inr (9, fs_y)), (yt, .inl (g 1, 2, .inl f_yt))] sz)) 0 0 (va_A [(y, .inr (9, fs_y)), (yt, .inl (g 1, 2, .inl f_yt))] sz) := by
  refine k_head (cc := cX9_seen) (maxL := 4) (ret := (some .int)) (by decide) rfl (Nat.le_of_ble_eq_true rfl) ?_
  intro p e s m below meth c ls A hx hb hr hlocks hml hown hin hts hA hP hK hD hS hl
  have hown : s.vm.findClass RX9 = some m.cls := hown
  have hl : lv_has ls 4 [(0, .ref y), (1, .int p0), (2, .int p1), (3, .int p2)] := hl
  refine lv_iload_n hx hb dX9_seen_0 rfl (lv_at hl 1 rfl) ?_
  refine lv_iconst (v := 0) hx hb dX9_seen_1 (by decide) ?_
  refine lv_bipush (v := 9) hx hb dX9_seen_2 (by decide) ?_
  refine k_goi (wr := [(y, .inr (9, fs_y)), (yt, .inl (g 1, 2, .inl f_yt))]) hP hD hS hA [] [0, 1] rfl rfl (by decide) (by decide) (va_runS (As := [.int p0, .int 0, .int 9]) (rest := []) ⟨hx, hb, hml, hown, hts⟩ (m_isIn l D g _ p0 0 9) (va_cwS 3 hts gX9_seen_X9_isIn rfl rfl rfl (by decide +kernel) ⟨Nat.le_of_ble_eq_true rfl, Nat.le_of_ble_eq_true rfl⟩) (k_preS hK (hP.sub [] rfl) (hD.sub [] (by decide) rfl)) rfl rfl hl.1 rfl (lv_room (Nat.le_of_ble_eq_true rfl)) dX9_seen_4 ⟨Nat.le_of_ble_eq_true rfl, Nat.le_of_ble_eq_true rfl⟩) (fun r_1 u_2 H locs hw hP hD hS => ?_)
  rcases hw with ⟨c_3, rfl, rfl⟩ | ⟨c_4, c_5, rfl, rfl⟩ | ⟨c_6, c_7, rfl, rfl⟩
  · have hP := hP.sub (ws' := [(y, .inr (9, fs_y)), (yt, .inl (g 1, 2, .inl f_yt))]) [0, 1] rfl
    have hD := hD.sub (ws' := [(y, .inr (9, fs_y)), (yt, .inl (g 1, 2, .inl f_yt))]) [0, 1] (by decide) rfl
    refine lv_if_eq (tgt := 34) hx hb dX9_seen_7 (by decide) (fun _ => ?_) (fun c9 => absurd (by first | decide | rfl) c9)
    refine lv_iconst (v := (-1)) hx hb dX9_seen_34 (by decide) ?_
    exact k_iret hx hb hr hlocks hK hP hD hS rfl dX9_seen_35
  · have hP := hP.sub (ws' := [(y, .inr (9, fs_y)), (yt, .inl (g 1, 2, .inl f_yt))]) [0, 1] rfl
    have hD := hD.sub (ws' := [(y, .inr (9, fs_y)), (yt, .inl (g 1, 2, .inl f_yt))]) [0, 1] (by decide) rfl
    refine lv_if_eq (tgt := 34) hx hb dX9_seen_7 (by decide) (fun _ => ?_) (fun c9 => absurd (by first | decide | rfl) c9)
    refine lv_iconst (v := (-1)) hx hb dX9_seen_34 (by decide) ?_
    exact k_iret hx hb hr hlocks hK hP hD hS rfl dX9_seen_35
  · have hP := hP.sub (ws' := [(y, .inr (9, fs_y)), (yt, .inl (g 1, 2, .inl f_yt))]) [0, 1] rfl
    have hD := hD.sub (ws' := [(y, .inr (9, fs_y)), (yt, .inl (g 1, 2, .inl f_yt))]) [0, 1] (by decide) rfl
    refine lv_if_eq (tgt := 34) hx hb dX9_seen_7 (by decide) (fun c9 => absurd c9 (by first | decide | simp)) (fun _ => ?_)
    refine lv_aload_n hx hb dX9_seen_10 rfl (lv_at hl 0 rfl) ?_
    refine lv_iload_n hx hb dX9_seen_11 rfl (lv_at hl 2 rfl) ?_
    refine k_goi (wr := []) hP hD hS hA [0, 1] [] rfl rfl (by decide) (by decide) (va_runV (As := [.int p1]) (rest := []) ⟨hx, hb, hml, hown, hts⟩ (m_isTenant l D g _ y p1 yt fs_y f_yt h_y_tenants h_y_bank h_yt_at0) (cwV 1 hts gX9_seen_X9_isTenant rfl rfl rfl (by decide +kernel) ⟨Nat.le_of_ble_eq_true rfl, Nat.le_of_ble_eq_true rfl⟩) (k_preV hK (hP.sub [0, 1] rfl) (hD.sub [0, 1] (by decide) rfl) 9 0 rfl rfl) rfl rfl hl.1 rfl (lv_room (Nat.le_of_ble_eq_true rfl)) dX9_seen_12 ⟨Nat.le_of_ble_eq_true rfl, Nat.le_of_ble_eq_true rfl⟩) (fun r_8 u_9 H locs hw hP hD hS => ?_)
    rcases hw with ⟨rfl, rfl⟩
    have hP := hP.sub (ws' := [(y, .inr (9, fs_y)), (yt, .inl (g 1, 2, .inl f_yt))]) [0, 1] rfl
    have hD := hD.sub (ws' := [(y, .inr (9, fs_y)), (yt, .inl (g 1, 2, .inl f_yt))]) [0, 1] (by decide) rfl
    refine lv_if_eq (tgt := 34) hx hb dX9_seen_15 (by decide) (fun _ => ?_) (fun c9 => absurd (by first | decide | rfl) c9)
    refine lv_iconst (v := (-1)) hx hb dX9_seen_34 (by decide) ?_
    exact k_iret hx hb hr hlocks hK hP hD hS rfl dX9_seen_35
set_option maxHeartbeats 4000000 in
set_option maxRecDepth 100000 in
theorem m_untell (l : Launch) (D : va_G) (g : Nat → ClassId) (sz : Nat) (y : Nat) (p0 : Int32) (fs_y : List Value) (h_y_seens : fs_y[63]? = some (.int 0)) : Met l yX9_untell wsX9_untell ({ frames := 1, cells := 0, slots := 0, locals := 22 }) (va_Pc [.ref y, .int p0] (kPre D g [(y, .inr (9, fs_y))] sz)) (kQi D g (fun (r : Int32) (u : va_W) => 0 = r) (va_A [(y, .inr (9, fs_y))] sz)) 0 0 (va_A [(y, .inr (9, fs_y))] sz) := by
  refine k_head (cc := cX9_untell) (maxL := 2) (ret := (some .boolean)) (by decide) rfl (Nat.le_of_ble_eq_true rfl) ?_
  intro p e s m below meth c ls A hx hb hr hlocks hml hown hin hts hA hP hK hD hS hl
  have hown : s.vm.findClass RX9 = some m.cls := hown
  have hl : lv_has ls 2 [(0, .ref y), (1, .int p0)] := hl
  refine lv_iload_n hx hb dX9_untell_0 rfl (lv_at hl 1 rfl) ?_
  refine lv_iconst (v := 0) hx hb dX9_untell_1 (by decide) ?_
  refine lv_aload_n hx hb dX9_untell_2 rfl (lv_at hl 0 rfl) ?_
  refine va_get (D := D) (ci := 9) (v := .int 0) (C := RX9) (T := TX9) (N := 67) hx hb hts iX9_untell_X9 hown hK hP 0 rfl rfl 63 (by decide) (hts (.fieldLink RX9 404 "CatLeasesModel" "seens" "I") (List.mem_of_getElem? (i := 1) rfl)) (fun _ h9 => h9) h_y_seens dX9_untell_3 ?_
  refine lv_iconst (v := 1) hx hb dX9_untell_6 (by decide) ?_
  refine lv_isub hx hb dX9_untell_7 ?_
  refine k_top (v := (-1)) (by decide) ?_
  refine k_goi (wr := [(y, .inr (9, fs_y))]) hP hD hS hA [] [0] rfl rfl (by decide) (by decide) (va_runS (As := [.int p0, .int 0, .int (-1)]) (rest := []) ⟨hx, hb, hml, hown, hts⟩ (m_isIn l D g _ p0 0 (-1)) (va_cwS 3 hts gX9_untell_X9_isIn rfl rfl rfl (by decide +kernel) ⟨Nat.le_of_ble_eq_true rfl, Nat.le_of_ble_eq_true rfl⟩) (k_preS hK (hP.sub [] rfl) (hD.sub [] (by decide) rfl)) rfl rfl hl.1 rfl (lv_room (Nat.le_of_ble_eq_true rfl)) dX9_untell_8 ⟨Nat.le_of_ble_eq_true rfl, Nat.le_of_ble_eq_true rfl⟩) (fun r_1 u_2 H locs hw hP hD hS => ?_)
  rcases hw with ⟨c_3, rfl, rfl⟩ | ⟨c_4, c_5, rfl, rfl⟩ | ⟨c_6, c_7, rfl, rfl⟩
  · have hP := hP.sub (ws' := [(y, .inr (9, fs_y))]) [0] rfl
    have hD := hD.sub (ws' := [(y, .inr (9, fs_y))]) [0] (by decide) rfl
    refine lv_if_eq (tgt := 23) hx hb dX9_untell_11 (by decide) (fun _ => ?_) (fun c9 => absurd (by first | decide | rfl) c9)
    refine lv_iconst (v := 0) hx hb dX9_untell_23 (by decide) ?_
    exact k_zret hx hb hr hlocks rfl hK hP hD hS rfl dX9_untell_24
  · have hP := hP.sub (ws' := [(y, .inr (9, fs_y))]) [0] rfl
    have hD := hD.sub (ws' := [(y, .inr (9, fs_y))]) [0] (by decide) rfl
    refine lv_if_eq (tgt := 23) hx hb dX9_untell_11 (by decide) (fun _ => ?_) (fun c9 => absurd (by first | decide | rfl) c9)
    refine lv_iconst (v := 0) hx hb dX9_untell_23 (by decide) ?_
    exact k_zret hx hb hr hlocks rfl hK hP hD hS rfl dX9_untell_24
  · exfalso; have km1 : ((-1) : Int32).toInt = -1 := (by decide); have k0 : (0 : Int32).toInt = 0 := (by decide); simp only [Int32.lt_iff_toInt_lt, Int32.le_iff_toInt_le, ← Int32.toInt_inj] at c_6 c_7; omega
set_option maxHeartbeats 4000000 in
set_option maxRecDepth 100000 in
theorem m_later (l : Launch) (D : va_G) (g : Nat → ClassId) (sz : Nat) (y : Nat) (p0 : Int32) (fs_y : List Value) (h_y_time : fs_y[64]? = some (.int 0)) : Met l yX9_later wsX9_later ({ frames := 1, cells := 0, slots := 0, locals := 22 }) (va_Pc [.ref y, .int p0] (kPre D g [(y, .inr (9, fs_y))] sz)) (kQi D g (fun (r : Int32) (u : va_W) => ((p0 < 0) ∧ (-1) = r) ∨ ((¬ p0 < 0) ∧ (1000 < p0) ∧ (-1) = r) ∨ ((¬ p0 < 0) ∧ (¬ 1000 < p0) ∧ ((0 + p0) ≤ 100000) ∧ (0 + p0) = r) ∨ ((¬ p0 < 0) ∧ (¬ 1000 < p0) ∧ (¬ (0 + p0) ≤ 100000) ∧ (-1) = r)) (va_A [(y, .inr (9, fs_y))] sz)) 0 0 (va_A [(y, .inr (9, fs_y))] sz) := by
  refine k_head (cc := cX9_later) (maxL := 2) (ret := (some .int)) (by decide) rfl (Nat.le_of_ble_eq_true rfl) ?_
  intro p e s m below meth c ls A hx hb hr hlocks hml hown hin hts hA hP hK hD hS hl
  have hown : s.vm.findClass RX9 = some m.cls := hown
  have hl : lv_has ls 2 [(0, .ref y), (1, .int p0)] := hl
  refine lv_iload_n hx hb dX9_later_0 rfl (lv_at hl 1 rfl) ?_
  refine lv_iconst (v := 0) hx hb dX9_later_1 (by decide) ?_
  refine lv_sipush (v := 1000) hx hb dX9_later_2 (by decide) ?_
  refine k_goi (wr := [(y, .inr (9, fs_y))]) hP hD hS hA [] [0] rfl rfl (by decide) (by decide) (va_runS (As := [.int p0, .int 0, .int 1000]) (rest := []) ⟨hx, hb, hml, hown, hts⟩ (m_isIn l D g _ p0 0 1000) (va_cwS 3 hts gX9_later_X9_isIn rfl rfl rfl (by decide +kernel) ⟨Nat.le_of_ble_eq_true rfl, Nat.le_of_ble_eq_true rfl⟩) (k_preS hK (hP.sub [] rfl) (hD.sub [] (by decide) rfl)) rfl rfl hl.1 rfl (lv_room (Nat.le_of_ble_eq_true rfl)) dX9_later_5 ⟨Nat.le_of_ble_eq_true rfl, Nat.le_of_ble_eq_true rfl⟩) (fun r_1 u_2 H locs hw hP hD hS => ?_)
  rcases hw with ⟨c_3, rfl, rfl⟩ | ⟨c_4, c_5, rfl, rfl⟩ | ⟨c_6, c_7, rfl, rfl⟩
  · have hP := hP.sub (ws' := [(y, .inr (9, fs_y))]) [0] rfl
    have hD := hD.sub (ws' := [(y, .inr (9, fs_y))]) [0] (by decide) rfl
    refine lv_if_eq (tgt := 23) hx hb dX9_later_8 (by decide) (fun _ => ?_) (fun c9 => absurd (by first | decide | rfl) c9)
    refine lv_iconst (v := (-1)) hx hb dX9_later_23 (by decide) ?_
    exact k_iret hx hb hr hlocks hK hP hD hS (Or.inl ⟨c_3, rfl⟩) dX9_later_24
  · have hP := hP.sub (ws' := [(y, .inr (9, fs_y))]) [0] rfl
    have hD := hD.sub (ws' := [(y, .inr (9, fs_y))]) [0] (by decide) rfl
    refine lv_if_eq (tgt := 23) hx hb dX9_later_8 (by decide) (fun _ => ?_) (fun c9 => absurd (by first | decide | rfl) c9)
    refine lv_iconst (v := (-1)) hx hb dX9_later_23 (by decide) ?_
    exact k_iret hx hb hr hlocks hK hP hD hS (Or.inr (Or.inl ⟨c_4, c_5, rfl⟩)) dX9_later_24
  · have hP := hP.sub (ws' := [(y, .inr (9, fs_y))]) [0] rfl
    have hD := hD.sub (ws' := [(y, .inr (9, fs_y))]) [0] (by decide) rfl
    refine lv_if_eq (tgt := 23) hx hb dX9_later_8 (by decide) (fun c9 => absurd c9 (by first | decide | simp)) (fun _ => ?_)
    refine lv_aload_n hx hb dX9_later_11 rfl (lv_at hl 0 rfl) ?_
    refine va_get (D := D) (ci := 9) (v := .int 0) (C := RX9) (T := TX9) (N := 67) hx hb hts iX9_later_X9 hown hK hP 0 rfl rfl 64 (by decide) (hts (.fieldLink RX9 532 "CatLeasesModel" "time" "I") (List.mem_of_getElem? (i := 1) rfl)) (fun _ h9 => h9) h_y_time dX9_later_12 ?_
    refine lv_iload_n hx hb dX9_later_15 rfl (lv_at hl 1 rfl) ?_
    refine lv_iadd hx hb dX9_later_16 ?_
    refine lv_ldcw (v := 100000) hx hb hown (hts (.constant RX9 512 (100000)) (List.mem_of_getElem? (i := 2) rfl)) dX9_later_17 ?_
    refine lv_icmp_le (tgt := 25) hx hb dX9_later_20 (by decide) (fun c_8 => ?_) (fun c_8 => ?_)
    · refine lv_aload_n hx hb dX9_later_25 rfl (lv_at hl 0 rfl) ?_
      refine lv_dup hx hb dX9_later_26 rfl ?_
      refine va_get (D := D) (ci := 9) (v := .int 0) (C := RX9) (T := TX9) (N := 67) hx hb hts iX9_later_X9 hown hK hP 0 rfl rfl 64 (by decide) (hts (.fieldLink RX9 532 "CatLeasesModel" "time" "I") (List.mem_of_getElem? (i := 1) rfl)) (fun _ h9 => h9) h_y_time dX9_later_27 ?_
      refine lv_iload_n hx hb dX9_later_30 rfl (lv_at hl 1 rfl) ?_
      refine lv_iadd hx hb dX9_later_31 ?_
      refine va_put (D := D) (ci := 9) (v := .int (0 + p0)) (ty := .int) (C := RX9) (T := TX9) (N := 67) hx hb hts iX9_later_X9 tyX9 tyX9_ok nmX9 hown hK hP hD hS 0 rfl rfl 64 (by decide) (hts (.fieldLink RX9 532 "CatLeasesModel" "time" "I") (List.mem_of_getElem? (i := 1) rfl)) (fun _ h9 => h9) rfl (by decide +kernel) rfl rfl ((k_len h_y_time)) dX9_later_32 (fun H locs hP hD hS => ?_)
      have hP : va_P D vwCl [(y, .inr (9, (fs_y.set 64 (.int (0 + p0)))))] H := hP
      have hD : va_D A [(y, .inr (9, (fs_y.set 64 (.int (0 + p0)))))] := hD
      refine lv_aload_n hx hb dX9_later_35 rfl (lv_at hl 0 rfl) ?_
      refine va_get (D := D) (ci := 9) (v := .int (0 + p0)) (C := RX9) (T := TX9) (N := 67) hx hb hts iX9_later_X9 hown hK hP 0 rfl rfl 64 (by decide) (hts (.fieldLink RX9 532 "CatLeasesModel" "time" "I") (List.mem_of_getElem? (i := 1) rfl)) (fun _ h9 => h9) (k_ss h_y_time) dX9_later_36 ?_
      exact k_iret hx hb hr hlocks hK hP hD hS (Or.inr (Or.inr (Or.inl ⟨c_6, c_7, c_8, rfl⟩))) dX9_later_39
    · refine lv_iconst (v := (-1)) hx hb dX9_later_23 (by decide) ?_
      exact k_iret hx hb hr hlocks hK hP hD hS (Or.inr (Or.inr (Or.inr ⟨c_6, c_7, c_8, rfl⟩))) dX9_later_24
set_option maxHeartbeats 4000000 in
set_option maxRecDepth 100000 in
theorem m_end (l : Launch) (D : va_G) (g : Nat → ClassId) (sz : Nat) (y : Nat) (p0 : Int32) (fs_y : List Value) (h_y_taped : fs_y[2]? = some (.int 0)) : Met l yX9_end wsX9_end ({ frames := 0, cells := 0, slots := 0, locals := 0 }) (va_Pc [.ref y, .int p0] (kPre D g [(y, .inr (9, fs_y))] sz)) (kQi D g (fun (r : Int32) (u : va_W) => ((p0 < 0) ∧ (-1) = r) ∨ ((¬ p0 < 0) ∧ (p0 ≤ 0) ∧ p0 = r) ∨ ((¬ p0 < 0) ∧ (¬ p0 ≤ 0) ∧ (-1) = r)) (va_A [(y, .inr (9, fs_y))] sz)) 0 0 (va_A [(y, .inr (9, fs_y))] sz) := by
  refine k_head (cc := cX9_end) (maxL := 2) (ret := (some .int)) (by decide) rfl (Nat.le_of_ble_eq_true rfl) ?_
  intro p e s m below meth c ls A hx hb hr hlocks hml hown hin hts hA hP hK hD hS hl
  have hown : s.vm.findClass RX9 = some m.cls := hown
  have hl : lv_has ls 2 [(0, .ref y), (1, .int p0)] := hl
  refine lv_iload_n hx hb dX9_end_0 rfl (lv_at hl 1 rfl) ?_
  refine lv_if_lt (tgt := 12) hx hb dX9_end_1 (by decide) (fun c_1 => ?_) (fun c_1 => ?_)
  · refine lv_iconst (v := (-1)) hx hb dX9_end_12 (by decide) ?_
    exact k_iret hx hb hr hlocks hK hP hD hS (Or.inl ⟨c_1, rfl⟩) dX9_end_13
  · refine lv_iload_n hx hb dX9_end_4 rfl (lv_at hl 1 rfl) ?_
    refine lv_aload_n hx hb dX9_end_5 rfl (lv_at hl 0 rfl) ?_
    refine va_get (D := D) (ci := 9) (v := .int 0) (C := RX9) (T := TX9) (N := 67) hx hb hts iX9_end_X9 hown hK hP 0 rfl rfl 2 (by decide) (hts (.fieldLink RX9 265 "CatLeasesModel" "taped" "I") (List.mem_of_getElem? (i := 1) rfl)) (fun _ h9 => h9) h_y_taped dX9_end_6 ?_
    refine lv_icmp_le (tgt := 14) hx hb dX9_end_9 (by decide) (fun c_2 => ?_) (fun c_2 => ?_)
    · refine lv_aload_n hx hb dX9_end_14 rfl (lv_at hl 0 rfl) ?_
      refine lv_iload_n hx hb dX9_end_15 rfl (lv_at hl 1 rfl) ?_
      refine va_put (D := D) (ci := 9) (v := .int p0) (ty := .int) (C := RX9) (T := TX9) (N := 67) hx hb hts iX9_end_X9 tyX9 tyX9_ok nmX9 hown hK hP hD hS 0 rfl rfl 2 (by decide) (hts (.fieldLink RX9 265 "CatLeasesModel" "taped" "I") (List.mem_of_getElem? (i := 1) rfl)) (fun _ h9 => h9) rfl (by decide +kernel) rfl rfl ((k_len h_y_taped)) dX9_end_16 (fun H locs hP hD hS => ?_)
      have hP : va_P D vwCl [(y, .inr (9, (fs_y.set 2 (.int p0))))] H := hP
      have hD : va_D A [(y, .inr (9, (fs_y.set 2 (.int p0))))] := hD
      refine lv_iload_n hx hb dX9_end_19 rfl (lv_at hl 1 rfl) ?_
      exact k_iret hx hb hr hlocks hK hP hD hS (Or.inr (Or.inl ⟨c_1, c_2, rfl⟩)) dX9_end_20
    · refine lv_iconst (v := (-1)) hx hb dX9_end_12 (by decide) ?_
      exact k_iret hx hb hr hlocks hK hP hD hS (Or.inr (Or.inr ⟨c_1, c_2, rfl⟩)) dX9_end_13
set_option maxHeartbeats 4000000 in
set_option maxRecDepth 100000 in
theorem m_fault (l : Launch) (D : va_G) (g : Nat → ClassId) (sz : Nat) (y : Nat) (p0 : Int32) (fs_y : List Value) (h_y_faultKind : fs_y[4]? = some (.int 0)) (h_y_faultPlace : fs_y[5]? = some (.int (-1))) : Met l yX9_fault wsX9_fault ({ frames := 0, cells := 0, slots := 0, locals := 0 }) (va_Pc [.ref y, .int p0] (kPre D g [(y, .inr (9, fs_y))] sz)) (kQi D g (fun (r : Int32) (u : va_W) => ((¬ p0 = 0) ∧ (¬ p0 = 1) ∧ (-1) = r) ∨ ((¬ p0 = 0) ∧ (p0 = 1) ∧ (-1) = r) ∨ ((p0 = 0) ∧ 0 = r)) (va_A [(y, .inr (9, fs_y))] sz)) 0 0 (va_A [(y, .inr (9, fs_y))] sz) := by
  refine k_head (cc := cX9_fault) (maxL := 2) (ret := (some .int)) (by decide) rfl (Nat.le_of_ble_eq_true rfl) ?_
  intro p e s m below meth c ls A hx hb hr hlocks hml hown hin hts hA hP hK hD hS hl
  have hown : s.vm.findClass RX9 = some m.cls := hown
  have hl : lv_has ls 2 [(0, .ref y), (1, .int p0)] := hl
  refine lv_iload_n hx hb dX9_fault_0 rfl (lv_at hl 1 rfl) ?_
  refine lv_if_ne (tgt := 11) hx hb dX9_fault_1 (by decide) (fun c_1 => ?_) (fun c_1 => ?_)
  · refine lv_iload_n hx hb dX9_fault_11 rfl (lv_at hl 1 rfl) ?_
    refine lv_iconst (v := 1) hx hb dX9_fault_12 (by decide) ?_
    refine lv_icmp_ne (tgt := 23) hx hb dX9_fault_13 (by decide) (fun c_2 => ?_) (fun c_2 => ?_)
    · refine lv_iconst (v := (-1)) hx hb dX9_fault_23 (by decide) ?_
      exact k_iret hx hb hr hlocks hK hP hD hS (Or.inl ⟨c_1, c_2, rfl⟩) dX9_fault_24
    · refine lv_aload_n hx hb dX9_fault_16 rfl (lv_at hl 0 rfl) ?_
      refine va_get (D := D) (ci := 9) (v := .int (-1)) (C := RX9) (T := TX9) (N := 67) hx hb hts iX9_fault_X9 hown hK hP 0 rfl rfl 5 (by decide) (hts (.fieldLink RX9 16 "CatLeasesModel" "faultPlace" "I") (List.mem_of_getElem? (i := 2) rfl)) (fun _ h9 => h9) h_y_faultPlace dX9_fault_17 ?_
      refine lv_goto (tgt := 24) hx hb dX9_fault_20 (by decide) ?_
      exact k_iret hx hb hr hlocks hK hP hD hS (Or.inr (Or.inl ⟨c_1, c_2, rfl⟩)) dX9_fault_24
  · refine lv_aload_n hx hb dX9_fault_4 rfl (lv_at hl 0 rfl) ?_
    refine va_get (D := D) (ci := 9) (v := .int 0) (C := RX9) (T := TX9) (N := 67) hx hb hts iX9_fault_X9 hown hK hP 0 rfl rfl 4 (by decide) (hts (.fieldLink RX9 155 "CatLeasesModel" "faultKind" "I") (List.mem_of_getElem? (i := 1) rfl)) (fun _ h9 => h9) h_y_faultKind dX9_fault_5 ?_
    refine lv_goto (tgt := 24) hx hb dX9_fault_8 (by decide) ?_
    exact k_iret hx hb hr hlocks hK hP hD hS (Or.inr (Or.inr ⟨c_1, rfl⟩)) dX9_fault_24
set_option maxHeartbeats 4000000 in
set_option maxRecDepth 100000 in
theorem m_fits (l : Launch) (D : va_G) (g : Nat → ClassId) (sz : Nat) (y : Nat) (p0 : Int32) (yc : Nat) (fs_y : List Value) (f_yc : Nat → Int32) (h_y_cats : fs_y[11]? = some (.ref yc)) (h_y_bank : fs_y[35]? = some (.int 0)) (h_yc_at0 : f_yc 0 = 0) : Met l yX9_fits wsX9_fits ({ frames := 1, cells := 0, slots := 0, locals := 20 }) (va_Pc [.ref y, .int p0] (kPre D g [(y, .inr (9, fs_y)), (yc, .inl (g 1, 2, .inl f_yc))] sz)) (kQi D g (fun (r : Int32) (u : va_W) => 0 = r ∧ u = [(y, .inr (9, fs_y)), (yc, .inl (g 1, 2, .inl f_yc))]) (va_A [(y, .inr (9, fs_y)), (yc, .inl (g 1, 2, .inl f_yc))] sz)) 0 0 (va_A [(y, .inr (9, fs_y)), (yc, .inl (g 1, 2, .inl f_yc))] sz) := by
  refine k_head (cc := cX9_fits) (maxL := 4) (ret := (some .int)) (by decide) rfl (Nat.le_of_ble_eq_true rfl) ?_
  intro p e s m below meth c ls A hx hb hr hlocks hml hown hin hts hA hP hK hD hS hl
  have hown : s.vm.findClass RX9 = some m.cls := hown
  have hl : lv_has ls 4 [(0, .ref y), (1, .int p0)] := hl
  refine lv_aload_n hx hb dX9_fits_0 rfl (lv_at hl 0 rfl) ?_
  refine k_goi (wr := []) hP hD hS hA [0, 1] [] rfl rfl (by decide) (by decide) (va_runV (As := []) (rest := []) ⟨hx, hb, hml, hown, hts⟩ (m_cattery l D g _ y yc fs_y f_yc h_y_cats h_y_bank h_yc_at0) (cwV 0 hts gX9_fits_X9_cattery rfl rfl rfl (by decide +kernel) ⟨Nat.le_of_ble_eq_true rfl, Nat.le_of_ble_eq_true rfl⟩) (k_preV hK (hP.sub [0, 1] rfl) (hD.sub [0, 1] (by decide) rfl) 9 0 rfl rfl) rfl rfl hl.1 rfl (lv_room (Nat.le_of_ble_eq_true rfl)) dX9_fits_1 ⟨Nat.le_of_ble_eq_true rfl, Nat.le_of_ble_eq_true rfl⟩) (fun r_1 u_2 H locs hw hP hD hS => ?_)
  rcases hw with ⟨rfl, rfl⟩
  have hP := hP.sub (ws' := [(y, .inr (9, fs_y)), (yc, .inl (g 1, 2, .inl f_yc))]) [0, 1] rfl
  have hD := hD.sub (ws' := [(y, .inr (9, fs_y)), (yc, .inl (g 1, 2, .inl f_yc))]) [0, 1] (by decide) rfl
  refine lv_if_ne (tgt := 9) hx hb dX9_fits_4 (by decide) (fun c9 => absurd (by first | decide | rfl) c9) (fun _ => ?_)
  refine lv_iconst (v := 0) hx hb dX9_fits_7 (by decide) ?_
  exact k_iret hx hb hr hlocks hK hP hD hS ⟨rfl, rfl⟩ dX9_fits_8
set_option maxHeartbeats 4000000 in
set_option maxRecDepth 100000 in
theorem m_sure (l : Launch) (D : va_G) (g : Nat → ClassId) (sz : Nat) (y : Nat) (p0 : Int32) (p1 : Int32) (yc : Nat) (fs_y : List Value) (f_yc : Nat → Int32) (h_y_cats : fs_y[11]? = some (.ref yc)) (h_y_bank : fs_y[35]? = some (.int 0)) (h_yc_at0 : f_yc 0 = 0) : Met l yX9_sure wsX9_sure ({ frames := 2, cells := 0, slots := 0, locals := 43 }) (va_Pc [.ref y, .int p0, .int p1] (kPre D g [(y, .inr (9, fs_y)), (yc, .inl (g 1, 2, .inl f_yc))] sz)) (kQi D g (fun (r : Int32) (u : va_W) => (-1) = r) (va_A [(y, .inr (9, fs_y)), (yc, .inl (g 1, 2, .inl f_yc))] sz)) 0 0 (va_A [(y, .inr (9, fs_y)), (yc, .inl (g 1, 2, .inl f_yc))] sz) := by
  refine k_head (cc := cX9_sure) (maxL := 4) (ret := (some .int)) (by decide) rfl (Nat.le_of_ble_eq_true rfl) ?_
  intro p e s m below meth c ls A hx hb hr hlocks hml hown hin hts hA hP hK hD hS hl
  have hown : s.vm.findClass RX9 = some m.cls := hown
  have hl : lv_has ls 4 [(0, .ref y), (1, .int p0), (2, .int p1)] := hl
  refine lv_iload_n hx hb dX9_sure_0 rfl (lv_at hl 1 rfl) ?_
  refine lv_iconst (v := 0) hx hb dX9_sure_1 (by decide) ?_
  refine lv_iconst (v := 1) hx hb dX9_sure_2 (by decide) ?_
  refine k_goi (wr := [(y, .inr (9, fs_y)), (yc, .inl (g 1, 2, .inl f_yc))]) hP hD hS hA [] [0, 1] rfl rfl (by decide) (by decide) (va_runS (As := [.int p0, .int 0, .int 1]) (rest := []) ⟨hx, hb, hml, hown, hts⟩ (m_isIn l D g _ p0 0 1) (va_cwS 3 hts gX9_sure_X9_isIn rfl rfl rfl (by decide +kernel) ⟨Nat.le_of_ble_eq_true rfl, Nat.le_of_ble_eq_true rfl⟩) (k_preS hK (hP.sub [] rfl) (hD.sub [] (by decide) rfl)) rfl rfl hl.1 rfl (lv_room (Nat.le_of_ble_eq_true rfl)) dX9_sure_3 ⟨Nat.le_of_ble_eq_true rfl, Nat.le_of_ble_eq_true rfl⟩) (fun r_1 u_2 H locs hw hP hD hS => ?_)
  rcases hw with ⟨c_3, rfl, rfl⟩ | ⟨c_4, c_5, rfl, rfl⟩ | ⟨c_6, c_7, rfl, rfl⟩
  · have hP := hP.sub (ws' := [(y, .inr (9, fs_y)), (yc, .inl (g 1, 2, .inl f_yc))]) [0, 1] rfl
    have hD := hD.sub (ws' := [(y, .inr (9, fs_y)), (yc, .inl (g 1, 2, .inl f_yc))]) [0, 1] (by decide) rfl
    refine lv_if_eq (tgt := 17) hx hb dX9_sure_6 (by decide) (fun _ => ?_) (fun c9 => absurd (by first | decide | rfl) c9)
    refine lv_iconst (v := (-1)) hx hb dX9_sure_17 (by decide) ?_
    exact k_iret hx hb hr hlocks hK hP hD hS rfl dX9_sure_18
  · have hP := hP.sub (ws' := [(y, .inr (9, fs_y)), (yc, .inl (g 1, 2, .inl f_yc))]) [0, 1] rfl
    have hD := hD.sub (ws' := [(y, .inr (9, fs_y)), (yc, .inl (g 1, 2, .inl f_yc))]) [0, 1] (by decide) rfl
    refine lv_if_eq (tgt := 17) hx hb dX9_sure_6 (by decide) (fun _ => ?_) (fun c9 => absurd (by first | decide | rfl) c9)
    refine lv_iconst (v := (-1)) hx hb dX9_sure_17 (by decide) ?_
    exact k_iret hx hb hr hlocks hK hP hD hS rfl dX9_sure_18
  · have hP := hP.sub (ws' := [(y, .inr (9, fs_y)), (yc, .inl (g 1, 2, .inl f_yc))]) [0, 1] rfl
    have hD := hD.sub (ws' := [(y, .inr (9, fs_y)), (yc, .inl (g 1, 2, .inl f_yc))]) [0, 1] (by decide) rfl
    refine lv_if_eq (tgt := 17) hx hb dX9_sure_6 (by decide) (fun c9 => absurd c9 (by first | decide | simp)) (fun _ => ?_)
    refine lv_aload_n hx hb dX9_sure_9 rfl (lv_at hl 0 rfl) ?_
    refine lv_iload_n hx hb dX9_sure_10 rfl (lv_at hl 2 rfl) ?_
    refine k_goi (wr := []) hP hD hS hA [0, 1] [] rfl rfl (by decide) (by decide) (va_runV (As := [.int p1]) (rest := []) ⟨hx, hb, hml, hown, hts⟩ (m_fits l D g _ y p1 yc fs_y f_yc h_y_cats h_y_bank h_yc_at0) (cwV 1 hts gX9_sure_X9_fits rfl rfl rfl (by decide +kernel) ⟨Nat.le_of_ble_eq_true rfl, Nat.le_of_ble_eq_true rfl⟩) (k_preV hK (hP.sub [0, 1] rfl) (hD.sub [0, 1] (by decide) rfl) 9 0 rfl rfl) rfl rfl hl.1 rfl (lv_room (Nat.le_of_ble_eq_true rfl)) dX9_sure_11 ⟨Nat.le_of_ble_eq_true rfl, Nat.le_of_ble_eq_true rfl⟩) (fun r_8 u_9 H locs hw hP hD hS => ?_)
    rcases hw with ⟨rfl, rfl⟩
    have hP := hP.sub (ws' := [(y, .inr (9, fs_y)), (yc, .inl (g 1, 2, .inl f_yc))]) [0, 1] rfl
    have hD := hD.sub (ws' := [(y, .inr (9, fs_y)), (yc, .inl (g 1, 2, .inl f_yc))]) [0, 1] (by decide) rfl
    refine lv_if_ne (tgt := 19) hx hb dX9_sure_14 (by decide) (fun c9 => absurd (by first | decide | rfl) c9) (fun _ => ?_)
    refine lv_iconst (v := (-1)) hx hb dX9_sure_17 (by decide) ?_
    exact k_iret hx hb hr hlocks hK hP hD hS rfl dX9_sure_18
set_option maxHeartbeats 4000000 in
set_option maxRecDepth 100000 in
theorem m_ask (l : Launch) (D : va_G) (g : Nat → ClassId) (sz : Nat) (y : Nat) (p0 : Int32) (p1 : Int32) (p2 : Int32) (yc : Nat) (fs_y : List Value) (f_yc : Nat → Int32) (h_y_cats : fs_y[11]? = some (.ref yc)) (h_y_bank : fs_y[35]? = some (.int 0)) (h_yc_at0 : f_yc 0 = 0) : Met l yX9_ask wsX9_ask ({ frames := 2, cells := 0, slots := 0, locals := 43 }) (va_Pc [.ref y, .int p0, .int p1, .int p2] (kPre D g [(y, .inr (9, fs_y)), (yc, .inl (g 1, 2, .inl f_yc))] sz)) (kQi D g (fun (r : Int32) (u : va_W) => (-1) = r) (va_A [(y, .inr (9, fs_y)), (yc, .inl (g 1, 2, .inl f_yc))] sz)) 0 0 (va_A [(y, .inr (9, fs_y)), (yc, .inl (g 1, 2, .inl f_yc))] sz) := by
  refine k_head (cc := cX9_ask) (maxL := 10) (ret := (some .int)) (by decide) rfl (Nat.le_of_ble_eq_true rfl) ?_
  intro p e s m below meth c ls A hx hb hr hlocks hml hown hin hts hA hP hK hD hS hl
  have hown : s.vm.findClass RX9 = some m.cls := hown
  have hl : lv_has ls 10 [(0, .ref y), (1, .int p0), (2, .int p1), (3, .int p2)] := hl
  refine lv_iload_n hx hb dX9_ask_0 rfl (lv_at hl 1 rfl) ?_
  refine lv_iconst (v := 0) hx hb dX9_ask_1 (by decide) ?_
  refine lv_bipush (v := 9) hx hb dX9_ask_2 (by decide) ?_
  refine k_goi (wr := [(y, .inr (9, fs_y)), (yc, .inl (g 1, 2, .inl f_yc))]) hP hD hS hA [] [0, 1] rfl rfl (by decide) (by decide) (va_runS (As := [.int p0, .int 0, .int 9]) (rest := []) ⟨hx, hb, hml, hown, hts⟩ (m_isIn l D g _ p0 0 9) (va_cwS 3 hts gX9_ask_X9_isIn rfl rfl rfl (by decide +kernel) ⟨Nat.le_of_ble_eq_true rfl, Nat.le_of_ble_eq_true rfl⟩) (k_preS hK (hP.sub [] rfl) (hD.sub [] (by decide) rfl)) rfl rfl hl.1 rfl (lv_room (Nat.le_of_ble_eq_true rfl)) dX9_ask_4 ⟨Nat.le_of_ble_eq_true rfl, Nat.le_of_ble_eq_true rfl⟩) (fun r_1 u_2 H locs hw hP hD hS => ?_)
  rcases hw with ⟨c_3, rfl, rfl⟩ | ⟨c_4, c_5, rfl, rfl⟩ | ⟨c_6, c_7, rfl, rfl⟩
  · have hP := hP.sub (ws' := [(y, .inr (9, fs_y)), (yc, .inl (g 1, 2, .inl f_yc))]) [0, 1] rfl
    have hD := hD.sub (ws' := [(y, .inr (9, fs_y)), (yc, .inl (g 1, 2, .inl f_yc))]) [0, 1] (by decide) rfl
    refine lv_if_eq (tgt := 19) hx hb dX9_ask_7 (by decide) (fun _ => ?_) (fun c9 => absurd (by first | decide | rfl) c9)
    refine lv_iconst (v := (-1)) hx hb dX9_ask_19 (by decide) ?_
    exact k_iret hx hb hr hlocks hK hP hD hS rfl dX9_ask_20
  · have hP := hP.sub (ws' := [(y, .inr (9, fs_y)), (yc, .inl (g 1, 2, .inl f_yc))]) [0, 1] rfl
    have hD := hD.sub (ws' := [(y, .inr (9, fs_y)), (yc, .inl (g 1, 2, .inl f_yc))]) [0, 1] (by decide) rfl
    refine lv_if_eq (tgt := 19) hx hb dX9_ask_7 (by decide) (fun _ => ?_) (fun c9 => absurd (by first | decide | rfl) c9)
    refine lv_iconst (v := (-1)) hx hb dX9_ask_19 (by decide) ?_
    exact k_iret hx hb hr hlocks hK hP hD hS rfl dX9_ask_20
  · have hP := hP.sub (ws' := [(y, .inr (9, fs_y)), (yc, .inl (g 1, 2, .inl f_yc))]) [0, 1] rfl
    have hD := hD.sub (ws' := [(y, .inr (9, fs_y)), (yc, .inl (g 1, 2, .inl f_yc))]) [0, 1] (by decide) rfl
    refine lv_if_eq (tgt := 19) hx hb dX9_ask_7 (by decide) (fun c9 => absurd c9 (by first | decide | simp)) (fun _ => ?_)
    refine lv_iload_n hx hb dX9_ask_10 rfl (lv_at hl 2 rfl) ?_
    refine lv_iconst (v := 0) hx hb dX9_ask_11 (by decide) ?_
    refine lv_iconst (v := 1) hx hb dX9_ask_12 (by decide) ?_
    refine k_goi (wr := [(y, .inr (9, fs_y)), (yc, .inl (g 1, 2, .inl f_yc))]) hP hD hS hA [] [0, 1] rfl rfl (by decide) (by decide) (va_runS (As := [.int p1, .int 0, .int 1]) (rest := []) ⟨hx, hb, hml, hown, hts⟩ (m_isIn l D g _ p1 0 1) (va_cwS 3 hts gX9_ask_X9_isIn rfl rfl rfl (by decide +kernel) ⟨Nat.le_of_ble_eq_true rfl, Nat.le_of_ble_eq_true rfl⟩) (k_preS hK (hP.sub [] rfl) (hD.sub [] (by decide) rfl)) rfl rfl hl.1 rfl (lv_room (Nat.le_of_ble_eq_true rfl)) dX9_ask_13 ⟨Nat.le_of_ble_eq_true rfl, Nat.le_of_ble_eq_true rfl⟩) (fun r_8 u_9 H locs hw hP hD hS => ?_)
    rcases hw with ⟨c_10, rfl, rfl⟩ | ⟨c_11, c_12, rfl, rfl⟩ | ⟨c_13, c_14, rfl, rfl⟩
    · have hP := hP.sub (ws' := [(y, .inr (9, fs_y)), (yc, .inl (g 1, 2, .inl f_yc))]) [0, 1] rfl
      have hD := hD.sub (ws' := [(y, .inr (9, fs_y)), (yc, .inl (g 1, 2, .inl f_yc))]) [0, 1] (by decide) rfl
      refine lv_if_ne (tgt := 21) hx hb dX9_ask_16 (by decide) (fun c9 => absurd (by first | decide | rfl) c9) (fun _ => ?_)
      refine lv_iconst (v := (-1)) hx hb dX9_ask_19 (by decide) ?_
      exact k_iret hx hb hr hlocks hK hP hD hS rfl dX9_ask_20
    · have hP := hP.sub (ws' := [(y, .inr (9, fs_y)), (yc, .inl (g 1, 2, .inl f_yc))]) [0, 1] rfl
      have hD := hD.sub (ws' := [(y, .inr (9, fs_y)), (yc, .inl (g 1, 2, .inl f_yc))]) [0, 1] (by decide) rfl
      refine lv_if_ne (tgt := 21) hx hb dX9_ask_16 (by decide) (fun c9 => absurd (by first | decide | rfl) c9) (fun _ => ?_)
      refine lv_iconst (v := (-1)) hx hb dX9_ask_19 (by decide) ?_
      exact k_iret hx hb hr hlocks hK hP hD hS rfl dX9_ask_20
    · have hP := hP.sub (ws' := [(y, .inr (9, fs_y)), (yc, .inl (g 1, 2, .inl f_yc))]) [0, 1] rfl
      have hD := hD.sub (ws' := [(y, .inr (9, fs_y)), (yc, .inl (g 1, 2, .inl f_yc))]) [0, 1] (by decide) rfl
      refine lv_if_ne (tgt := 21) hx hb dX9_ask_16 (by decide) (fun _ => ?_) (fun c9 => absurd c9 (by first | decide | simp))
      refine lv_aload_n hx hb dX9_ask_21 rfl (lv_at hl 0 rfl) ?_
      refine lv_iload_n hx hb dX9_ask_22 rfl (lv_at hl 3 rfl) ?_
      refine k_goi (wr := []) hP hD hS hA [0, 1] [] rfl rfl (by decide) (by decide) (va_runV (As := [.int p2]) (rest := []) ⟨hx, hb, hml, hown, hts⟩ (m_fits l D g _ y p2 yc fs_y f_yc h_y_cats h_y_bank h_yc_at0) (cwV 1 hts gX9_ask_X9_fits rfl rfl rfl (by decide +kernel) ⟨Nat.le_of_ble_eq_true rfl, Nat.le_of_ble_eq_true rfl⟩) (k_preV hK (hP.sub [0, 1] rfl) (hD.sub [0, 1] (by decide) rfl) 9 0 rfl rfl) rfl rfl hl.1 rfl (lv_room (Nat.le_of_ble_eq_true rfl)) dX9_ask_23 ⟨Nat.le_of_ble_eq_true rfl, Nat.le_of_ble_eq_true rfl⟩) (fun r_15 u_16 H locs hw hP hD hS => ?_)
      rcases hw with ⟨rfl, rfl⟩
      have hP := hP.sub (ws' := [(y, .inr (9, fs_y)), (yc, .inl (g 1, 2, .inl f_yc))]) [0, 1] rfl
      have hD := hD.sub (ws' := [(y, .inr (9, fs_y)), (yc, .inl (g 1, 2, .inl f_yc))]) [0, 1] (by decide) rfl
      refine lv_istore (lv' := [(4, .int 0), (0, .ref y), (1, .int p0), (2, .int p1), (3, .int p2)]) hx hb dX9_ask_26 hl (by decide) rfl (fun ls hl => ?_)
      refine lv_iload hx hb dX9_ask_28 (lv_at hl 0 rfl) ?_
      refine lv_if_ne (tgt := 35) hx hb dX9_ask_30 (by decide) (fun c9 => absurd (by first | decide | rfl) c9) (fun _ => ?_)
      refine lv_iconst (v := (-1)) hx hb dX9_ask_33 (by decide) ?_
      exact k_iret hx hb hr hlocks hK hP hD hS rfl dX9_ask_34
set_option maxHeartbeats 4000000 in
set_option maxRecDepth 100000 in
theorem m_thoseOut (l : Launch) (D : va_G) (g : Nat → ClassId) (sz : Nat) (y : Nat) (yt : Nat) (fs_y : List Value) (f_yt : Nat → Int32) (h_y_tenants : fs_y[13]? = some (.ref yt)) (h_y_bank : fs_y[35]? = some (.int 0)) (h_yt_at0 : f_yt 0 = 0) : Met l yX9_thoseOut wsX9_thoseOut ({ frames := 1, cells := 0, slots := 0, locals := 20 }) (va_Pc [.ref y] (kPre D g [(y, .inr (9, fs_y)), (yt, .inl (g 1, 2, .inl f_yt))] sz)) (kQi D g (fun (r : Int32) (u : va_W) => 0 = r ∧ u = [(y, .inr (9, fs_y)), (yt, .inl (g 1, 2, .inl f_yt))]) (va_A [(y, .inr (9, fs_y)), (yt, .inl (g 1, 2, .inl f_yt))] sz)) 0 0 (va_A [(y, .inr (9, fs_y)), (yt, .inl (g 1, 2, .inl f_yt))] sz) := by
  refine k_head (cc := cX9_thoseOut) (maxL := 3) (ret := (some .int)) (by decide) rfl (Nat.le_of_ble_eq_true rfl) ?_
  intro p e s m below meth c ls A hx hb hr hlocks hml hown hin hts hA hP hK hD hS hl
  have hown : s.vm.findClass RX9 = some m.cls := hown
  have hl : lv_has ls 3 [(0, .ref y)] := hl
  refine lv_iconst (v := 0) hx hb dX9_thoseOut_0 (by decide) ?_
  refine lv_istore_n (lv' := [(1, .int 0), (0, .ref y)]) hx hb dX9_thoseOut_1 rfl hl (by decide) rfl (fun ls hl => ?_)
  refine lv_iconst (v := 0) hx hb dX9_thoseOut_2 (by decide) ?_
  refine lv_istore_n (lv' := [(2, .int 0), (1, .int 0), (0, .ref y)]) hx hb dX9_thoseOut_3 rfl hl (by decide) rfl (fun ls hl => ?_)
  refine lv_iload_n hx hb dX9_thoseOut_4 rfl (lv_at hl 0 rfl) ?_
  refine lv_aload_n hx hb dX9_thoseOut_5 rfl (lv_at hl 2 rfl) ?_
  refine k_goi (wr := []) hP hD hS hA [0, 1] [] rfl rfl (by decide) (by decide) (va_runV (As := []) (rest := [.int 0]) ⟨hx, hb, hml, hown, hts⟩ (m_many l D g _ y yt fs_y f_yt h_y_tenants h_y_bank h_yt_at0) (cwV 0 hts gX9_thoseOut_X9_many rfl rfl rfl (by decide +kernel) ⟨Nat.le_of_ble_eq_true rfl, Nat.le_of_ble_eq_true rfl⟩) (k_preV hK (hP.sub [0, 1] rfl) (hD.sub [0, 1] (by decide) rfl) 9 0 rfl rfl) rfl rfl hl.1 rfl (lv_room (Nat.le_of_ble_eq_true rfl)) dX9_thoseOut_6 ⟨Nat.le_of_ble_eq_true rfl, Nat.le_of_ble_eq_true rfl⟩) (fun r_1 u_2 H locs hw hP hD hS => ?_)
  rcases hw with ⟨rfl, rfl⟩
  have hP := hP.sub (ws' := [(y, .inr (9, fs_y)), (yt, .inl (g 1, 2, .inl f_yt))]) [0, 1] rfl
  have hD := hD.sub (ws' := [(y, .inr (9, fs_y)), (yt, .inl (g 1, 2, .inl f_yt))]) [0, 1] (by decide) rfl
  refine lv_icmp_ge (tgt := 32) hx hb dX9_thoseOut_9 (by decide) (fun _ => ?_) (fun c9 => absurd (by first | decide | rfl) c9)
  refine lv_iload_n hx hb dX9_thoseOut_32 rfl (lv_at hl 1 rfl) ?_
  exact k_iret hx hb hr hlocks hK hP hD hS ⟨rfl, rfl⟩ dX9_thoseOut_33
set_option maxHeartbeats 4000000 in
set_option maxRecDepth 100000 in
theorem m_about (l : Launch) (D : va_G) (g : Nat → ClassId) (sz : Nat) (y : Nat) (p0 : Int32) (yt : Nat) (yc : Nat) (yr : Nat) (al : Nat) (yu : Nat) (fs_y : List Value) (f_yt : Nat → Int32) (f_yc : Nat → Int32) (f_yr : Nat → Int32) (f_al : Nat → Int32) (f_yu : Nat → Int32) (h_y_taped : fs_y[2]? = some (.int 0)) (h_y_cats : fs_y[11]? = some (.ref yc)) (h_y_rooms : fs_y[12]? = some (.ref yr)) (h_y_tenants : fs_y[13]? = some (.ref yt)) (h_y_units : fs_y[14]? = some (.ref yu)) (h_y_bank : fs_y[35]? = some (.int 0)) (h_y_all : fs_y[45]? = some (.ref al)) (h_y_acts : fs_y[50]? = some (.int 0)) (h_y_undone : fs_y[51]? = some (.int 0)) (h_y_laid : fs_y[54]? = some (.int 0)) (h_y_seens : fs_y[63]? = some (.int 0)) (h_y_time : fs_y[64]? = some (.int 0)) (h_yt_at0 : f_yt 0 = 0) (h_yc_at0 : f_yc 0 = 0) (h_yr_at0 : f_yr 0 = 0) (h_al_at36 : f_al 36 = 0) (h_al_at37 : f_al 37 = 0) (h_al_at38 : f_al 38 = 0) (h_yu_at0 : f_yu 0 = 0) : Met l yX9_about wsX9_about ({ frames := 2, cells := 0, slots := 0, locals := 42 }) (va_Pc [.ref y, .int p0] (kPre D g [(y, .inr (9, fs_y)), (yt, .inl (g 1, 2, .inl f_yt)), (yc, .inl (g 1, 2, .inl f_yc)), (yr, .inl (g 1, 2, .inl f_yr)), (al, .inl (g 1, 39, .inl f_al)), (yu, .inl (g 1, 2, .inl f_yu))] sz)) (kQi D g (fun (r : Int32) (u : va_W) => ((p0 = 0) ∧ 0 = r) ∨ ((¬ p0 = 0) ∧ (p0 = 1) ∧ 0 = r) ∨ ((¬ p0 = 0) ∧ (¬ p0 = 1) ∧ (p0 = 2) ∧ 0 = r) ∨ ((¬ p0 = 0) ∧ (¬ p0 = 1) ∧ (¬ p0 = 2) ∧ (p0 = 3) ∧ 0 = r) ∨ ((¬ p0 = 0) ∧ (¬ p0 = 1) ∧ (¬ p0 = 2) ∧ (¬ p0 = 3) ∧ (p0 = 4) ∧ 0 = r) ∨ ((¬ p0 = 0) ∧ (¬ p0 = 1) ∧ (¬ p0 = 2) ∧ (¬ p0 = 3) ∧ (¬ p0 = 4) ∧ (p0 = 5) ∧ 0 = r) ∨ ((¬ p0 = 0) ∧ (¬ p0 = 1) ∧ (¬ p0 = 2) ∧ (¬ p0 = 3) ∧ (¬ p0 = 4) ∧ (¬ p0 = 5) ∧ (p0 = 6) ∧ 0 = r) ∨ ((¬ p0 = 0) ∧ (¬ p0 = 1) ∧ (¬ p0 = 2) ∧ (¬ p0 = 3) ∧ (¬ p0 = 4) ∧ (¬ p0 = 5) ∧ (¬ p0 = 6) ∧ (p0 = 7) ∧ 0 = r) ∨ ((¬ p0 = 0) ∧ (¬ p0 = 1) ∧ (¬ p0 = 2) ∧ (¬ p0 = 3) ∧ (¬ p0 = 4) ∧ (¬ p0 = 5) ∧ (¬ p0 = 6) ∧ (¬ p0 = 7) ∧ (p0 = 8) ∧ 0 = r) ∨ ((¬ p0 = 0) ∧ (¬ p0 = 1) ∧ (¬ p0 = 2) ∧ (¬ p0 = 3) ∧ (¬ p0 = 4) ∧ (¬ p0 = 5) ∧ (¬ p0 = 6) ∧ (¬ p0 = 7) ∧ (¬ p0 = 8) ∧ (p0 = 9) ∧ 0 = r) ∨ ((¬ p0 = 0) ∧ (¬ p0 = 1) ∧ (¬ p0 = 2) ∧ (¬ p0 = 3) ∧ (¬ p0 = 4) ∧ (¬ p0 = 5) ∧ (¬ p0 = 6) ∧ (¬ p0 = 7) ∧ (¬ p0 = 8) ∧ (¬ p0 = 9) ∧ (p0 = 10) ∧ 0 = r) ∨ ((¬ p0 = 0) ∧ (¬ p0 = 1) ∧ (¬ p0 = 2) ∧ (¬ p0 = 3) ∧ (¬ p0 = 4) ∧ (¬ p0 = 5) ∧ (¬ p0 = 6) ∧ (¬ p0 = 7) ∧ (¬ p0 = 8) ∧ (¬ p0 = 9) ∧ (¬ p0 = 10) ∧ (p0 = 11) ∧ 0 = r) ∨ ((¬ p0 = 0) ∧ (¬ p0 = 1) ∧ (¬ p0 = 2) ∧ (¬ p0 = 3) ∧ (¬ p0 = 4) ∧ (¬ p0 = 5) ∧ (¬ p0 = 6) ∧ (¬ p0 = 7) ∧ (¬ p0 = 8) ∧ (¬ p0 = 9) ∧ (¬ p0 = 10) ∧ (¬ p0 = 11) ∧ (p0 = 12) ∧ 0 = r) ∨ ((¬ p0 = 0) ∧ (¬ p0 = 1) ∧ (¬ p0 = 2) ∧ (¬ p0 = 3) ∧ (¬ p0 = 4) ∧ (¬ p0 = 5) ∧ (¬ p0 = 6) ∧ (¬ p0 = 7) ∧ (¬ p0 = 8) ∧ (¬ p0 = 9) ∧ (¬ p0 = 10) ∧ (¬ p0 = 11) ∧ (¬ p0 = 12) ∧ (p0 = 13) ∧ 0 = r) ∨ ((¬ p0 = 0) ∧ (¬ p0 = 1) ∧ (¬ p0 = 2) ∧ (¬ p0 = 3) ∧ (¬ p0 = 4) ∧ (¬ p0 = 5) ∧ (¬ p0 = 6) ∧ (¬ p0 = 7) ∧ (¬ p0 = 8) ∧ (¬ p0 = 9) ∧ (¬ p0 = 10) ∧ (¬ p0 = 11) ∧ (¬ p0 = 12) ∧ (¬ p0 = 13) ∧ (-1) = r)) (va_A [(y, .inr (9, fs_y)), (yt, .inl (g 1, 2, .inl f_yt)), (yc, .inl (g 1, 2, .inl f_yc)), (yr, .inl (g 1, 2, .inl f_yr)), (al, .inl (g 1, 39, .inl f_al)), (yu, .inl (g 1, 2, .inl f_yu))] sz)) 0 0 (va_A [(y, .inr (9, fs_y)), (yt, .inl (g 1, 2, .inl f_yt)), (yc, .inl (g 1, 2, .inl f_yc)), (yr, .inl (g 1, 2, .inl f_yr)), (al, .inl (g 1, 39, .inl f_al)), (yu, .inl (g 1, 2, .inl f_yu))] sz) := by
  refine k_head (cc := cX9_about) (maxL := 2) (ret := (some .int)) (by decide) rfl (Nat.le_of_ble_eq_true rfl) ?_
  intro p e s m below meth c ls A hx hb hr hlocks hml hown hin hts hA hP hK hD hS hl
  have hown : s.vm.findClass RX9 = some m.cls := hown
  have hl : lv_has ls 2 [(0, .ref y), (1, .int p0)] := hl
  refine lv_iload_n hx hb dX9_about_0 rfl (lv_at hl 1 rfl) ?_
  by_cases c_1 : p0 = 0
  · refine lv_tableIn (tgt := 72) hx hb dX9_about_1 (by rw [c_1]; decide) (by rw [c_1]; decide) (by rw [c_1] <;> rfl) (by decide) ?_
    refine lv_aload_n hx hb dX9_about_72 rfl (lv_at hl 0 rfl) ?_
    refine k_goi (wr := [(yc, .inl (g 1, 2, .inl f_yc)), (yr, .inl (g 1, 2, .inl f_yr)), (al, .inl (g 1, 39, .inl f_al)), (yu, .inl (g 1, 2, .inl f_yu))]) hP hD hS hA [0, 1] [2, 3, 4, 5] rfl rfl (by decide) (by decide) (va_runV (As := []) (rest := []) ⟨hx, hb, hml, hown, hts⟩ (m_many l D g _ y yt fs_y f_yt h_y_tenants h_y_bank h_yt_at0) (cwV 0 hts gX9_about_X9_many rfl rfl rfl (by decide +kernel) ⟨Nat.le_of_ble_eq_true rfl, Nat.le_of_ble_eq_true rfl⟩) (k_preV hK (hP.sub [0, 1] rfl) (hD.sub [0, 1] (by decide) rfl) 9 0 rfl rfl) rfl rfl hl.1 rfl (lv_room (Nat.le_of_ble_eq_true rfl)) dX9_about_73 ⟨Nat.le_of_ble_eq_true rfl, Nat.le_of_ble_eq_true rfl⟩) (fun r_2 u_3 H locs hw hP hD hS => ?_)
    rcases hw with ⟨rfl, rfl⟩
    have hP := hP.sub (ws' := [(y, .inr (9, fs_y)), (yt, .inl (g 1, 2, .inl f_yt)), (yc, .inl (g 1, 2, .inl f_yc)), (yr, .inl (g 1, 2, .inl f_yr)), (al, .inl (g 1, 39, .inl f_al)), (yu, .inl (g 1, 2, .inl f_yu))]) [4, 5, 0, 1, 2, 3] rfl
    have hD := hD.sub (ws' := [(y, .inr (9, fs_y)), (yt, .inl (g 1, 2, .inl f_yt)), (yc, .inl (g 1, 2, .inl f_yc)), (yr, .inl (g 1, 2, .inl f_yr)), (al, .inl (g 1, 39, .inl f_al)), (yu, .inl (g 1, 2, .inl f_yu))]) [4, 5, 0, 1, 2, 3] (by decide) rfl
    exact k_iret hx hb hr hlocks hK hP hD hS (Or.inl ⟨c_1, rfl⟩) dX9_about_76
  by_cases c_4 : p0 = 1
  · refine lv_tableIn (tgt := 77) hx hb dX9_about_1 (by rw [c_4]; decide) (by rw [c_4]; decide) (by rw [c_4] <;> rfl) (by decide) ?_
    refine lv_aload_n hx hb dX9_about_77 rfl (lv_at hl 0 rfl) ?_
    refine k_goi (wr := [(yt, .inl (g 1, 2, .inl f_yt)), (yr, .inl (g 1, 2, .inl f_yr)), (al, .inl (g 1, 39, .inl f_al)), (yu, .inl (g 1, 2, .inl f_yu))]) hP hD hS hA [0, 2] [1, 3, 4, 5] rfl rfl (by decide) (by decide) (va_runV (As := []) (rest := []) ⟨hx, hb, hml, hown, hts⟩ (m_cattery l D g _ y yc fs_y f_yc h_y_cats h_y_bank h_yc_at0) (cwV 0 hts gX9_about_X9_cattery rfl rfl rfl (by decide +kernel) ⟨Nat.le_of_ble_eq_true rfl, Nat.le_of_ble_eq_true rfl⟩) (k_preV hK (hP.sub [0, 2] rfl) (hD.sub [0, 2] (by decide) rfl) 9 0 rfl rfl) rfl rfl hl.1 rfl (lv_room (Nat.le_of_ble_eq_true rfl)) dX9_about_78 ⟨Nat.le_of_ble_eq_true rfl, Nat.le_of_ble_eq_true rfl⟩) (fun r_5 u_6 H locs hw hP hD hS => ?_)
    rcases hw with ⟨rfl, rfl⟩
    have hP := hP.sub (ws' := [(y, .inr (9, fs_y)), (yt, .inl (g 1, 2, .inl f_yt)), (yc, .inl (g 1, 2, .inl f_yc)), (yr, .inl (g 1, 2, .inl f_yr)), (al, .inl (g 1, 39, .inl f_al)), (yu, .inl (g 1, 2, .inl f_yu))]) [4, 0, 5, 1, 2, 3] rfl
    have hD := hD.sub (ws' := [(y, .inr (9, fs_y)), (yt, .inl (g 1, 2, .inl f_yt)), (yc, .inl (g 1, 2, .inl f_yc)), (yr, .inl (g 1, 2, .inl f_yr)), (al, .inl (g 1, 39, .inl f_al)), (yu, .inl (g 1, 2, .inl f_yu))]) [4, 0, 5, 1, 2, 3] (by decide) rfl
    exact k_iret hx hb hr hlocks hK hP hD hS (Or.inr (Or.inl ⟨c_1, c_4, rfl⟩)) dX9_about_81
  by_cases c_7 : p0 = 2
  · refine lv_tableIn (tgt := 82) hx hb dX9_about_1 (by rw [c_7]; decide) (by rw [c_7]; decide) (by rw [c_7] <;> rfl) (by decide) ?_
    refine lv_aload_n hx hb dX9_about_82 rfl (lv_at hl 0 rfl) ?_
    refine k_goi (wr := [(yt, .inl (g 1, 2, .inl f_yt)), (yc, .inl (g 1, 2, .inl f_yc)), (al, .inl (g 1, 39, .inl f_al)), (yu, .inl (g 1, 2, .inl f_yu))]) hP hD hS hA [0, 3] [1, 2, 4, 5] rfl rfl (by decide) (by decide) (va_runV (As := []) (rest := []) ⟨hx, hb, hml, hown, hts⟩ (m_chambers l D g _ y yr fs_y f_yr h_y_rooms h_y_bank h_yr_at0) (cwV 0 hts gX9_about_X9_chambers rfl rfl rfl (by decide +kernel) ⟨Nat.le_of_ble_eq_true rfl, Nat.le_of_ble_eq_true rfl⟩) (k_preV hK (hP.sub [0, 3] rfl) (hD.sub [0, 3] (by decide) rfl) 9 0 rfl rfl) rfl rfl hl.1 rfl (lv_room (Nat.le_of_ble_eq_true rfl)) dX9_about_83 ⟨Nat.le_of_ble_eq_true rfl, Nat.le_of_ble_eq_true rfl⟩) (fun r_8 u_9 H locs hw hP hD hS => ?_)
    rcases hw with ⟨rfl, rfl⟩
    have hP := hP.sub (ws' := [(y, .inr (9, fs_y)), (yt, .inl (g 1, 2, .inl f_yt)), (yc, .inl (g 1, 2, .inl f_yc)), (yr, .inl (g 1, 2, .inl f_yr)), (al, .inl (g 1, 39, .inl f_al)), (yu, .inl (g 1, 2, .inl f_yu))]) [4, 0, 1, 5, 2, 3] rfl
    have hD := hD.sub (ws' := [(y, .inr (9, fs_y)), (yt, .inl (g 1, 2, .inl f_yt)), (yc, .inl (g 1, 2, .inl f_yc)), (yr, .inl (g 1, 2, .inl f_yr)), (al, .inl (g 1, 39, .inl f_al)), (yu, .inl (g 1, 2, .inl f_yu))]) [4, 0, 1, 5, 2, 3] (by decide) rfl
    exact k_iret hx hb hr hlocks hK hP hD hS (Or.inr (Or.inr (Or.inl ⟨c_1, c_4, c_7, rfl⟩))) dX9_about_86
  by_cases c_10 : p0 = 3
  · refine lv_tableIn (tgt := 87) hx hb dX9_about_1 (by rw [c_10]; decide) (by rw [c_10]; decide) (by rw [c_10] <;> rfl) (by decide) ?_
    refine lv_aload_n hx hb dX9_about_87 rfl (lv_at hl 0 rfl) ?_
    refine va_get (D := D) (ci := 9) (v := .ref al) (C := RX9) (T := TX9) (N := 67) hx hb hts iX9_about_X9 hown hK hP 0 rfl rfl 45 (by decide) (hts (.fieldLink RX9 94 "CatLeasesModel" "all" "[I") (List.mem_of_getElem? (i := 1) rfl)) (fun _ h9 => h9) h_y_all dX9_about_88 ?_
    refine lv_bipush (v := 36) hx hb dX9_about_91 (by decide) ?_
    refine va_iald hx hb hK hP 4 1 rfl rfl (k_in (i := 36) (n := 39) (by decide)) dX9_about_93 ?_
    refine k_top (v := 0) h_al_at36 ?_
    exact k_iret hx hb hr hlocks hK hP hD hS (Or.inr (Or.inr (Or.inr (Or.inl ⟨c_1, c_4, c_7, c_10, rfl⟩)))) dX9_about_94
  by_cases c_11 : p0 = 4
  · refine lv_tableIn (tgt := 95) hx hb dX9_about_1 (by rw [c_11]; decide) (by rw [c_11]; decide) (by rw [c_11] <;> rfl) (by decide) ?_
    refine lv_aload_n hx hb dX9_about_95 rfl (lv_at hl 0 rfl) ?_
    refine k_goi (wr := [(yc, .inl (g 1, 2, .inl f_yc)), (yr, .inl (g 1, 2, .inl f_yr)), (al, .inl (g 1, 39, .inl f_al)), (yu, .inl (g 1, 2, .inl f_yu))]) hP hD hS hA [0, 1] [2, 3, 4, 5] rfl rfl (by decide) (by decide) (va_runV (As := []) (rest := []) ⟨hx, hb, hml, hown, hts⟩ (m_thoseOut l D g _ y yt fs_y f_yt h_y_tenants h_y_bank h_yt_at0) (cwV 0 hts gX9_about_X9_thoseOut rfl rfl rfl (by decide +kernel) ⟨Nat.le_of_ble_eq_true rfl, Nat.le_of_ble_eq_true rfl⟩) (k_preV hK (hP.sub [0, 1] rfl) (hD.sub [0, 1] (by decide) rfl) 9 0 rfl rfl) rfl rfl hl.1 rfl (lv_room (Nat.le_of_ble_eq_true rfl)) dX9_about_96 ⟨Nat.le_of_ble_eq_true rfl, Nat.le_of_ble_eq_true rfl⟩) (fun r_12 u_13 H locs hw hP hD hS => ?_)
    rcases hw with ⟨rfl, rfl⟩
    have hP := hP.sub (ws' := [(y, .inr (9, fs_y)), (yt, .inl (g 1, 2, .inl f_yt)), (yc, .inl (g 1, 2, .inl f_yc)), (yr, .inl (g 1, 2, .inl f_yr)), (al, .inl (g 1, 39, .inl f_al)), (yu, .inl (g 1, 2, .inl f_yu))]) [4, 5, 0, 1, 2, 3] rfl
    have hD := hD.sub (ws' := [(y, .inr (9, fs_y)), (yt, .inl (g 1, 2, .inl f_yt)), (yc, .inl (g 1, 2, .inl f_yc)), (yr, .inl (g 1, 2, .inl f_yr)), (al, .inl (g 1, 39, .inl f_al)), (yu, .inl (g 1, 2, .inl f_yu))]) [4, 5, 0, 1, 2, 3] (by decide) rfl
    exact k_iret hx hb hr hlocks hK hP hD hS (Or.inr (Or.inr (Or.inr (Or.inr (Or.inl ⟨c_1, c_4, c_7, c_10, c_11, rfl⟩))))) dX9_about_99
  by_cases c_14 : p0 = 5
  · refine lv_tableIn (tgt := 100) hx hb dX9_about_1 (by rw [c_14]; decide) (by rw [c_14]; decide) (by rw [c_14] <;> rfl) (by decide) ?_
    refine lv_aload_n hx hb dX9_about_100 rfl (lv_at hl 0 rfl) ?_
    refine va_get (D := D) (ci := 9) (v := .ref al) (C := RX9) (T := TX9) (N := 67) hx hb hts iX9_about_X9 hown hK hP 0 rfl rfl 45 (by decide) (hts (.fieldLink RX9 94 "CatLeasesModel" "all" "[I") (List.mem_of_getElem? (i := 1) rfl)) (fun _ h9 => h9) h_y_all dX9_about_101 ?_
    refine lv_bipush (v := 37) hx hb dX9_about_104 (by decide) ?_
    refine va_iald hx hb hK hP 4 1 rfl rfl (k_in (i := 37) (n := 39) (by decide)) dX9_about_106 ?_
    refine k_top (v := 0) h_al_at37 ?_
    exact k_iret hx hb hr hlocks hK hP hD hS (Or.inr (Or.inr (Or.inr (Or.inr (Or.inr (Or.inl ⟨c_1, c_4, c_7, c_10, c_11, c_14, rfl⟩)))))) dX9_about_107
  by_cases c_15 : p0 = 6
  · refine lv_tableIn (tgt := 108) hx hb dX9_about_1 (by rw [c_15]; decide) (by rw [c_15]; decide) (by rw [c_15] <;> rfl) (by decide) ?_
    refine lv_aload_n hx hb dX9_about_108 rfl (lv_at hl 0 rfl) ?_
    refine va_get (D := D) (ci := 9) (v := .ref al) (C := RX9) (T := TX9) (N := 67) hx hb hts iX9_about_X9 hown hK hP 0 rfl rfl 45 (by decide) (hts (.fieldLink RX9 94 "CatLeasesModel" "all" "[I") (List.mem_of_getElem? (i := 1) rfl)) (fun _ h9 => h9) h_y_all dX9_about_109 ?_
    refine lv_bipush (v := 38) hx hb dX9_about_112 (by decide) ?_
    refine va_iald hx hb hK hP 4 1 rfl rfl (k_in (i := 38) (n := 39) (by decide)) dX9_about_114 ?_
    refine k_top (v := 0) h_al_at38 ?_
    exact k_iret hx hb hr hlocks hK hP hD hS (Or.inr (Or.inr (Or.inr (Or.inr (Or.inr (Or.inr (Or.inl ⟨c_1, c_4, c_7, c_10, c_11, c_14, c_15, rfl⟩))))))) dX9_about_115
  by_cases c_16 : p0 = 7
  · refine lv_tableIn (tgt := 116) hx hb dX9_about_1 (by rw [c_16]; decide) (by rw [c_16]; decide) (by rw [c_16] <;> rfl) (by decide) ?_
    refine lv_aload_n hx hb dX9_about_116 rfl (lv_at hl 0 rfl) ?_
    refine va_get (D := D) (ci := 9) (v := .int 0) (C := RX9) (T := TX9) (N := 67) hx hb hts iX9_about_X9 hown hK hP 0 rfl rfl 50 (by decide) (hts (.fieldLink RX9 398 "CatLeasesModel" "acts" "I") (List.mem_of_getElem? (i := 2) rfl)) (fun _ h9 => h9) h_y_acts dX9_about_117 ?_
    exact k_iret hx hb hr hlocks hK hP hD hS (Or.inr (Or.inr (Or.inr (Or.inr (Or.inr (Or.inr (Or.inr (Or.inl ⟨c_1, c_4, c_7, c_10, c_11, c_14, c_15, c_16, rfl⟩)))))))) dX9_about_120
  by_cases c_17 : p0 = 8
  · refine lv_tableIn (tgt := 121) hx hb dX9_about_1 (by rw [c_17]; decide) (by rw [c_17]; decide) (by rw [c_17] <;> rfl) (by decide) ?_
    refine lv_aload_n hx hb dX9_about_121 rfl (lv_at hl 0 rfl) ?_
    refine va_get (D := D) (ci := 9) (v := .int 0) (C := RX9) (T := TX9) (N := 67) hx hb hts iX9_about_X9 hown hK hP 0 rfl rfl 51 (by decide) (hts (.fieldLink RX9 401 "CatLeasesModel" "undone" "I") (List.mem_of_getElem? (i := 3) rfl)) (fun _ h9 => h9) h_y_undone dX9_about_122 ?_
    exact k_iret hx hb hr hlocks hK hP hD hS (Or.inr (Or.inr (Or.inr (Or.inr (Or.inr (Or.inr (Or.inr (Or.inr (Or.inl ⟨c_1, c_4, c_7, c_10, c_11, c_14, c_15, c_16, c_17, rfl⟩))))))))) dX9_about_125
  by_cases c_18 : p0 = 9
  · refine lv_tableIn (tgt := 126) hx hb dX9_about_1 (by rw [c_18]; decide) (by rw [c_18]; decide) (by rw [c_18] <;> rfl) (by decide) ?_
    refine lv_aload_n hx hb dX9_about_126 rfl (lv_at hl 0 rfl) ?_
    refine va_get (D := D) (ci := 9) (v := .int 0) (C := RX9) (T := TX9) (N := 67) hx hb hts iX9_about_X9 hown hK hP 0 rfl rfl 63 (by decide) (hts (.fieldLink RX9 404 "CatLeasesModel" "seens" "I") (List.mem_of_getElem? (i := 4) rfl)) (fun _ h9 => h9) h_y_seens dX9_about_127 ?_
    exact k_iret hx hb hr hlocks hK hP hD hS (Or.inr (Or.inr (Or.inr (Or.inr (Or.inr (Or.inr (Or.inr (Or.inr (Or.inr (Or.inl ⟨c_1, c_4, c_7, c_10, c_11, c_14, c_15, c_16, c_17, c_18, rfl⟩)))))))))) dX9_about_130
  by_cases c_19 : p0 = 10
  · refine lv_tableIn (tgt := 131) hx hb dX9_about_1 (by rw [c_19]; decide) (by rw [c_19]; decide) (by rw [c_19] <;> rfl) (by decide) ?_
    refine lv_aload_n hx hb dX9_about_131 rfl (lv_at hl 0 rfl) ?_
    refine va_get (D := D) (ci := 9) (v := .int 0) (C := RX9) (T := TX9) (N := 67) hx hb hts iX9_about_X9 hown hK hP 0 rfl rfl 64 (by decide) (hts (.fieldLink RX9 532 "CatLeasesModel" "time" "I") (List.mem_of_getElem? (i := 5) rfl)) (fun _ h9 => h9) h_y_time dX9_about_132 ?_
    exact k_iret hx hb hr hlocks hK hP hD hS (Or.inr (Or.inr (Or.inr (Or.inr (Or.inr (Or.inr (Or.inr (Or.inr (Or.inr (Or.inr (Or.inl ⟨c_1, c_4, c_7, c_10, c_11, c_14, c_15, c_16, c_17, c_18, c_19, rfl⟩))))))))))) dX9_about_135
  by_cases c_20 : p0 = 11
  · refine lv_tableIn (tgt := 136) hx hb dX9_about_1 (by rw [c_20]; decide) (by rw [c_20]; decide) (by rw [c_20] <;> rfl) (by decide) ?_
    refine lv_aload_n hx hb dX9_about_136 rfl (lv_at hl 0 rfl) ?_
    refine va_get (D := D) (ci := 9) (v := .int 0) (C := RX9) (T := TX9) (N := 67) hx hb hts iX9_about_X9 hown hK hP 0 rfl rfl 2 (by decide) (hts (.fieldLink RX9 265 "CatLeasesModel" "taped" "I") (List.mem_of_getElem? (i := 6) rfl)) (fun _ h9 => h9) h_y_taped dX9_about_137 ?_
    exact k_iret hx hb hr hlocks hK hP hD hS (Or.inr (Or.inr (Or.inr (Or.inr (Or.inr (Or.inr (Or.inr (Or.inr (Or.inr (Or.inr (Or.inr (Or.inl ⟨c_1, c_4, c_7, c_10, c_11, c_14, c_15, c_16, c_17, c_18, c_19, c_20, rfl⟩)))))))))))) dX9_about_140
  by_cases c_21 : p0 = 12
  · refine lv_tableIn (tgt := 141) hx hb dX9_about_1 (by rw [c_21]; decide) (by rw [c_21]; decide) (by rw [c_21] <;> rfl) (by decide) ?_
    refine lv_aload_n hx hb dX9_about_141 rfl (lv_at hl 0 rfl) ?_
    refine va_get (D := D) (ci := 9) (v := .ref yu) (C := RX9) (T := TX9) (N := 67) hx hb hts iX9_about_X9 hown hK hP 0 rfl rfl 14 (by decide) (hts (.fieldLink RX9 30 "CatLeasesModel" "units" "[I") (List.mem_of_getElem? (i := 7) rfl)) (fun _ h9 => h9) h_y_units dX9_about_142 ?_
    refine lv_aload_n hx hb dX9_about_145 rfl (lv_at hl 0 rfl) ?_
    refine va_get (D := D) (ci := 9) (v := .int 0) (C := RX9) (T := TX9) (N := 67) hx hb hts iX9_about_X9 hown hK hP 0 rfl rfl 35 (by decide) (hts (.fieldLink RX9 268 "CatLeasesModel" "bank" "I") (List.mem_of_getElem? (i := 8) rfl)) (fun _ h9 => h9) h_y_bank dX9_about_146 ?_
    refine va_iald hx hb hK hP 5 1 rfl rfl (k_in (i := 0) (n := 2) (by decide)) dX9_about_149 ?_
    refine k_top (v := 0) h_yu_at0 ?_
    exact k_iret hx hb hr hlocks hK hP hD hS (Or.inr (Or.inr (Or.inr (Or.inr (Or.inr (Or.inr (Or.inr (Or.inr (Or.inr (Or.inr (Or.inr (Or.inr (Or.inl ⟨c_1, c_4, c_7, c_10, c_11, c_14, c_15, c_16, c_17, c_18, c_19, c_20, c_21, rfl⟩))))))))))))) dX9_about_150
  by_cases c_22 : p0 = 13
  · refine lv_tableIn (tgt := 151) hx hb dX9_about_1 (by rw [c_22]; decide) (by rw [c_22]; decide) (by rw [c_22] <;> rfl) (by decide) ?_
    refine lv_aload_n hx hb dX9_about_151 rfl (lv_at hl 0 rfl) ?_
    refine va_get (D := D) (ci := 9) (v := .int 0) (C := RX9) (T := TX9) (N := 67) hx hb hts iX9_about_X9 hown hK hP 0 rfl rfl 54 (by decide) (hts (.fieldLink RX9 407 "CatLeasesModel" "laid" "I") (List.mem_of_getElem? (i := 9) rfl)) (fun _ h9 => h9) h_y_laid dX9_about_152 ?_
    exact k_iret hx hb hr hlocks hK hP hD hS (Or.inr (Or.inr (Or.inr (Or.inr (Or.inr (Or.inr (Or.inr (Or.inr (Or.inr (Or.inr (Or.inr (Or.inr (Or.inr (Or.inl ⟨c_1, c_4, c_7, c_10, c_11, c_14, c_15, c_16, c_17, c_18, c_19, c_20, c_21, c_22, rfl⟩)))))))))))))) dX9_about_155
  refine lv_tableOut (tgt := 156) hx hb dX9_about_1 (by have k0 : (0 : Int32).toInt = 0 := (by decide); have k1 : (1 : Int32).toInt = 1 := (by decide); have k2 : (2 : Int32).toInt = 2 := (by decide); have k3 : (3 : Int32).toInt = 3 := (by decide); have k4 : (4 : Int32).toInt = 4 := (by decide); have k5 : (5 : Int32).toInt = 5 := (by decide); have k6 : (6 : Int32).toInt = 6 := (by decide); have k7 : (7 : Int32).toInt = 7 := (by decide); have k8 : (8 : Int32).toInt = 8 := (by decide); have k9 : (9 : Int32).toInt = 9 := (by decide); have k10 : (10 : Int32).toInt = 10 := (by decide); have k11 : (11 : Int32).toInt = 11 := (by decide); have k12 : (12 : Int32).toInt = 12 := (by decide); have k13 : (13 : Int32).toInt = 13 := (by decide); have zc_1 := c_1; have zc_4 := c_4; have zc_7 := c_7; have zc_10 := c_10; have zc_11 := c_11; have zc_14 := c_14; have zc_15 := c_15; have zc_16 := c_16; have zc_17 := c_17; have zc_18 := c_18; have zc_19 := c_19; have zc_20 := c_20; have zc_21 := c_21; have zc_22 := c_22; simp only [Int32.lt_iff_toInt_lt, Int32.le_iff_toInt_le, ← Int32.toInt_inj] at zc_1 zc_4 zc_7 zc_10 zc_11 zc_14 zc_15 zc_16 zc_17 zc_18 zc_19 zc_20 zc_21 zc_22; omega) (by decide) ?_
  refine lv_iconst (v := (-1)) hx hb dX9_about_156 (by decide) ?_
  exact k_iret hx hb hr hlocks hK hP hD hS (Or.inr (Or.inr (Or.inr (Or.inr (Or.inr (Or.inr (Or.inr (Or.inr (Or.inr (Or.inr (Or.inr (Or.inr (Or.inr (Or.inr ⟨c_1, c_4, c_7, c_10, c_11, c_14, c_15, c_16, c_17, c_18, c_19, c_20, c_21, c_22, rfl⟩)))))))))))))) dX9_about_157
set_option maxHeartbeats 4000000 in
set_option maxRecDepth 100000 in
theorem m_layLet (l : Launch) (D : va_G) (g : Nat → ClassId) (sz : Nat) (y : Nat) (yt : Nat) (yr : Nat) (lf : Nat) (fs_y : List Value) (f_yt : Nat → Int32) (f_yr : Nat → Int32) (f_lf : Nat → Int32) (h_y_rooms : fs_y[12]? = some (.ref yr)) (h_y_tenants : fs_y[13]? = some (.ref yt)) (h_y_bank : fs_y[35]? = some (.int 0)) (h_y_letFrom : fs_y[55]? = some (.ref lf)) (h_yt_at0 : f_yt 0 = 0) (h_yr_at0 : f_yr 0 = 0) : Met l yX9_layLet wsX9_layLet ({ frames := 1, cells := 0, slots := 0, locals := 20 }) (va_Pc [.ref y] (kPre D g [(y, .inr (9, fs_y)), (yt, .inl (g 1, 2, .inl f_yt)), (yr, .inl (g 1, 2, .inl f_yr)), (lf, .inl (g 1, 2048, .inl f_lf))] sz)) (kQi D g (fun (r : Int32) (u : va_W) => ∃ (fe_lf : Nat → Int32), (fe_lf 0 = 0) ∧ 0 = r ∧ u = [(y, .inr (9, fs_y)), (yt, .inl (g 1, 2, .inl f_yt)), (yr, .inl (g 1, 2, .inl f_yr)), (lf, .inl (g 1, 2048, .inl fe_lf))]) (va_A [(y, .inr (9, fs_y)), (yt, .inl (g 1, 2, .inl f_yt)), (yr, .inl (g 1, 2, .inl f_yr)), (lf, .inl (g 1, 2048, .inl f_lf))] sz)) 0 0 (va_A [(y, .inr (9, fs_y)), (yt, .inl (g 1, 2, .inl f_yt)), (yr, .inl (g 1, 2, .inl f_yr)), (lf, .inl (g 1, 2048, .inl f_lf))] sz) := by
  refine k_head (cc := cX9_layLet) (maxL := 7) (ret := (some .int)) (by decide) rfl (Nat.le_of_ble_eq_true rfl) ?_
  intro p e s m below meth c ls A hx hb hr hlocks hml hown hin hts hA hP hK hD hS hl
  have hown : s.vm.findClass RX9 = some m.cls := hown
  have hl : lv_has ls 7 [(0, .ref y)] := hl
  refine lv_iconst (v := 1) hx hb dX9_layLet_0 (by decide) ?_
  refine lv_aload_n hx hb dX9_layLet_1 rfl (lv_at hl 0 rfl) ?_
  refine k_goi (wr := [(yt, .inl (g 1, 2, .inl f_yt)), (lf, .inl (g 1, 2048, .inl f_lf))]) hP hD hS hA [0, 2] [1, 3] rfl rfl (by decide) (by decide) (va_runV (As := []) (rest := [.int 1]) ⟨hx, hb, hml, hown, hts⟩ (m_chambers l D g _ y yr fs_y f_yr h_y_rooms h_y_bank h_yr_at0) (cwV 0 hts gX9_layLet_X9_chambers rfl rfl rfl (by decide +kernel) ⟨Nat.le_of_ble_eq_true rfl, Nat.le_of_ble_eq_true rfl⟩) (k_preV hK (hP.sub [0, 2] rfl) (hD.sub [0, 2] (by decide) rfl) 9 0 rfl rfl) rfl rfl hl.1 rfl (lv_room (Nat.le_of_ble_eq_true rfl)) dX9_layLet_2 ⟨Nat.le_of_ble_eq_true rfl, Nat.le_of_ble_eq_true rfl⟩) (fun r_1 u_2 H locs hw hP hD hS => ?_)
  rcases hw with ⟨rfl, rfl⟩
  have hP := hP.sub (ws' := [(y, .inr (9, fs_y)), (yt, .inl (g 1, 2, .inl f_yt)), (yr, .inl (g 1, 2, .inl f_yr)), (lf, .inl (g 1, 2048, .inl f_lf))]) [2, 0, 3, 1] rfl
  have hD := hD.sub (ws' := [(y, .inr (9, fs_y)), (yt, .inl (g 1, 2, .inl f_yt)), (yr, .inl (g 1, 2, .inl f_yr)), (lf, .inl (g 1, 2048, .inl f_lf))]) [2, 0, 3, 1] (by decide) rfl
  refine lv_ishl hx hb dX9_layLet_5 ?_
  refine k_top (v := 1) (by decide) ?_
  refine lv_istore_n (lv' := [(1, .int 1), (0, .ref y)]) hx hb dX9_layLet_6 rfl hl (by decide) rfl (fun ls hl => ?_)
  refine lv_iconst (v := 0) hx hb dX9_layLet_7 (by decide) ?_
  refine lv_istore_n (lv' := [(2, .int 0), (1, .int 1), (0, .ref y)]) hx hb dX9_layLet_8 rfl hl (by decide) rfl (fun ls hl => ?_)
  refine lv_iload_n hx hb dX9_layLet_9 rfl (lv_at hl 0 rfl) ?_
  refine lv_iload_n hx hb dX9_layLet_10 rfl (lv_at hl 1 rfl) ?_
  refine lv_icmp_ge (tgt := 36) hx hb dX9_layLet_11 (by decide) (fun c9 => absurd c9 (by first | decide | simp)) (fun _ => ?_)
  refine lv_aload_n hx hb dX9_layLet_14 rfl (lv_at hl 2 rfl) ?_
  refine va_get (D := D) (ci := 9) (v := .ref lf) (C := RX9) (T := TX9) (N := 67) hx hb hts iX9_layLet_X9 hown hK hP 0 rfl rfl 55 (by decide) (hts (.fieldLink RX9 115 "CatLeasesModel" "letFrom" "[I") (List.mem_of_getElem? (i := 1) rfl)) (fun _ h9 => h9) h_y_letFrom dX9_layLet_15 ?_
  refine lv_sipush (v := 256) hx hb dX9_layLet_18 (by decide) ?_
  refine lv_aload_n hx hb dX9_layLet_21 rfl (lv_at hl 2 rfl) ?_
  refine k_goi (wr := [(yr, .inl (g 1, 2, .inl f_yr)), (lf, .inl (g 1, 2048, .inl f_lf))]) hP hD hS hA [0, 1] [2, 3] rfl rfl (by decide) (by decide) (va_runV (As := []) (rest := [.int 256, .ref lf]) ⟨hx, hb, hml, hown, hts⟩ (m_many l D g _ y yt fs_y f_yt h_y_tenants h_y_bank h_yt_at0) (cwV 0 hts gX9_layLet_X9_many rfl rfl rfl (by decide +kernel) ⟨Nat.le_of_ble_eq_true rfl, Nat.le_of_ble_eq_true rfl⟩) (k_preV hK (hP.sub [0, 1] rfl) (hD.sub [0, 1] (by decide) rfl) 9 0 rfl rfl) rfl rfl hl.1 rfl (lv_room (Nat.le_of_ble_eq_true rfl)) dX9_layLet_22 ⟨Nat.le_of_ble_eq_true rfl, Nat.le_of_ble_eq_true rfl⟩) (fun r_3 u_4 H locs hw hP hD hS => ?_)
  rcases hw with ⟨rfl, rfl⟩
  have hP := hP.sub (ws' := [(y, .inr (9, fs_y)), (yt, .inl (g 1, 2, .inl f_yt)), (yr, .inl (g 1, 2, .inl f_yr)), (lf, .inl (g 1, 2048, .inl f_lf))]) [2, 3, 0, 1] rfl
  have hD := hD.sub (ws' := [(y, .inr (9, fs_y)), (yt, .inl (g 1, 2, .inl f_yt)), (yr, .inl (g 1, 2, .inl f_yr)), (lf, .inl (g 1, 2048, .inl f_lf))]) [2, 3, 0, 1] (by decide) rfl
  refine lv_imul hx hb dX9_layLet_25 ?_
  refine k_top (v := 0) (by decide) ?_
  refine lv_iload_n hx hb dX9_layLet_26 rfl (lv_at hl 0 rfl) ?_
  refine lv_iadd hx hb dX9_layLet_27 ?_
  refine k_top (v := 0) (by decide) ?_
  refine lv_iconst (v := 0) hx hb dX9_layLet_28 (by decide) ?_
  refine va_iast hx hb hK hP hD hS 3 1 rfl rfl (k_in (i := 0) (n := 2048) (by decide)) dX9_layLet_29 (fun H locs hP hD hS => ?_)
  have hP : va_P D vwCl [(y, .inr (9, fs_y)), (yt, .inl (g 1, 2, .inl f_yt)), (yr, .inl (g 1, 2, .inl f_yr)), (lf, .inl (g 1, 2048, .inl (upd f_lf 0 0)))] H := hP
  have hD : va_D A [(y, .inr (9, fs_y)), (yt, .inl (g 1, 2, .inl f_yt)), (yr, .inl (g 1, 2, .inl f_yr)), (lf, .inl (g 1, 2048, .inl (upd f_lf 0 0)))] := hD
  refine lv_iinc (v := 1) (lv' := [(2, .int 1), (1, .int 1), (0, .ref y)]) hx hb dX9_layLet_30 hl (k := 0) rfl (by decide) (by decide) rfl (fun ls hl => ?_)
  refine lv_goto (tgt := 9) hx hb dX9_layLet_33 (by decide) ?_
  refine lv_iload_n hx hb dX9_layLet_9 rfl (lv_at hl 0 rfl) ?_
  refine lv_iload_n hx hb dX9_layLet_10 rfl (lv_at hl 1 rfl) ?_
  refine lv_icmp_ge (tgt := 36) hx hb dX9_layLet_11 (by decide) (fun _ => ?_) (fun c9 => absurd (by first | decide | rfl) c9)
  refine lv_aload_n hx hb dX9_layLet_36 rfl (lv_at hl 2 rfl) ?_
  refine k_goi (wr := [(yr, .inl (g 1, 2, .inl f_yr)), (lf, .inl (g 1, 2048, .inl (upd f_lf 0 0)))]) hP hD hS hA [0, 1] [2, 3] rfl rfl (by decide) (by decide) (va_runV (As := []) (rest := []) ⟨hx, hb, hml, hown, hts⟩ (m_many l D g _ y yt fs_y f_yt h_y_tenants h_y_bank h_yt_at0) (cwV 0 hts gX9_layLet_X9_many rfl rfl rfl (by decide +kernel) ⟨Nat.le_of_ble_eq_true rfl, Nat.le_of_ble_eq_true rfl⟩) (k_preV hK (hP.sub [0, 1] rfl) (hD.sub [0, 1] (by decide) rfl) 9 0 rfl rfl) rfl rfl hl.1 rfl (lv_room (Nat.le_of_ble_eq_true rfl)) dX9_layLet_37 ⟨Nat.le_of_ble_eq_true rfl, Nat.le_of_ble_eq_true rfl⟩) (fun r_5 u_6 H locs hw hP hD hS => ?_)
  rcases hw with ⟨rfl, rfl⟩
  have hP := hP.sub (ws' := [(y, .inr (9, fs_y)), (yt, .inl (g 1, 2, .inl f_yt)), (yr, .inl (g 1, 2, .inl f_yr)), (lf, .inl (g 1, 2048, .inl (upd f_lf 0 0)))]) [2, 3, 0, 1] rfl
  have hD := hD.sub (ws' := [(y, .inr (9, fs_y)), (yt, .inl (g 1, 2, .inl f_yt)), (yr, .inl (g 1, 2, .inl f_yr)), (lf, .inl (g 1, 2048, .inl (upd f_lf 0 0)))]) [2, 3, 0, 1] (by decide) rfl
  refine lv_iconst (v := 1) hx hb dX9_layLet_40 (by decide) ?_
  refine lv_isub hx hb dX9_layLet_41 ?_
  refine k_top (v := (-1)) (by decide) ?_
  refine lv_istore_n (lv' := [(2, .int (-1)), (1, .int 1), (0, .ref y)]) hx hb dX9_layLet_42 rfl hl (by decide) rfl (fun ls hl => ?_)
  refine lv_iload_n hx hb dX9_layLet_43 rfl (lv_at hl 0 rfl) ?_
  refine lv_if_lt (tgt := 205) hx hb dX9_layLet_44 (by decide) (fun _ => ?_) (fun c9 => absurd (by first | decide | rfl) c9)
  refine lv_aload_n hx hb dX9_layLet_205 rfl (lv_at hl 2 rfl) ?_
  refine va_get (D := D) (ci := 9) (v := .ref lf) (C := RX9) (T := TX9) (N := 67) hx hb hts iX9_layLet_X9 hown hK hP 0 rfl rfl 55 (by decide) (hts (.fieldLink RX9 115 "CatLeasesModel" "letFrom" "[I") (List.mem_of_getElem? (i := 1) rfl)) (fun _ h9 => h9) h_y_letFrom dX9_layLet_206 ?_
  refine lv_iconst (v := 0) hx hb dX9_layLet_209 (by decide) ?_
  refine va_iald hx hb hK hP 3 1 rfl rfl (k_in (i := 0) (n := 2048) (by decide)) dX9_layLet_210 ?_
  refine k_top (v := 0) rfl ?_
  exact k_iret hx hb hr hlocks hK hP hD hS ⟨(upd f_lf 0 0), rfl, rfl, rfl⟩ dX9_layLet_211
set_option maxHeartbeats 4000000 in
set_option maxRecDepth 100000 in
theorem m_letting (l : Launch) (D : va_G) (g : Nat → ClassId) (sz : Nat) (y : Nat) (yt : Nat) (yr : Nat) (lf : Nat) (fs_y : List Value) (v_y_laid : Value) (f_yt : Nat → Int32) (f_yr : Nat → Int32) (f_lf : Nat → Int32) (h_y_rooms : fs_y[12]? = some (.ref yr)) (h_y_tenants : fs_y[13]? = some (.ref yt)) (h_y_bank : fs_y[35]? = some (.int 0)) (h_y_laid : fs_y[54]? = some (v_y_laid)) (h_y_letFrom : fs_y[55]? = some (.ref lf)) (h_yt_at0 : f_yt 0 = 0) (h_yr_at0 : f_yr 0 = 0) : Met l yX9_letting wsX9_letting ({ frames := 2, cells := 0, slots := 0, locals := 46 }) (va_Pc [.ref y] (kPre D g [(y, .inr (9, fs_y)), (yt, .inl (g 1, 2, .inl f_yt)), (yr, .inl (g 1, 2, .inl f_yr)), (lf, .inl (g 1, 2048, .inl f_lf))] sz)) (kQi D g (fun (r : Int32) (u : va_W) => 0 = r) (va_A [(y, .inr (9, fs_y)), (yt, .inl (g 1, 2, .inl f_yt)), (yr, .inl (g 1, 2, .inl f_yr)), (lf, .inl (g 1, 2048, .inl f_lf))] sz)) 0 0 (va_A [(y, .inr (9, fs_y)), (yt, .inl (g 1, 2, .inl f_yt)), (yr, .inl (g 1, 2, .inl f_yr)), (lf, .inl (g 1, 2048, .inl f_lf))] sz) := by
  refine k_head (cc := cX9_letting) (maxL := 5) (ret := (some .int)) (by decide) rfl (Nat.le_of_ble_eq_true rfl) ?_
  intro p e s m below meth c ls A hx hb hr hlocks hml hown hin hts hA hP hK hD hS hl
  have hown : s.vm.findClass RX9 = some m.cls := hown
  have hl : lv_has ls 5 [(0, .ref y)] := hl
  refine lv_aload_n hx hb dX9_letting_0 rfl (lv_at hl 0 rfl) ?_
  refine k_goi (wr := []) hP hD hS hA [0, 1, 2, 3] [] rfl rfl (by decide) (by decide) (va_runV (As := []) (rest := []) ⟨hx, hb, hml, hown, hts⟩ (m_layLet l D g _ y yt yr lf fs_y f_yt f_yr f_lf h_y_rooms h_y_tenants h_y_bank h_y_letFrom h_yt_at0 h_yr_at0) (cwV 0 hts gX9_letting_X9_layLet rfl rfl rfl (by decide +kernel) ⟨Nat.le_of_ble_eq_true rfl, Nat.le_of_ble_eq_true rfl⟩) (k_preV hK (hP.sub [0, 1, 2, 3] rfl) (hD.sub [0, 1, 2, 3] (by decide) rfl) 9 0 rfl rfl) rfl rfl hl.1 rfl (lv_room (Nat.le_of_ble_eq_true rfl)) dX9_letting_1 ⟨Nat.le_of_ble_eq_true rfl, Nat.le_of_ble_eq_true rfl⟩) (fun r_1 u_2 H locs hw hP hD hS => ?_)
  rcases hw with ⟨f_3, c_4, rfl, rfl⟩
  have hP := hP.sub (ws' := [(y, .inr (9, fs_y)), (yt, .inl (g 1, 2, .inl f_yt)), (yr, .inl (g 1, 2, .inl f_yr)), (lf, .inl (g 1, 2048, .inl f_3))]) [0, 1, 2, 3] rfl
  have hD := hD.sub (ws' := [(y, .inr (9, fs_y)), (yt, .inl (g 1, 2, .inl f_yt)), (yr, .inl (g 1, 2, .inl f_yr)), (lf, .inl (g 1, 2048, .inl f_3))]) [0, 1, 2, 3] (by decide) rfl
  refine lv_istore_n (lv' := [(1, .int 0), (0, .ref y)]) hx hb dX9_letting_4 rfl hl (by decide) rfl (fun ls hl => ?_)
  refine lv_iconst (v := 0) hx hb dX9_letting_5 (by decide) ?_
  refine lv_istore_n (lv' := [(2, .int 0), (1, .int 0), (0, .ref y)]) hx hb dX9_letting_6 rfl hl (by decide) rfl (fun ls hl => ?_)
  refine lv_iconst (v := 0) hx hb dX9_letting_7 (by decide) ?_
  refine lv_istore_n (lv' := [(3, .int 0), (2, .int 0), (1, .int 0), (0, .ref y)]) hx hb dX9_letting_8 rfl hl (by decide) rfl (fun ls hl => ?_)
  refine lv_iload_n hx hb dX9_letting_9 rfl (lv_at hl 0 rfl) ?_
  refine lv_aload_n hx hb dX9_letting_10 rfl (lv_at hl 3 rfl) ?_
  refine k_goi (wr := [(yr, .inl (g 1, 2, .inl f_yr)), (lf, .inl (g 1, 2048, .inl f_3))]) hP hD hS hA [0, 1] [2, 3] rfl rfl (by decide) (by decide) (va_runV (As := []) (rest := [.int 0]) ⟨hx, hb, hml, hown, hts⟩ (m_many l D g _ y yt fs_y f_yt h_y_tenants h_y_bank h_yt_at0) (cwV 0 hts gX9_letting_X9_many rfl rfl rfl (by decide +kernel) ⟨Nat.le_of_ble_eq_true rfl, Nat.le_of_ble_eq_true rfl⟩) (k_preV hK (hP.sub [0, 1] rfl) (hD.sub [0, 1] (by decide) rfl) 9 0 rfl rfl) rfl rfl hl.1 rfl (lv_room (Nat.le_of_ble_eq_true rfl)) dX9_letting_11 ⟨Nat.le_of_ble_eq_true rfl, Nat.le_of_ble_eq_true rfl⟩) (fun r_5 u_6 H locs hw hP hD hS => ?_)
  rcases hw with ⟨rfl, rfl⟩
  have hP := hP.sub (ws' := [(y, .inr (9, fs_y)), (yt, .inl (g 1, 2, .inl f_yt)), (yr, .inl (g 1, 2, .inl f_yr)), (lf, .inl (g 1, 2048, .inl f_3))]) [2, 3, 0, 1] rfl
  have hD := hD.sub (ws' := [(y, .inr (9, fs_y)), (yt, .inl (g 1, 2, .inl f_yt)), (yr, .inl (g 1, 2, .inl f_yr)), (lf, .inl (g 1, 2048, .inl f_3))]) [2, 3, 0, 1] (by decide) rfl
  refine lv_icmp_ge (tgt := 139) hx hb dX9_letting_14 (by decide) (fun _ => ?_) (fun c9 => absurd (by first | decide | rfl) c9)
  refine lv_aload_n hx hb dX9_letting_139 rfl (lv_at hl 3 rfl) ?_
  refine lv_aload_n hx hb dX9_letting_140 rfl (lv_at hl 3 rfl) ?_
  refine k_goi (wr := [(yr, .inl (g 1, 2, .inl f_yr)), (lf, .inl (g 1, 2048, .inl f_3))]) hP hD hS hA [0, 1] [2, 3] rfl rfl (by decide) (by decide) (va_runV (As := []) (rest := [.ref y]) ⟨hx, hb, hml, hown, hts⟩ (m_many l D g _ y yt fs_y f_yt h_y_tenants h_y_bank h_yt_at0) (cwV 0 hts gX9_letting_X9_many rfl rfl rfl (by decide +kernel) ⟨Nat.le_of_ble_eq_true rfl, Nat.le_of_ble_eq_true rfl⟩) (k_preV hK (hP.sub [0, 1] rfl) (hD.sub [0, 1] (by decide) rfl) 9 0 rfl rfl) rfl rfl hl.1 rfl (lv_room (Nat.le_of_ble_eq_true rfl)) dX9_letting_141 ⟨Nat.le_of_ble_eq_true rfl, Nat.le_of_ble_eq_true rfl⟩) (fun r_7 u_8 H locs hw hP hD hS => ?_)
  rcases hw with ⟨rfl, rfl⟩
  have hP := hP.sub (ws' := [(y, .inr (9, fs_y)), (yt, .inl (g 1, 2, .inl f_yt)), (yr, .inl (g 1, 2, .inl f_yr)), (lf, .inl (g 1, 2048, .inl f_3))]) [2, 3, 0, 1] rfl
  have hD := hD.sub (ws' := [(y, .inr (9, fs_y)), (yt, .inl (g 1, 2, .inl f_yt)), (yr, .inl (g 1, 2, .inl f_yr)), (lf, .inl (g 1, 2048, .inl f_3))]) [2, 3, 0, 1] (by decide) rfl
  refine va_put (D := D) (ci := 9) (v := .int 0) (ty := .int) (C := RX9) (T := TX9) (N := 67) hx hb hts iX9_letting_X9 tyX9 tyX9_ok nmX9 hown hK hP hD hS 0 rfl rfl 54 (by decide) (hts (.fieldLink RX9 407 "CatLeasesModel" "laid" "I") (List.mem_of_getElem? (i := 3) rfl)) (fun _ h9 => h9) rfl (by decide +kernel) rfl rfl ((k_len h_y_laid)) dX9_letting_144 (fun H locs hP hD hS => ?_)
  have hP : va_P D vwCl [(y, .inr (9, (fs_y.set 54 (.int 0)))), (yt, .inl (g 1, 2, .inl f_yt)), (yr, .inl (g 1, 2, .inl f_yr)), (lf, .inl (g 1, 2048, .inl f_3))] H := hP
  have hD : va_D A [(y, .inr (9, (fs_y.set 54 (.int 0)))), (yt, .inl (g 1, 2, .inl f_yt)), (yr, .inl (g 1, 2, .inl f_yr)), (lf, .inl (g 1, 2048, .inl f_3))] := hD
  refine lv_iload_n hx hb dX9_letting_147 rfl (lv_at hl 2 rfl) ?_
  refine lv_ldcw (v := 100000) hx hb hown (hts (.constant RX9 512 (100000)) (List.mem_of_getElem? (i := 4) rfl)) dX9_letting_148 ?_
  refine lv_idiv hx hb dX9_letting_151 (by decide) ?_
  refine k_top (v := 0) (by decide) ?_
  exact k_iret hx hb hr hlocks hK hP hD hS rfl dX9_letting_152
set_option maxHeartbeats 4000000 in
set_option maxRecDepth 100000 in
theorem m_pleasure (l : Launch) (D : va_G) (g : Nat → ClassId) (sz : Nat) (y : Nat) (yt : Nat) (yr : Nat) (lf : Nat) (fs_y : List Value) (f_yt : Nat → Int32) (f_yr : Nat → Int32) (f_lf : Nat → Int32) (h_y_rooms : fs_y[12]? = some (.ref yr)) (h_y_tenants : fs_y[13]? = some (.ref yt)) (h_y_bank : fs_y[35]? = some (.int 0)) (h_y_letFrom : fs_y[55]? = some (.ref lf)) (h_yt_at0 : f_yt 0 = 0) (h_yr_at0 : f_yr 0 = 0) : Met l yX9_pleasure wsX9_pleasure ({ frames := 2, cells := 0, slots := 0, locals := 46 }) (va_Pc [.ref y] (kPre D g [(y, .inr (9, fs_y)), (yt, .inl (g 1, 2, .inl f_yt)), (yr, .inl (g 1, 2, .inl f_yr)), (lf, .inl (g 1, 2048, .inl f_lf))] sz)) (kQi D g (fun (r : Int32) (u : va_W) => 0 = r) (va_A [(y, .inr (9, fs_y)), (yt, .inl (g 1, 2, .inl f_yt)), (yr, .inl (g 1, 2, .inl f_yr)), (lf, .inl (g 1, 2048, .inl f_lf))] sz)) 0 0 (va_A [(y, .inr (9, fs_y)), (yt, .inl (g 1, 2, .inl f_yt)), (yr, .inl (g 1, 2, .inl f_yr)), (lf, .inl (g 1, 2048, .inl f_lf))] sz) := by
  refine k_head (cc := cX9_pleasure) (maxL := 1) (ret := (some .int)) (by decide) rfl (Nat.le_of_ble_eq_true rfl) ?_
  intro p e s m below meth c ls A hx hb hr hlocks hml hown hin hts hA hP hK hD hS hl
  have hown : s.vm.findClass RX9 = some m.cls := hown
  have hl : lv_has ls 1 [(0, .ref y)] := hl
  refine lv_aload_n hx hb dX9_pleasure_0 rfl (lv_at hl 0 rfl) ?_
  refine k_goi (wr := []) hP hD hS hA [0, 1, 2, 3] [] rfl rfl (by decide) (by decide) (va_runV (As := []) (rest := []) ⟨hx, hb, hml, hown, hts⟩ (m_layLet l D g _ y yt yr lf fs_y f_yt f_yr f_lf h_y_rooms h_y_tenants h_y_bank h_y_letFrom h_yt_at0 h_yr_at0) (cwV 0 hts gX9_pleasure_X9_layLet rfl rfl rfl (by decide +kernel) ⟨Nat.le_of_ble_eq_true rfl, Nat.le_of_ble_eq_true rfl⟩) (k_preV hK (hP.sub [0, 1, 2, 3] rfl) (hD.sub [0, 1, 2, 3] (by decide) rfl) 9 0 rfl rfl) rfl rfl hl.1 rfl (lv_room (Nat.le_of_ble_eq_true rfl)) dX9_pleasure_1 ⟨Nat.le_of_ble_eq_true rfl, Nat.le_of_ble_eq_true rfl⟩) (fun r_1 u_2 H locs hw hP hD hS => ?_)
  rcases hw with ⟨f_3, c_4, rfl, rfl⟩
  have hP := hP.sub (ws' := [(y, .inr (9, fs_y)), (yt, .inl (g 1, 2, .inl f_yt)), (yr, .inl (g 1, 2, .inl f_yr)), (lf, .inl (g 1, 2048, .inl f_3))]) [0, 1, 2, 3] rfl
  have hD := hD.sub (ws' := [(y, .inr (9, fs_y)), (yt, .inl (g 1, 2, .inl f_yt)), (yr, .inl (g 1, 2, .inl f_yr)), (lf, .inl (g 1, 2048, .inl f_3))]) [0, 1, 2, 3] (by decide) rfl
  refine lv_ldcw (v := 100000) hx hb hown (hts (.constant RX9 512 (100000)) (List.mem_of_getElem? (i := 1) rfl)) dX9_pleasure_4 ?_
  refine lv_irem hx hb dX9_pleasure_7 (by decide) ?_
  refine k_top (v := 0) (by decide) ?_
  exact k_iret hx hb hr hlocks hK hP hD hS rfl dX9_pleasure_8
