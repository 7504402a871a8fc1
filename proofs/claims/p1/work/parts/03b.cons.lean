set_option maxHeartbeats 4000000 in
set_option maxRecDepth 100000 in
theorem c_isCat (l : Launch) (D : va_G) (g : Nat → ClassId) (sz : Nat) (x : Nat) (p0 : Int32) (mw : Nat) (fs_x : List Value) (fs_mw : List Value) (h_x_mews : fs_x[3]? = some (.ref mw)) (h_mw_cats : fs_mw[0]? = some (.int 0)) : Met l yX8_isCat wsX8_isCat ({ frames := 0, cells := 0, slots := 0, locals := 0 }) (va_Pc [.ref x, .int p0] (kPre D g [(x, .inr (8, fs_x)), (mw, .inr (4, fs_mw))] sz)) (kQi D g (fun (r : Int32) (u : va_W) => 0 = r ∧ u = [(x, .inr (8, fs_x)), (mw, .inr (4, fs_mw))]) (va_A [(x, .inr (8, fs_x)), (mw, .inr (4, fs_mw))] sz)) 0 0 (va_A [(x, .inr (8, fs_x)), (mw, .inr (4, fs_mw))] sz) := by
  refine k_head (cc := cX8_isCat) (maxL := 2) (ret := (some .boolean)) (by decide) rfl (Nat.le_of_ble_eq_true rfl) ?_
  intro p e s m below meth c ls A hx hb hr hlocks hml hown hin hts hA hP hK hD hS hl
  have hown : s.vm.findClass RX8 = some m.cls := hown
  have hl : lv_has ls 2 [(0, .ref x), (1, .int p0)] := hl
  refine lv_iload_n hx hb dX8_isCat_0 rfl (lv_at hl 1 rfl) ?_
  refine lv_if_lt (tgt := 19) hx hb dX8_isCat_1 (by decide) (fun c_1 => ?_) (fun c_1 => ?_)
  · refine lv_iconst (v := 0) hx hb dX8_isCat_19 (by decide) ?_
    exact k_zret hx hb hr hlocks rfl hK hP hD hS ⟨rfl, rfl⟩ dX8_isCat_20
  · refine lv_iload_n hx hb dX8_isCat_4 rfl (lv_at hl 1 rfl) ?_
    refine lv_aload_n hx hb dX8_isCat_5 rfl (lv_at hl 0 rfl) ?_
    refine va_get (D := D) (ci := 8) (v := .ref mw) (C := RX8) (T := TX8) (N := 14) hx hb hts iX8_isCat_X8 hown hK hP 0 rfl rfl 3 (by decide) (hts (.fieldLink RX8 27 "CatLeases" "mews" "LCatLeases$Mews;") (List.mem_of_getElem? (i := 1) rfl)) (fun _ h9 => h9) h_x_mews dX8_isCat_6 ?_
    refine va_get (D := D) (ci := 4) (v := .int 0) (C := RX4) (T := TX4) (N := 11) hx hb hts iX8_isCat_X4 hown hK hP 1 rfl rfl 0 (by decide) (hts (.fieldLink RX8 170 "CatLeases$Mews" "cats" "I") (List.mem_of_getElem? (i := 2) rfl)) (fun _ h9 => h9) h_mw_cats dX8_isCat_9 ?_
    refine lv_icmp_ge (tgt := 19) hx hb dX8_isCat_12 (by decide) (fun c_2 => ?_) (fun c_2 => ?_)
    · refine lv_iconst (v := 0) hx hb dX8_isCat_19 (by decide) ?_
      exact k_zret hx hb hr hlocks rfl hK hP hD hS ⟨rfl, rfl⟩ dX8_isCat_20
    · exfalso; have k0 : (0 : Int32).toInt = 0 := (by decide); simp only [Int32.lt_iff_toInt_lt, Int32.le_iff_toInt_le, ← Int32.toInt_inj] at c_1 c_2; omega
set_option maxHeartbeats 4000000 in
set_option maxRecDepth 100000 in
theorem c_isRoom (l : Launch) (D : va_G) (g : Nat → ClassId) (sz : Nat) (x : Nat) (p0 : Int32) (mw : Nat) (fs_x : List Value) (fs_mw : List Value) (h_x_mews : fs_x[3]? = some (.ref mw)) (h_mw_rooms : fs_mw[1]? = some (.int 0)) : Met l yX8_isRoom wsX8_isRoom ({ frames := 0, cells := 0, slots := 0, locals := 0 }) (va_Pc [.ref x, .int p0] (kPre D g [(x, .inr (8, fs_x)), (mw, .inr (4, fs_mw))] sz)) (kQi D g (fun (r : Int32) (u : va_W) => 0 = r ∧ u = [(x, .inr (8, fs_x)), (mw, .inr (4, fs_mw))]) (va_A [(x, .inr (8, fs_x)), (mw, .inr (4, fs_mw))] sz)) 0 0 (va_A [(x, .inr (8, fs_x)), (mw, .inr (4, fs_mw))] sz) := by
  refine k_head (cc := cX8_isRoom) (maxL := 2) (ret := (some .boolean)) (by decide) rfl (Nat.le_of_ble_eq_true rfl) ?_
  intro p e s m below meth c ls A hx hb hr hlocks hml hown hin hts hA hP hK hD hS hl
  have hown : s.vm.findClass RX8 = some m.cls := hown
  have hl : lv_has ls 2 [(0, .ref x), (1, .int p0)] := hl
  refine lv_iload_n hx hb dX8_isRoom_0 rfl (lv_at hl 1 rfl) ?_
  refine lv_if_lt (tgt := 19) hx hb dX8_isRoom_1 (by decide) (fun c_1 => ?_) (fun c_1 => ?_)
  · refine lv_iconst (v := 0) hx hb dX8_isRoom_19 (by decide) ?_
    exact k_zret hx hb hr hlocks rfl hK hP hD hS ⟨rfl, rfl⟩ dX8_isRoom_20
  · refine lv_iload_n hx hb dX8_isRoom_4 rfl (lv_at hl 1 rfl) ?_
    refine lv_aload_n hx hb dX8_isRoom_5 rfl (lv_at hl 0 rfl) ?_
    refine va_get (D := D) (ci := 8) (v := .ref mw) (C := RX8) (T := TX8) (N := 14) hx hb hts iX8_isRoom_X8 hown hK hP 0 rfl rfl 3 (by decide) (hts (.fieldLink RX8 27 "CatLeases" "mews" "LCatLeases$Mews;") (List.mem_of_getElem? (i := 1) rfl)) (fun _ h9 => h9) h_x_mews dX8_isRoom_6 ?_
    refine va_get (D := D) (ci := 4) (v := .int 0) (C := RX4) (T := TX4) (N := 11) hx hb hts iX8_isRoom_X4 hown hK hP 1 rfl rfl 1 (by decide) (hts (.fieldLink RX8 173 "CatLeases$Mews" "rooms" "I") (List.mem_of_getElem? (i := 2) rfl)) (fun _ h9 => h9) h_mw_rooms dX8_isRoom_9 ?_
    refine lv_icmp_ge (tgt := 19) hx hb dX8_isRoom_12 (by decide) (fun c_2 => ?_) (fun c_2 => ?_)
    · refine lv_iconst (v := 0) hx hb dX8_isRoom_19 (by decide) ?_
      exact k_zret hx hb hr hlocks rfl hK hP hD hS ⟨rfl, rfl⟩ dX8_isRoom_20
    · exfalso; have k0 : (0 : Int32).toInt = 0 := (by decide); simp only [Int32.lt_iff_toInt_lt, Int32.le_iff_toInt_le, ← Int32.toInt_inj] at c_1 c_2; omega
set_option maxHeartbeats 4000000 in
set_option maxRecDepth 100000 in
theorem c_isTenant (l : Launch) (D : va_G) (g : Nat → ClassId) (sz : Nat) (x : Nat) (p0 : Int32) (mw : Nat) (fs_x : List Value) (fs_mw : List Value) (h_x_mews : fs_x[3]? = some (.ref mw)) (h_mw_tenants : fs_mw[2]? = some (.int 0)) : Met l yX8_isTenant wsX8_isTenant ({ frames := 0, cells := 0, slots := 0, locals := 0 }) (va_Pc [.ref x, .int p0] (kPre D g [(x, .inr (8, fs_x)), (mw, .inr (4, fs_mw))] sz)) (kQi D g (fun (r : Int32) (u : va_W) => 0 = r ∧ u = [(x, .inr (8, fs_x)), (mw, .inr (4, fs_mw))]) (va_A [(x, .inr (8, fs_x)), (mw, .inr (4, fs_mw))] sz)) 0 0 (va_A [(x, .inr (8, fs_x)), (mw, .inr (4, fs_mw))] sz) := by
  refine k_head (cc := cX8_isTenant) (maxL := 2) (ret := (some .boolean)) (by decide) rfl (Nat.le_of_ble_eq_true rfl) ?_
  intro p e s m below meth c ls A hx hb hr hlocks hml hown hin hts hA hP hK hD hS hl
  have hown : s.vm.findClass RX8 = some m.cls := hown
  have hl : lv_has ls 2 [(0, .ref x), (1, .int p0)] := hl
  refine lv_iload_n hx hb dX8_isTenant_0 rfl (lv_at hl 1 rfl) ?_
  refine lv_if_lt (tgt := 19) hx hb dX8_isTenant_1 (by decide) (fun c_1 => ?_) (fun c_1 => ?_)
  · refine lv_iconst (v := 0) hx hb dX8_isTenant_19 (by decide) ?_
    exact k_zret hx hb hr hlocks rfl hK hP hD hS ⟨rfl, rfl⟩ dX8_isTenant_20
  · refine lv_iload_n hx hb dX8_isTenant_4 rfl (lv_at hl 1 rfl) ?_
    refine lv_aload_n hx hb dX8_isTenant_5 rfl (lv_at hl 0 rfl) ?_
    refine va_get (D := D) (ci := 8) (v := .ref mw) (C := RX8) (T := TX8) (N := 14) hx hb hts iX8_isTenant_X8 hown hK hP 0 rfl rfl 3 (by decide) (hts (.fieldLink RX8 27 "CatLeases" "mews" "LCatLeases$Mews;") (List.mem_of_getElem? (i := 1) rfl)) (fun _ h9 => h9) h_x_mews dX8_isTenant_6 ?_
    refine va_get (D := D) (ci := 4) (v := .int 0) (C := RX4) (T := TX4) (N := 11) hx hb hts iX8_isTenant_X4 hown hK hP 1 rfl rfl 2 (by decide) (hts (.fieldLink RX8 102 "CatLeases$Mews" "tenants" "I") (List.mem_of_getElem? (i := 2) rfl)) (fun _ h9 => h9) h_mw_tenants dX8_isTenant_9 ?_
    refine lv_icmp_ge (tgt := 19) hx hb dX8_isTenant_12 (by decide) (fun c_2 => ?_) (fun c_2 => ?_)
    · refine lv_iconst (v := 0) hx hb dX8_isTenant_19 (by decide) ?_
      exact k_zret hx hb hr hlocks rfl hK hP hD hS ⟨rfl, rfl⟩ dX8_isTenant_20
    · exfalso; have k0 : (0 : Int32).toInt = 0 := (by decide); simp only [Int32.lt_iff_toInt_lt, Int32.le_iff_toInt_le, ← Int32.toInt_inj] at c_1 c_2; omega
set_option maxHeartbeats 4000000 in
set_option maxRecDepth 100000 in
theorem c_current (l : Launch) (D : va_G) (g : Nat → ClassId) (sz : Nat) (ac : Nat) (sa : Nat) (s0 : Nat) (fs_ac : List Value) (f_sa : Nat → Option Nat) (h_ac_states : fs_ac[2]? = some (.ref sa)) (h_ac_index : fs_ac[3]? = some (.int 0)) (h_sa_at0 : f_sa 0 = some s0) : Met l yX0_current wsX0_current ({ frames := 0, cells := 0, slots := 0, locals := 0 }) (va_Pc [.ref ac] (kPre D g [(ac, .inr (0, fs_ac)), (sa, .inl (g 4, 41, .inr (.inr (.inr (.inr f_sa)))))] sz)) (kQr D g (fun (r : Nat) (u : va_W) => s0 = r ∧ u = [(ac, .inr (0, fs_ac)), (sa, .inl (g 4, 41, .inr (.inr (.inr (.inr f_sa)))))]) (va_A [(ac, .inr (0, fs_ac)), (sa, .inl (g 4, 41, .inr (.inr (.inr (.inr f_sa)))))] sz)) 0 0 (va_A [(ac, .inr (0, fs_ac)), (sa, .inl (g 4, 41, .inr (.inr (.inr (.inr f_sa)))))] sz) := by
  refine k_head (cc := cX0_current) (maxL := 1) (ret := (some (.object "CatLeases$State"))) (by decide) rfl (Nat.le_of_ble_eq_true rfl) ?_
  intro p e s m below meth c ls A hx hb hr hlocks hml hown hin hts hA hP hK hD hS hl
  have hown : s.vm.findClass RX0 = some m.cls := hown
  have hl : lv_has ls 1 [(0, .ref ac)] := hl
  refine lv_aload_n hx hb dX0_current_0 rfl (lv_at hl 0 rfl) ?_
  refine va_get (D := D) (ci := 0) (v := .ref sa) (C := RX0) (T := TX0) (N := 4) hx hb hts iX0_current_X0 hown hK hP 0 rfl rfl 2 (by decide) (hts (.fieldLink RX0 20 "CatLeases$Acts" "states" "[LCatLeases$State;") (List.mem_of_getElem? (i := 1) rfl)) (fun _ h9 => h9) h_ac_states dX0_current_1 ?_
  refine lv_aload_n hx hb dX0_current_4 rfl (lv_at hl 0 rfl) ?_
  refine va_get (D := D) (ci := 0) (v := .int 0) (C := RX0) (T := TX0) (N := 4) hx hb hts iX0_current_X0 hown hK hP 0 rfl rfl 3 (by decide) (hts (.fieldLink RX0 24 "CatLeases$Acts" "index" "I") (List.mem_of_getElem? (i := 2) rfl)) (fun _ h9 => h9) h_ac_index dX0_current_5 ?_
  refine va_aldq hx hb hK hP 1 4 rfl rfl (k_in (i := 0) (n := 41) (by decide)) dX0_current_8 ?_
  refine k_topq (v := s0) h_sa_at0 ?_
  exact k_aret hx hb hr (Or.inl ⟨_, rfl⟩) hlocks hK hP hD hS ⟨rfl, rfl⟩ dX0_current_9
set_option maxHeartbeats 4000000 in
set_option maxRecDepth 100000 in
theorem c_isLivingCat (l : Launch) (D : va_G) (g : Nat → ClassId) (sz : Nat) (x : Nat) (p0 : Int32) (mw : Nat) (fs_x : List Value) (fs_mw : List Value) (h_x_mews : fs_x[3]? = some (.ref mw)) (h_mw_cats : fs_mw[0]? = some (.int 0)) : Met l yX8_isLivingCat wsX8_isLivingCat ({ frames := 1, cells := 0, slots := 0, locals := 21 }) (va_Pc [.ref x, .int p0] (kPre D g [(x, .inr (8, fs_x)), (mw, .inr (4, fs_mw))] sz)) (kQi D g (fun (r : Int32) (u : va_W) => 0 = r ∧ u = [(x, .inr (8, fs_x)), (mw, .inr (4, fs_mw))]) (va_A [(x, .inr (8, fs_x)), (mw, .inr (4, fs_mw))] sz)) 0 0 (va_A [(x, .inr (8, fs_x)), (mw, .inr (4, fs_mw))] sz) := by
  refine k_head (cc := cX8_isLivingCat) (maxL := 2) (ret := (some .boolean)) (by decide) rfl (Nat.le_of_ble_eq_true rfl) ?_
  intro p e s m below meth c ls A hx hb hr hlocks hml hown hin hts hA hP hK hD hS hl
  have hown : s.vm.findClass RX8 = some m.cls := hown
  have hl : lv_has ls 2 [(0, .ref x), (1, .int p0)] := hl
  refine lv_aload_n hx hb dX8_isLivingCat_0 rfl (lv_at hl 0 rfl) ?_
  refine lv_iload_n hx hb dX8_isLivingCat_1 rfl (lv_at hl 1 rfl) ?_
  refine k_goi (wr := []) hP hD hS hA [0, 1] [] rfl rfl (by decide) (by decide) (va_runV (As := [.int p0]) (rest := []) ⟨hx, hb, hml, hown, hts⟩ (c_isCat l D g _ x p0 mw fs_x fs_mw h_x_mews h_mw_cats) (cwV 1 hts gX8_isLivingCat_X8_isCat rfl rfl rfl (by decide +kernel) ⟨Nat.le_of_ble_eq_true rfl, Nat.le_of_ble_eq_true rfl⟩) (k_preV hK (hP.sub [0, 1] rfl) (hD.sub [0, 1] (by decide) rfl) 8 0 rfl rfl) rfl rfl hl.1 rfl (lv_room (Nat.le_of_ble_eq_true rfl)) dX8_isLivingCat_2 ⟨Nat.le_of_ble_eq_true rfl, Nat.le_of_ble_eq_true rfl⟩) (fun r_1 u_2 H locs hw hP hD hS => ?_)
  rcases hw with ⟨rfl, rfl⟩
  have hP := hP.sub (ws' := [(x, .inr (8, fs_x)), (mw, .inr (4, fs_mw))]) [0, 1] rfl
  have hD := hD.sub (ws' := [(x, .inr (8, fs_x)), (mw, .inr (4, fs_mw))]) [0, 1] (by decide) rfl
  refine lv_if_eq (tgt := 26) hx hb dX8_isLivingCat_5 (by decide) (fun _ => ?_) (fun c9 => absurd (by first | decide | rfl) c9)
  refine lv_iconst (v := 0) hx hb dX8_isLivingCat_26 (by decide) ?_
  exact k_zret hx hb hr hlocks rfl hK hP hD hS ⟨rfl, rfl⟩ dX8_isLivingCat_27
set_option maxHeartbeats 4000000 in
set_option maxRecDepth 100000 in
theorem c_isHoused (l : Launch) (D : va_G) (g : Nat → ClassId) (sz : Nat) (x : Nat) (p0 : Int32) (mw : Nat) (fs_x : List Value) (fs_mw : List Value) (h_x_mews : fs_x[3]? = some (.ref mw)) (h_mw_tenants : fs_mw[2]? = some (.int 0)) : Met l yX8_isHoused wsX8_isHoused ({ frames := 1, cells := 0, slots := 0, locals := 21 }) (va_Pc [.ref x, .int p0] (kPre D g [(x, .inr (8, fs_x)), (mw, .inr (4, fs_mw))] sz)) (kQi D g (fun (r : Int32) (u : va_W) => 0 = r ∧ u = [(x, .inr (8, fs_x)), (mw, .inr (4, fs_mw))]) (va_A [(x, .inr (8, fs_x)), (mw, .inr (4, fs_mw))] sz)) 0 0 (va_A [(x, .inr (8, fs_x)), (mw, .inr (4, fs_mw))] sz) := by
  refine k_head (cc := cX8_isHoused) (maxL := 2) (ret := (some .boolean)) (by decide) rfl (Nat.le_of_ble_eq_true rfl) ?_
  intro p e s m below meth c ls A hx hb hr hlocks hml hown hin hts hA hP hK hD hS hl
  have hown : s.vm.findClass RX8 = some m.cls := hown
  have hl : lv_has ls 2 [(0, .ref x), (1, .int p0)] := hl
  refine lv_aload_n hx hb dX8_isHoused_0 rfl (lv_at hl 0 rfl) ?_
  refine lv_iload_n hx hb dX8_isHoused_1 rfl (lv_at hl 1 rfl) ?_
  refine k_goi (wr := []) hP hD hS hA [0, 1] [] rfl rfl (by decide) (by decide) (va_runV (As := [.int p0]) (rest := []) ⟨hx, hb, hml, hown, hts⟩ (c_isTenant l D g _ x p0 mw fs_x fs_mw h_x_mews h_mw_tenants) (cwV 1 hts gX8_isHoused_X8_isTenant rfl rfl rfl (by decide +kernel) ⟨Nat.le_of_ble_eq_true rfl, Nat.le_of_ble_eq_true rfl⟩) (k_preV hK (hP.sub [0, 1] rfl) (hD.sub [0, 1] (by decide) rfl) 8 0 rfl rfl) rfl rfl hl.1 rfl (lv_room (Nat.le_of_ble_eq_true rfl)) dX8_isHoused_2 ⟨Nat.le_of_ble_eq_true rfl, Nat.le_of_ble_eq_true rfl⟩) (fun r_1 u_2 H locs hw hP hD hS => ?_)
  rcases hw with ⟨rfl, rfl⟩
  have hP := hP.sub (ws' := [(x, .inr (8, fs_x)), (mw, .inr (4, fs_mw))]) [0, 1] rfl
  have hD := hD.sub (ws' := [(x, .inr (8, fs_x)), (mw, .inr (4, fs_mw))]) [0, 1] (by decide) rfl
  refine lv_if_eq (tgt := 28) hx hb dX8_isHoused_5 (by decide) (fun _ => ?_) (fun c9 => absurd (by first | decide | rfl) c9)
  refine lv_iconst (v := 0) hx hb dX8_isHoused_28 (by decide) ?_
  exact k_zret hx hb hr hlocks rfl hK hP hD hS ⟨rfl, rfl⟩ dX8_isHoused_29
set_option maxHeartbeats 4000000 in
set_option maxRecDepth 100000 in
theorem c_isOut (l : Launch) (D : va_G) (g : Nat → ClassId) (sz : Nat) (x : Nat) (p0 : Int32) (mw : Nat) (fs_x : List Value) (fs_mw : List Value) (h_x_mews : fs_x[3]? = some (.ref mw)) (h_mw_tenants : fs_mw[2]? = some (.int 0)) : Met l yX8_isOut wsX8_isOut ({ frames := 1, cells := 0, slots := 0, locals := 21 }) (va_Pc [.ref x, .int p0] (kPre D g [(x, .inr (8, fs_x)), (mw, .inr (4, fs_mw))] sz)) (kQi D g (fun (r : Int32) (u : va_W) => 0 = r ∧ u = [(x, .inr (8, fs_x)), (mw, .inr (4, fs_mw))]) (va_A [(x, .inr (8, fs_x)), (mw, .inr (4, fs_mw))] sz)) 0 0 (va_A [(x, .inr (8, fs_x)), (mw, .inr (4, fs_mw))] sz) := by
  refine k_head (cc := cX8_isOut) (maxL := 2) (ret := (some .boolean)) (by decide) rfl (Nat.le_of_ble_eq_true rfl) ?_
  intro p e s m below meth c ls A hx hb hr hlocks hml hown hin hts hA hP hK hD hS hl
  have hown : s.vm.findClass RX8 = some m.cls := hown
  have hl : lv_has ls 2 [(0, .ref x), (1, .int p0)] := hl
  refine lv_aload_n hx hb dX8_isOut_0 rfl (lv_at hl 0 rfl) ?_
  refine lv_iload_n hx hb dX8_isOut_1 rfl (lv_at hl 1 rfl) ?_
  refine k_goi (wr := []) hP hD hS hA [0, 1] [] rfl rfl (by decide) (by decide) (va_runV (As := [.int p0]) (rest := []) ⟨hx, hb, hml, hown, hts⟩ (c_isTenant l D g _ x p0 mw fs_x fs_mw h_x_mews h_mw_tenants) (cwV 1 hts gX8_isOut_X8_isTenant rfl rfl rfl (by decide +kernel) ⟨Nat.le_of_ble_eq_true rfl, Nat.le_of_ble_eq_true rfl⟩) (k_preV hK (hP.sub [0, 1] rfl) (hD.sub [0, 1] (by decide) rfl) 8 0 rfl rfl) rfl rfl hl.1 rfl (lv_room (Nat.le_of_ble_eq_true rfl)) dX8_isOut_2 ⟨Nat.le_of_ble_eq_true rfl, Nat.le_of_ble_eq_true rfl⟩) (fun r_1 u_2 H locs hw hP hD hS => ?_)
  rcases hw with ⟨rfl, rfl⟩
  have hP := hP.sub (ws' := [(x, .inr (8, fs_x)), (mw, .inr (4, fs_mw))]) [0, 1] rfl
  have hD := hD.sub (ws' := [(x, .inr (8, fs_x)), (mw, .inr (4, fs_mw))]) [0, 1] (by decide) rfl
  refine lv_if_eq (tgt := 28) hx hb dX8_isOut_5 (by decide) (fun _ => ?_) (fun c9 => absurd (by first | decide | rfl) c9)
  refine lv_iconst (v := 0) hx hb dX8_isOut_28 (by decide) ?_
  exact k_zret hx hb hr hlocks rfl hK hP hD hS ⟨rfl, rfl⟩ dX8_isOut_29
set_option maxHeartbeats 4000000 in
set_option maxRecDepth 100000 in
theorem c_isInKeptRoom (l : Launch) (D : va_G) (g : Nat → ClassId) (sz : Nat) (x : Nat) (p0 : Int32) (mw : Nat) (ac : Nat) (sa : Nat) (s0 : Nat) (fs_x : List Value) (fs_mw : List Value) (fs_ac : List Value) (f_sa : Nat → Option Nat) (h_x_mews : fs_x[3]? = some (.ref mw)) (h_x_acts : fs_x[4]? = some (.ref ac)) (h_mw_tenants : fs_mw[2]? = some (.int 0)) (h_ac_states : fs_ac[2]? = some (.ref sa)) (h_ac_index : fs_ac[3]? = some (.int 0)) (h_sa_at0 : f_sa 0 = some s0) : Met l yX8_isInKeptRoom wsX8_isInKeptRoom ({ frames := 1, cells := 0, slots := 0, locals := 21 }) (va_Pc [.ref x, .int p0] (kPre D g [(x, .inr (8, fs_x)), (mw, .inr (4, fs_mw)), (ac, .inr (0, fs_ac)), (sa, .inl (g 4, 41, .inr (.inr (.inr (.inr f_sa)))))] sz)) (kQi D g (fun (r : Int32) (u : va_W) => 0 = r ∧ u = [(x, .inr (8, fs_x)), (mw, .inr (4, fs_mw)), (ac, .inr (0, fs_ac)), (sa, .inl (g 4, 41, .inr (.inr (.inr (.inr f_sa)))))]) (va_A [(x, .inr (8, fs_x)), (mw, .inr (4, fs_mw)), (ac, .inr (0, fs_ac)), (sa, .inl (g 4, 41, .inr (.inr (.inr (.inr f_sa)))))] sz)) 0 0 (va_A [(x, .inr (8, fs_x)), (mw, .inr (4, fs_mw)), (ac, .inr (0, fs_ac)), (sa, .inl (g 4, 41, .inr (.inr (.inr (.inr f_sa)))))] sz) := by
  refine k_head (cc := cX8_isInKeptRoom) (maxL := 3) (ret := (some .boolean)) (by decide) rfl (Nat.le_of_ble_eq_true rfl) ?_
  intro p e s m below meth c ls A hx hb hr hlocks hml hown hin hts hA hP hK hD hS hl
  have hown : s.vm.findClass RX8 = some m.cls := hown
  have hl : lv_has ls 3 [(0, .ref x), (1, .int p0)] := hl
  refine lv_aload_n hx hb dX8_isInKeptRoom_0 rfl (lv_at hl 0 rfl) ?_
  refine va_get (D := D) (ci := 8) (v := .ref ac) (C := RX8) (T := TX8) (N := 14) hx hb hts iX8_isInKeptRoom_X8 hown hK hP 0 rfl rfl 4 (by decide) (hts (.fieldLink RX8 34 "CatLeases" "acts" "LCatLeases$Acts;") (List.mem_of_getElem? (i := 1) rfl)) (fun _ h9 => h9) h_x_acts dX8_isInKeptRoom_1 ?_
  refine k_gor (wr := [(x, .inr (8, fs_x)), (mw, .inr (4, fs_mw))]) hP hD hS hA [2, 3] [0, 1] rfl rfl (by decide) (by decide) (va_runV (As := []) (rest := []) ⟨hx, hb, hml, hown, hts⟩ (c_current l D g _ ac sa s0 fs_ac f_sa h_ac_states h_ac_index h_sa_at0) (cwV 0 hts gX8_isInKeptRoom_X0_current rfl rfl rfl (by decide +kernel) ⟨Nat.le_of_ble_eq_true rfl, Nat.le_of_ble_eq_true rfl⟩) (k_preV hK (hP.sub [2, 3] rfl) (hD.sub [2, 3] (by decide) rfl) 0 0 rfl rfl) rfl rfl hl.1 rfl (lv_room (Nat.le_of_ble_eq_true rfl)) dX8_isInKeptRoom_4 ⟨Nat.le_of_ble_eq_true rfl, Nat.le_of_ble_eq_true rfl⟩) (fun r_1 u_2 H locs hw hP hD hS => ?_)
  rcases hw with ⟨rfl, rfl⟩
  have hP := hP.sub (ws' := [(x, .inr (8, fs_x)), (mw, .inr (4, fs_mw)), (ac, .inr (0, fs_ac)), (sa, .inl (g 4, 41, .inr (.inr (.inr (.inr f_sa)))))]) [0, 1, 2, 3] rfl
  have hD := hD.sub (ws' := [(x, .inr (8, fs_x)), (mw, .inr (4, fs_mw)), (ac, .inr (0, fs_ac)), (sa, .inl (g 4, 41, .inr (.inr (.inr (.inr f_sa)))))]) [0, 1, 2, 3] (by decide) rfl
  refine lv_astore_n (lv' := [(2, .ref s0), (0, .ref x), (1, .int p0)]) hx hb dX8_isInKeptRoom_7 rfl hl (by decide) rfl (fun ls hl => ?_)
  refine lv_aload_n hx hb dX8_isInKeptRoom_8 rfl (lv_at hl 1 rfl) ?_
  refine lv_iload_n hx hb dX8_isInKeptRoom_9 rfl (lv_at hl 2 rfl) ?_
  refine k_goi (wr := [(ac, .inr (0, fs_ac)), (sa, .inl (g 4, 41, .inr (.inr (.inr (.inr f_sa)))))]) hP hD hS hA [0, 1] [2, 3] rfl rfl (by decide) (by decide) (va_runV (As := [.int p0]) (rest := []) ⟨hx, hb, hml, hown, hts⟩ (c_isTenant l D g _ x p0 mw fs_x fs_mw h_x_mews h_mw_tenants) (cwV 1 hts gX8_isInKeptRoom_X8_isTenant rfl rfl rfl (by decide +kernel) ⟨Nat.le_of_ble_eq_true rfl, Nat.le_of_ble_eq_true rfl⟩) (k_preV hK (hP.sub [0, 1] rfl) (hD.sub [0, 1] (by decide) rfl) 8 0 rfl rfl) rfl rfl hl.1 rfl (lv_room (Nat.le_of_ble_eq_true rfl)) dX8_isInKeptRoom_10 ⟨Nat.le_of_ble_eq_true rfl, Nat.le_of_ble_eq_true rfl⟩) (fun r_3 u_4 H locs hw hP hD hS => ?_)
  rcases hw with ⟨rfl, rfl⟩
  have hP := hP.sub (ws' := [(x, .inr (8, fs_x)), (mw, .inr (4, fs_mw)), (ac, .inr (0, fs_ac)), (sa, .inl (g 4, 41, .inr (.inr (.inr (.inr f_sa)))))]) [2, 3, 0, 1] rfl
  have hD := hD.sub (ws' := [(x, .inr (8, fs_x)), (mw, .inr (4, fs_mw)), (ac, .inr (0, fs_ac)), (sa, .inl (g 4, 41, .inr (.inr (.inr (.inr f_sa)))))]) [2, 3, 0, 1] (by decide) rfl
  refine lv_if_eq (tgt := 33) hx hb dX8_isInKeptRoom_13 (by decide) (fun _ => ?_) (fun c9 => absurd (by first | decide | rfl) c9)
  refine lv_iconst (v := 0) hx hb dX8_isInKeptRoom_33 (by decide) ?_
  exact k_zret hx hb hr hlocks rfl hK hP hD hS ⟨rfl, rfl⟩ dX8_isInKeptRoom_34
set_option maxHeartbeats 4000000 in
set_option maxRecDepth 100000 in
theorem c_cat (l : Launch) (D : va_G) (g : Nat → ClassId) (sz : Nat) (x : Nat) (p0 : Int32) (p1 : Int32) (mw : Nat) (fs_x : List Value) (fs_mw : List Value) (h_x_mews : fs_x[3]? = some (.ref mw)) (h_mw_cats : fs_mw[0]? = some (.int 0)) : Met l yX8_cat wsX8_cat ({ frames := 1, cells := 0, slots := 0, locals := 21 }) (va_Pc [.ref x, .int p0, .int p1] (kPre D g [(x, .inr (8, fs_x)), (mw, .inr (4, fs_mw))] sz)) (kQi D g (fun (r : Int32) (u : va_W) => (-2) = r) (va_A [(x, .inr (8, fs_x)), (mw, .inr (4, fs_mw))] sz)) 0 0 (va_A [(x, .inr (8, fs_x)), (mw, .inr (4, fs_mw))] sz) := by
  refine k_head (cc := cX8_cat) (maxL := 4) (ret := (some .int)) (by decide) rfl (Nat.le_of_ble_eq_true rfl) ?_
  intro p e s m below meth c ls A hx hb hr hlocks hml hown hin hts hA hP hK hD hS hl
  have hown : s.vm.findClass RX8 = some m.cls := hown
  have hl : lv_has ls 4 [(0, .ref x), (1, .int p0), (2, .int p1)] := hl
  refine lv_aload_n hx hb dX8_cat_0 rfl (lv_at hl 0 rfl) ?_
  refine lv_iload_n hx hb dX8_cat_1 rfl (lv_at hl 1 rfl) ?_
  refine k_goi (wr := []) hP hD hS hA [0, 1] [] rfl rfl (by decide) (by decide) (va_runV (As := [.int p0]) (rest := []) ⟨hx, hb, hml, hown, hts⟩ (c_isCat l D g _ x p0 mw fs_x fs_mw h_x_mews h_mw_cats) (cwV 1 hts gX8_cat_X8_isCat rfl rfl rfl (by decide +kernel) ⟨Nat.le_of_ble_eq_true rfl, Nat.le_of_ble_eq_true rfl⟩) (k_preV hK (hP.sub [0, 1] rfl) (hD.sub [0, 1] (by decide) rfl) 8 0 rfl rfl) rfl rfl hl.1 rfl (lv_room (Nat.le_of_ble_eq_true rfl)) dX8_cat_2 ⟨Nat.le_of_ble_eq_true rfl, Nat.le_of_ble_eq_true rfl⟩) (fun r_1 u_2 H locs hw hP hD hS => ?_)
  rcases hw with ⟨rfl, rfl⟩
  have hP := hP.sub (ws' := [(x, .inr (8, fs_x)), (mw, .inr (4, fs_mw))]) [0, 1] rfl
  have hD := hD.sub (ws' := [(x, .inr (8, fs_x)), (mw, .inr (4, fs_mw))]) [0, 1] (by decide) rfl
  refine lv_if_ne (tgt := 11) hx hb dX8_cat_5 (by decide) (fun c9 => absurd (by first | decide | rfl) c9) (fun _ => ?_)
  refine lv_bipush (v := (-2)) hx hb dX8_cat_8 (by decide) ?_
  exact k_iret hx hb hr hlocks hK hP hD hS rfl dX8_cat_10
set_option maxHeartbeats 4000000 in
set_option maxRecDepth 100000 in
theorem c_room (l : Launch) (D : va_G) (g : Nat → ClassId) (sz : Nat) (x : Nat) (p0 : Int32) (p1 : Int32) (mw : Nat) (fs_x : List Value) (fs_mw : List Value) (h_x_mews : fs_x[3]? = some (.ref mw)) (h_mw_rooms : fs_mw[1]? = some (.int 0)) : Met l yX8_room wsX8_room ({ frames := 1, cells := 0, slots := 0, locals := 21 }) (va_Pc [.ref x, .int p0, .int p1] (kPre D g [(x, .inr (8, fs_x)), (mw, .inr (4, fs_mw))] sz)) (kQi D g (fun (r : Int32) (u : va_W) => (-2) = r) (va_A [(x, .inr (8, fs_x)), (mw, .inr (4, fs_mw))] sz)) 0 0 (va_A [(x, .inr (8, fs_x)), (mw, .inr (4, fs_mw))] sz) := by
  refine k_head (cc := cX8_room) (maxL := 4) (ret := (some .int)) (by decide) rfl (Nat.le_of_ble_eq_true rfl) ?_
  intro p e s m below meth c ls A hx hb hr hlocks hml hown hin hts hA hP hK hD hS hl
  have hown : s.vm.findClass RX8 = some m.cls := hown
  have hl : lv_has ls 4 [(0, .ref x), (1, .int p0), (2, .int p1)] := hl
  refine lv_aload_n hx hb dX8_room_0 rfl (lv_at hl 0 rfl) ?_
  refine lv_iload_n hx hb dX8_room_1 rfl (lv_at hl 1 rfl) ?_
  refine k_goi (wr := []) hP hD hS hA [0, 1] [] rfl rfl (by decide) (by decide) (va_runV (As := [.int p0]) (rest := []) ⟨hx, hb, hml, hown, hts⟩ (c_isRoom l D g _ x p0 mw fs_x fs_mw h_x_mews h_mw_rooms) (cwV 1 hts gX8_room_X8_isRoom rfl rfl rfl (by decide +kernel) ⟨Nat.le_of_ble_eq_true rfl, Nat.le_of_ble_eq_true rfl⟩) (k_preV hK (hP.sub [0, 1] rfl) (hD.sub [0, 1] (by decide) rfl) 8 0 rfl rfl) rfl rfl hl.1 rfl (lv_room (Nat.le_of_ble_eq_true rfl)) dX8_room_2 ⟨Nat.le_of_ble_eq_true rfl, Nat.le_of_ble_eq_true rfl⟩) (fun r_1 u_2 H locs hw hP hD hS => ?_)
  rcases hw with ⟨rfl, rfl⟩
  have hP := hP.sub (ws' := [(x, .inr (8, fs_x)), (mw, .inr (4, fs_mw))]) [0, 1] rfl
  have hD := hD.sub (ws' := [(x, .inr (8, fs_x)), (mw, .inr (4, fs_mw))]) [0, 1] (by decide) rfl
  refine lv_if_ne (tgt := 11) hx hb dX8_room_5 (by decide) (fun c9 => absurd (by first | decide | rfl) c9) (fun _ => ?_)
  refine lv_bipush (v := (-2)) hx hb dX8_room_8 (by decide) ?_
  exact k_iret hx hb hr hlocks hK hP hD hS rfl dX8_room_10
set_option maxHeartbeats 4000000 in
set_option maxRecDepth 100000 in
theorem c_tenant (l : Launch) (D : va_G) (g : Nat → ClassId) (sz : Nat) (x : Nat) (p0 : Int32) (p1 : Int32) (mw : Nat) (fs_x : List Value) (fs_mw : List Value) (h_x_mews : fs_x[3]? = some (.ref mw)) (h_mw_tenants : fs_mw[2]? = some (.int 0)) : Met l yX8_tenant wsX8_tenant ({ frames := 1, cells := 0, slots := 0, locals := 21 }) (va_Pc [.ref x, .int p0, .int p1] (kPre D g [(x, .inr (8, fs_x)), (mw, .inr (4, fs_mw))] sz)) (kQi D g (fun (r : Int32) (u : va_W) => (-2) = r) (va_A [(x, .inr (8, fs_x)), (mw, .inr (4, fs_mw))] sz)) 0 0 (va_A [(x, .inr (8, fs_x)), (mw, .inr (4, fs_mw))] sz) := by
  refine k_head (cc := cX8_tenant) (maxL := 4) (ret := (some .int)) (by decide) rfl (Nat.le_of_ble_eq_true rfl) ?_
  intro p e s m below meth c ls A hx hb hr hlocks hml hown hin hts hA hP hK hD hS hl
  have hown : s.vm.findClass RX8 = some m.cls := hown
  have hl : lv_has ls 4 [(0, .ref x), (1, .int p0), (2, .int p1)] := hl
  refine lv_aload_n hx hb dX8_tenant_0 rfl (lv_at hl 0 rfl) ?_
  refine lv_iload_n hx hb dX8_tenant_1 rfl (lv_at hl 1 rfl) ?_
  refine k_goi (wr := []) hP hD hS hA [0, 1] [] rfl rfl (by decide) (by decide) (va_runV (As := [.int p0]) (rest := []) ⟨hx, hb, hml, hown, hts⟩ (c_isTenant l D g _ x p0 mw fs_x fs_mw h_x_mews h_mw_tenants) (cwV 1 hts gX8_tenant_X8_isTenant rfl rfl rfl (by decide +kernel) ⟨Nat.le_of_ble_eq_true rfl, Nat.le_of_ble_eq_true rfl⟩) (k_preV hK (hP.sub [0, 1] rfl) (hD.sub [0, 1] (by decide) rfl) 8 0 rfl rfl) rfl rfl hl.1 rfl (lv_room (Nat.le_of_ble_eq_true rfl)) dX8_tenant_2 ⟨Nat.le_of_ble_eq_true rfl, Nat.le_of_ble_eq_true rfl⟩) (fun r_1 u_2 H locs hw hP hD hS => ?_)
  rcases hw with ⟨rfl, rfl⟩
  have hP := hP.sub (ws' := [(x, .inr (8, fs_x)), (mw, .inr (4, fs_mw))]) [0, 1] rfl
  have hD := hD.sub (ws' := [(x, .inr (8, fs_x)), (mw, .inr (4, fs_mw))]) [0, 1] (by decide) rfl
  refine lv_if_ne (tgt := 11) hx hb dX8_tenant_5 (by decide) (fun c9 => absurd (by first | decide | rfl) c9) (fun _ => ?_)
  refine lv_bipush (v := (-2)) hx hb dX8_tenant_8 (by decide) ?_
  exact k_iret hx hb hr hlocks hK hP hD hS rfl dX8_tenant_10
set_option maxHeartbeats 4000000 in
set_option maxRecDepth 100000 in
theorem c_liking (l : Launch) (D : va_G) (g : Nat → ClassId) (sz : Nat) (x : Nat) (p0 : Int32) (p1 : Int32) (mw : Nat) (ac : Nat) (sa : Nat) (s0 : Nat) (fs_x : List Value) (fs_mw : List Value) (fs_ac : List Value) (f_sa : Nat → Option Nat) (h_x_mews : fs_x[3]? = some (.ref mw)) (h_x_acts : fs_x[4]? = some (.ref ac)) (h_mw_tenants : fs_mw[2]? = some (.int 0)) (h_ac_states : fs_ac[2]? = some (.ref sa)) (h_ac_index : fs_ac[3]? = some (.int 0)) (h_sa_at0 : f_sa 0 = some s0) : Met l yX8_liking wsX8_liking ({ frames := 1, cells := 0, slots := 0, locals := 21 }) (va_Pc [.ref x, .int p0, .int p1] (kPre D g [(x, .inr (8, fs_x)), (mw, .inr (4, fs_mw)), (ac, .inr (0, fs_ac)), (sa, .inl (g 4, 41, .inr (.inr (.inr (.inr f_sa)))))] sz)) (kQi D g (fun (r : Int32) (u : va_W) => (-1000000000) = r) (va_A [(x, .inr (8, fs_x)), (mw, .inr (4, fs_mw)), (ac, .inr (0, fs_ac)), (sa, .inl (g 4, 41, .inr (.inr (.inr (.inr f_sa)))))] sz)) 0 0 (va_A [(x, .inr (8, fs_x)), (mw, .inr (4, fs_mw)), (ac, .inr (0, fs_ac)), (sa, .inl (g 4, 41, .inr (.inr (.inr (.inr f_sa)))))] sz) := by
  refine k_head (cc := cX8_liking) (maxL := 4) (ret := (some .int)) (by decide) rfl (Nat.le_of_ble_eq_true rfl) ?_
  intro p e s m below meth c ls A hx hb hr hlocks hml hown hin hts hA hP hK hD hS hl
  have hown : s.vm.findClass RX8 = some m.cls := hown
  have hl : lv_has ls 4 [(0, .ref x), (1, .int p0), (2, .int p1)] := hl
  refine lv_aload_n hx hb dX8_liking_0 rfl (lv_at hl 0 rfl) ?_
  refine va_get (D := D) (ci := 8) (v := .ref ac) (C := RX8) (T := TX8) (N := 14) hx hb hts iX8_liking_X8 hown hK hP 0 rfl rfl 4 (by decide) (hts (.fieldLink RX8 34 "CatLeases" "acts" "LCatLeases$Acts;") (List.mem_of_getElem? (i := 1) rfl)) (fun _ h9 => h9) h_x_acts dX8_liking_1 ?_
  refine k_gor (wr := [(x, .inr (8, fs_x)), (mw, .inr (4, fs_mw))]) hP hD hS hA [2, 3] [0, 1] rfl rfl (by decide) (by decide) (va_runV (As := []) (rest := []) ⟨hx, hb, hml, hown, hts⟩ (c_current l D g _ ac sa s0 fs_ac f_sa h_ac_states h_ac_index h_sa_at0) (cwV 0 hts gX8_liking_X0_current rfl rfl rfl (by decide +kernel) ⟨Nat.le_of_ble_eq_true rfl, Nat.le_of_ble_eq_true rfl⟩) (k_preV hK (hP.sub [2, 3] rfl) (hD.sub [2, 3] (by decide) rfl) 0 0 rfl rfl) rfl rfl hl.1 rfl (lv_room (Nat.le_of_ble_eq_true rfl)) dX8_liking_4 ⟨Nat.le_of_ble_eq_true rfl, Nat.le_of_ble_eq_true rfl⟩) (fun r_1 u_2 H locs hw hP hD hS => ?_)
  rcases hw with ⟨rfl, rfl⟩
  have hP := hP.sub (ws' := [(x, .inr (8, fs_x)), (mw, .inr (4, fs_mw)), (ac, .inr (0, fs_ac)), (sa, .inl (g 4, 41, .inr (.inr (.inr (.inr f_sa)))))]) [0, 1, 2, 3] rfl
  have hD := hD.sub (ws' := [(x, .inr (8, fs_x)), (mw, .inr (4, fs_mw)), (ac, .inr (0, fs_ac)), (sa, .inl (g 4, 41, .inr (.inr (.inr (.inr f_sa)))))]) [0, 1, 2, 3] (by decide) rfl
  refine lv_astore_n (lv' := [(3, .ref s0), (0, .ref x), (1, .int p0), (2, .int p1)]) hx hb dX8_liking_7 rfl hl (by decide) rfl (fun ls hl => ?_)
  refine lv_aload_n hx hb dX8_liking_8 rfl (lv_at hl 1 rfl) ?_
  refine lv_iload_n hx hb dX8_liking_9 rfl (lv_at hl 2 rfl) ?_
  refine k_goi (wr := [(ac, .inr (0, fs_ac)), (sa, .inl (g 4, 41, .inr (.inr (.inr (.inr f_sa)))))]) hP hD hS hA [0, 1] [2, 3] rfl rfl (by decide) (by decide) (va_runV (As := [.int p0]) (rest := []) ⟨hx, hb, hml, hown, hts⟩ (c_isTenant l D g _ x p0 mw fs_x fs_mw h_x_mews h_mw_tenants) (cwV 1 hts gX8_liking_X8_isTenant rfl rfl rfl (by decide +kernel) ⟨Nat.le_of_ble_eq_true rfl, Nat.le_of_ble_eq_true rfl⟩) (k_preV hK (hP.sub [0, 1] rfl) (hD.sub [0, 1] (by decide) rfl) 8 0 rfl rfl) rfl rfl hl.1 rfl (lv_room (Nat.le_of_ble_eq_true rfl)) dX8_liking_10 ⟨Nat.le_of_ble_eq_true rfl, Nat.le_of_ble_eq_true rfl⟩) (fun r_3 u_4 H locs hw hP hD hS => ?_)
  rcases hw with ⟨rfl, rfl⟩
  have hP := hP.sub (ws' := [(x, .inr (8, fs_x)), (mw, .inr (4, fs_mw)), (ac, .inr (0, fs_ac)), (sa, .inl (g 4, 41, .inr (.inr (.inr (.inr f_sa)))))]) [2, 3, 0, 1] rfl
  have hD := hD.sub (ws' := [(x, .inr (8, fs_x)), (mw, .inr (4, fs_mw)), (ac, .inr (0, fs_ac)), (sa, .inl (g 4, 41, .inr (.inr (.inr (.inr f_sa)))))]) [2, 3, 0, 1] (by decide) rfl
  refine lv_if_eq (tgt := 32) hx hb dX8_liking_13 (by decide) (fun _ => ?_) (fun c9 => absurd (by first | decide | rfl) c9)
  refine lv_ldc (v := (-1000000000)) hx hb hown (hts (.constant RX8 165 (-1000000000)) (List.mem_of_getElem? (i := 2) rfl)) dX8_liking_32 ?_
  exact k_iret hx hb hr hlocks hK hP hD hS rfl dX8_liking_34
set_option maxHeartbeats 4000000 in
set_option maxRecDepth 100000 in
theorem c_move (l : Launch) (D : va_G) (g : Nat → ClassId) (sz : Nat) (x : Nat) (p0 : Int32) (p1 : Int32) (mw : Nat) (fs_x : List Value) (fs_mw : List Value) (h_x_mews : fs_x[3]? = some (.ref mw)) (h_mw_tenants : fs_mw[2]? = some (.int 0)) : Met l yX8_move wsX8_move ({ frames := 1, cells := 0, slots := 0, locals := 21 }) (va_Pc [.ref x, .int p0, .int p1] (kPre D g [(x, .inr (8, fs_x)), (mw, .inr (4, fs_mw))] sz)) (kQi D g (fun (r : Int32) (u : va_W) => (-2) = r) (va_A [(x, .inr (8, fs_x)), (mw, .inr (4, fs_mw))] sz)) 0 0 (va_A [(x, .inr (8, fs_x)), (mw, .inr (4, fs_mw))] sz) := by
  refine k_head (cc := cX8_move) (maxL := 5) (ret := (some .int)) (by decide) rfl (Nat.le_of_ble_eq_true rfl) ?_
  intro p e s m below meth c ls A hx hb hr hlocks hml hown hin hts hA hP hK hD hS hl
  have hown : s.vm.findClass RX8 = some m.cls := hown
  have hl : lv_has ls 5 [(0, .ref x), (1, .int p0), (2, .int p1)] := hl
  refine lv_aload_n hx hb dX8_move_0 rfl (lv_at hl 0 rfl) ?_
  refine lv_iload_n hx hb dX8_move_1 rfl (lv_at hl 1 rfl) ?_
  refine k_goi (wr := []) hP hD hS hA [0, 1] [] rfl rfl (by decide) (by decide) (va_runV (As := [.int p0]) (rest := []) ⟨hx, hb, hml, hown, hts⟩ (c_isTenant l D g _ x p0 mw fs_x fs_mw h_x_mews h_mw_tenants) (cwV 1 hts gX8_move_X8_isTenant rfl rfl rfl (by decide +kernel) ⟨Nat.le_of_ble_eq_true rfl, Nat.le_of_ble_eq_true rfl⟩) (k_preV hK (hP.sub [0, 1] rfl) (hD.sub [0, 1] (by decide) rfl) 8 0 rfl rfl) rfl rfl hl.1 rfl (lv_room (Nat.le_of_ble_eq_true rfl)) dX8_move_2 ⟨Nat.le_of_ble_eq_true rfl, Nat.le_of_ble_eq_true rfl⟩) (fun r_1 u_2 H locs hw hP hD hS => ?_)
  rcases hw with ⟨rfl, rfl⟩
  have hP := hP.sub (ws' := [(x, .inr (8, fs_x)), (mw, .inr (4, fs_mw))]) [0, 1] rfl
  have hD := hD.sub (ws' := [(x, .inr (8, fs_x)), (mw, .inr (4, fs_mw))]) [0, 1] (by decide) rfl
  refine lv_if_eq (tgt := 35) hx hb dX8_move_5 (by decide) (fun _ => ?_) (fun c9 => absurd (by first | decide | rfl) c9)
  refine lv_bipush (v := (-2)) hx hb dX8_move_35 (by decide) ?_
  exact k_iret hx hb hr hlocks hK hP hD hS rfl dX8_move_37
set_option maxHeartbeats 4000000 in
set_option maxRecDepth 100000 in
theorem c_leave (l : Launch) (D : va_G) (g : Nat → ClassId) (sz : Nat) (x : Nat) (p0 : Int32) (mw : Nat) (fs_x : List Value) (fs_mw : List Value) (h_x_mews : fs_x[3]? = some (.ref mw)) (h_mw_tenants : fs_mw[2]? = some (.int 0)) : Met l yX8_leave wsX8_leave ({ frames := 2, cells := 0, slots := 0, locals := 42 }) (va_Pc [.ref x, .int p0] (kPre D g [(x, .inr (8, fs_x)), (mw, .inr (4, fs_mw))] sz)) (kQi D g (fun (r : Int32) (u : va_W) => (-1) = r) (va_A [(x, .inr (8, fs_x)), (mw, .inr (4, fs_mw))] sz)) 0 0 (va_A [(x, .inr (8, fs_x)), (mw, .inr (4, fs_mw))] sz) := by
  refine k_head (cc := cX8_leave) (maxL := 4) (ret := (some .int)) (by decide) rfl (Nat.le_of_ble_eq_true rfl) ?_
  intro p e s m below meth c ls A hx hb hr hlocks hml hown hin hts hA hP hK hD hS hl
  have hown : s.vm.findClass RX8 = some m.cls := hown
  have hl : lv_has ls 4 [(0, .ref x), (1, .int p0)] := hl
  refine lv_aload_n hx hb dX8_leave_0 rfl (lv_at hl 0 rfl) ?_
  refine lv_iload_n hx hb dX8_leave_1 rfl (lv_at hl 1 rfl) ?_
  refine k_goi (wr := []) hP hD hS hA [0, 1] [] rfl rfl (by decide) (by decide) (va_runV (As := [.int p0]) (rest := []) ⟨hx, hb, hml, hown, hts⟩ (c_isHoused l D g _ x p0 mw fs_x fs_mw h_x_mews h_mw_tenants) (cwV 1 hts gX8_leave_X8_isHoused rfl rfl rfl (by decide +kernel) ⟨Nat.le_of_ble_eq_true rfl, Nat.le_of_ble_eq_true rfl⟩) (k_preV hK (hP.sub [0, 1] rfl) (hD.sub [0, 1] (by decide) rfl) 8 0 rfl rfl) rfl rfl hl.1 rfl (lv_room (Nat.le_of_ble_eq_true rfl)) dX8_leave_2 ⟨Nat.le_of_ble_eq_true rfl, Nat.le_of_ble_eq_true rfl⟩) (fun r_1 u_2 H locs hw hP hD hS => ?_)
  rcases hw with ⟨rfl, rfl⟩
  have hP := hP.sub (ws' := [(x, .inr (8, fs_x)), (mw, .inr (4, fs_mw))]) [0, 1] rfl
  have hD := hD.sub (ws' := [(x, .inr (8, fs_x)), (mw, .inr (4, fs_mw))]) [0, 1] (by decide) rfl
  refine lv_if_ne (tgt := 10) hx hb dX8_leave_5 (by decide) (fun c9 => absurd (by first | decide | rfl) c9) (fun _ => ?_)
  refine lv_iconst (v := (-1)) hx hb dX8_leave_8 (by decide) ?_
  exact k_iret hx hb hr hlocks hK hP hD hS rfl dX8_leave_9
set_option maxHeartbeats 4000000 in
set_option maxRecDepth 100000 in
theorem c_exchange (l : Launch) (D : va_G) (g : Nat → ClassId) (sz : Nat) (x : Nat) (p0 : Int32) (p1 : Int32) (mw : Nat) (fs_x : List Value) (fs_mw : List Value) (h_x_mews : fs_x[3]? = some (.ref mw)) (h_mw_tenants : fs_mw[2]? = some (.int 0)) : Met l yX8_exchange wsX8_exchange ({ frames := 2, cells := 0, slots := 0, locals := 42 }) (va_Pc [.ref x, .int p0, .int p1] (kPre D g [(x, .inr (8, fs_x)), (mw, .inr (4, fs_mw))] sz)) (kQi D g (fun (r : Int32) (u : va_W) => (-1) = r) (va_A [(x, .inr (8, fs_x)), (mw, .inr (4, fs_mw))] sz)) 0 0 (va_A [(x, .inr (8, fs_x)), (mw, .inr (4, fs_mw))] sz) := by
  refine k_head (cc := cX8_exchange) (maxL := 5) (ret := (some .int)) (by decide) rfl (Nat.le_of_ble_eq_true rfl) ?_
  intro p e s m below meth c ls A hx hb hr hlocks hml hown hin hts hA hP hK hD hS hl
  have hown : s.vm.findClass RX8 = some m.cls := hown
  have hl : lv_has ls 5 [(0, .ref x), (1, .int p0), (2, .int p1)] := hl
  refine lv_iload_n hx hb dX8_exchange_0 rfl (lv_at hl 1 rfl) ?_
  refine lv_iload_n hx hb dX8_exchange_1 rfl (lv_at hl 2 rfl) ?_
  refine lv_icmp_eq (tgt := 21) hx hb dX8_exchange_2 (by decide) (fun c_1 => ?_) (fun c_1 => ?_)
  · refine lv_iconst (v := (-1)) hx hb dX8_exchange_21 (by decide) ?_
    exact k_iret hx hb hr hlocks hK hP hD hS rfl dX8_exchange_22
  · refine lv_aload_n hx hb dX8_exchange_5 rfl (lv_at hl 0 rfl) ?_
    refine lv_iload_n hx hb dX8_exchange_6 rfl (lv_at hl 1 rfl) ?_
    refine k_goi (wr := []) hP hD hS hA [0, 1] [] rfl rfl (by decide) (by decide) (va_runV (As := [.int p0]) (rest := []) ⟨hx, hb, hml, hown, hts⟩ (c_isHoused l D g _ x p0 mw fs_x fs_mw h_x_mews h_mw_tenants) (cwV 1 hts gX8_exchange_X8_isHoused rfl rfl rfl (by decide +kernel) ⟨Nat.le_of_ble_eq_true rfl, Nat.le_of_ble_eq_true rfl⟩) (k_preV hK (hP.sub [0, 1] rfl) (hD.sub [0, 1] (by decide) rfl) 8 0 rfl rfl) rfl rfl hl.1 rfl (lv_room (Nat.le_of_ble_eq_true rfl)) dX8_exchange_7 ⟨Nat.le_of_ble_eq_true rfl, Nat.le_of_ble_eq_true rfl⟩) (fun r_2 u_3 H locs hw hP hD hS => ?_)
    rcases hw with ⟨rfl, rfl⟩
    have hP := hP.sub (ws' := [(x, .inr (8, fs_x)), (mw, .inr (4, fs_mw))]) [0, 1] rfl
    have hD := hD.sub (ws' := [(x, .inr (8, fs_x)), (mw, .inr (4, fs_mw))]) [0, 1] (by decide) rfl
    refine lv_if_eq (tgt := 21) hx hb dX8_exchange_10 (by decide) (fun _ => ?_) (fun c9 => absurd (by first | decide | rfl) c9)
    refine lv_iconst (v := (-1)) hx hb dX8_exchange_21 (by decide) ?_
    exact k_iret hx hb hr hlocks hK hP hD hS rfl dX8_exchange_22
set_option maxHeartbeats 4000000 in
set_option maxRecDepth 100000 in
theorem c_claim (l : Launch) (D : va_G) (g : Nat → ClassId) (sz : Nat) (x : Nat) (p0 : Int32) (p1 : Int32) (mw : Nat) (fs_x : List Value) (fs_mw : List Value) (h_x_mews : fs_x[3]? = some (.ref mw)) (h_mw_rooms : fs_mw[1]? = some (.int 0)) : Met l yX8_claim wsX8_claim ({ frames := 1, cells := 0, slots := 0, locals := 21 }) (va_Pc [.ref x, .int p0, .int p1] (kPre D g [(x, .inr (8, fs_x)), (mw, .inr (4, fs_mw))] sz)) (kQi D g (fun (r : Int32) (u : va_W) => (-1) = r) (va_A [(x, .inr (8, fs_x)), (mw, .inr (4, fs_mw))] sz)) 0 0 (va_A [(x, .inr (8, fs_x)), (mw, .inr (4, fs_mw))] sz) := by
  refine k_head (cc := cX8_claim) (maxL := 4) (ret := (some .int)) (by decide) rfl (Nat.le_of_ble_eq_true rfl) ?_
  intro p e s m below meth c ls A hx hb hr hlocks hml hown hin hts hA hP hK hD hS hl
  have hown : s.vm.findClass RX8 = some m.cls := hown
  have hl : lv_has ls 4 [(0, .ref x), (1, .int p0), (2, .int p1)] := hl
  refine lv_aload_n hx hb dX8_claim_0 rfl (lv_at hl 0 rfl) ?_
  refine lv_iload_n hx hb dX8_claim_1 rfl (lv_at hl 1 rfl) ?_
  refine k_goi (wr := []) hP hD hS hA [0, 1] [] rfl rfl (by decide) (by decide) (va_runV (As := [.int p0]) (rest := []) ⟨hx, hb, hml, hown, hts⟩ (c_isRoom l D g _ x p0 mw fs_x fs_mw h_x_mews h_mw_rooms) (cwV 1 hts gX8_claim_X8_isRoom rfl rfl rfl (by decide +kernel) ⟨Nat.le_of_ble_eq_true rfl, Nat.le_of_ble_eq_true rfl⟩) (k_preV hK (hP.sub [0, 1] rfl) (hD.sub [0, 1] (by decide) rfl) 8 0 rfl rfl) rfl rfl hl.1 rfl (lv_room (Nat.le_of_ble_eq_true rfl)) dX8_claim_2 ⟨Nat.le_of_ble_eq_true rfl, Nat.le_of_ble_eq_true rfl⟩) (fun r_1 u_2 H locs hw hP hD hS => ?_)
  rcases hw with ⟨rfl, rfl⟩
  have hP := hP.sub (ws' := [(x, .inr (8, fs_x)), (mw, .inr (4, fs_mw))]) [0, 1] rfl
  have hD := hD.sub (ws' := [(x, .inr (8, fs_x)), (mw, .inr (4, fs_mw))]) [0, 1] (by decide) rfl
  refine lv_if_eq (tgt := 30) hx hb dX8_claim_5 (by decide) (fun _ => ?_) (fun c9 => absurd (by first | decide | rfl) c9)
  refine lv_iconst (v := (-1)) hx hb dX8_claim_30 (by decide) ?_
  exact k_iret hx hb hr hlocks hK hP hD hS rfl dX8_claim_31
set_option maxHeartbeats 4000000 in
set_option maxRecDepth 100000 in
theorem c_spend (l : Launch) (D : va_G) (g : Nat → ClassId) (sz : Nat) (x : Nat) (p0 : Int32) (p1 : Int32) (mw : Nat) (fs_x : List Value) (fs_mw : List Value) (h_x_mews : fs_x[3]? = some (.ref mw)) (h_mw_tenants : fs_mw[2]? = some (.int 0)) : Met l yX8_spend wsX8_spend ({ frames := 1, cells := 0, slots := 0, locals := 21 }) (va_Pc [.ref x, .int p0, .int p1] (kPre D g [(x, .inr (8, fs_x)), (mw, .inr (4, fs_mw))] sz)) (kQi D g (fun (r : Int32) (u : va_W) => (-1) = r) (va_A [(x, .inr (8, fs_x)), (mw, .inr (4, fs_mw))] sz)) 0 0 (va_A [(x, .inr (8, fs_x)), (mw, .inr (4, fs_mw))] sz) := by
  refine k_head (cc := cX8_spend) (maxL := 4) (ret := (some .int)) (by decide) rfl (Nat.le_of_ble_eq_true rfl) ?_
  intro p e s m below meth c ls A hx hb hr hlocks hml hown hin hts hA hP hK hD hS hl
  have hown : s.vm.findClass RX8 = some m.cls := hown
  have hl : lv_has ls 4 [(0, .ref x), (1, .int p0), (2, .int p1)] := hl
  refine lv_aload_n hx hb dX8_spend_0 rfl (lv_at hl 0 rfl) ?_
  refine lv_iload_n hx hb dX8_spend_1 rfl (lv_at hl 1 rfl) ?_
  refine k_goi (wr := []) hP hD hS hA [0, 1] [] rfl rfl (by decide) (by decide) (va_runV (As := [.int p0]) (rest := []) ⟨hx, hb, hml, hown, hts⟩ (c_isTenant l D g _ x p0 mw fs_x fs_mw h_x_mews h_mw_tenants) (cwV 1 hts gX8_spend_X8_isTenant rfl rfl rfl (by decide +kernel) ⟨Nat.le_of_ble_eq_true rfl, Nat.le_of_ble_eq_true rfl⟩) (k_preV hK (hP.sub [0, 1] rfl) (hD.sub [0, 1] (by decide) rfl) 8 0 rfl rfl) rfl rfl hl.1 rfl (lv_room (Nat.le_of_ble_eq_true rfl)) dX8_spend_2 ⟨Nat.le_of_ble_eq_true rfl, Nat.le_of_ble_eq_true rfl⟩) (fun r_1 u_2 H locs hw hP hD hS => ?_)
  rcases hw with ⟨rfl, rfl⟩
  have hP := hP.sub (ws' := [(x, .inr (8, fs_x)), (mw, .inr (4, fs_mw))]) [0, 1] rfl
  have hD := hD.sub (ws' := [(x, .inr (8, fs_x)), (mw, .inr (4, fs_mw))]) [0, 1] (by decide) rfl
  refine lv_if_eq (tgt := 18) hx hb dX8_spend_5 (by decide) (fun _ => ?_) (fun c9 => absurd (by first | decide | rfl) c9)
  refine lv_iconst (v := (-1)) hx hb dX8_spend_18 (by decide) ?_
  exact k_iret hx hb hr hlocks hK hP hD hS rfl dX8_spend_19
set_option maxHeartbeats 4000000 in
set_option maxRecDepth 100000 in
theorem c_calm (l : Launch) (D : va_G) (g : Nat → ClassId) (sz : Nat) (x : Nat) (p0 : Int32) (p1 : Int32) (mw : Nat) (fs_x : List Value) (fs_mw : List Value) (h_x_mews : fs_x[3]? = some (.ref mw)) (h_mw_tenants : fs_mw[2]? = some (.int 0)) : Met l yX8_calm wsX8_calm ({ frames := 1, cells := 0, slots := 0, locals := 21 }) (va_Pc [.ref x, .int p0, .int p1] (kPre D g [(x, .inr (8, fs_x)), (mw, .inr (4, fs_mw))] sz)) (kQi D g (fun (r : Int32) (u : va_W) => (-1) = r) (va_A [(x, .inr (8, fs_x)), (mw, .inr (4, fs_mw))] sz)) 0 0 (va_A [(x, .inr (8, fs_x)), (mw, .inr (4, fs_mw))] sz) := by
  refine k_head (cc := cX8_calm) (maxL := 4) (ret := (some .int)) (by decide) rfl (Nat.le_of_ble_eq_true rfl) ?_
  intro p e s m below meth c ls A hx hb hr hlocks hml hown hin hts hA hP hK hD hS hl
  have hown : s.vm.findClass RX8 = some m.cls := hown
  have hl : lv_has ls 4 [(0, .ref x), (1, .int p0), (2, .int p1)] := hl
  refine lv_aload_n hx hb dX8_calm_0 rfl (lv_at hl 0 rfl) ?_
  refine lv_iload_n hx hb dX8_calm_1 rfl (lv_at hl 1 rfl) ?_
  refine k_goi (wr := []) hP hD hS hA [0, 1] [] rfl rfl (by decide) (by decide) (va_runV (As := [.int p0]) (rest := []) ⟨hx, hb, hml, hown, hts⟩ (c_isTenant l D g _ x p0 mw fs_x fs_mw h_x_mews h_mw_tenants) (cwV 1 hts gX8_calm_X8_isTenant rfl rfl rfl (by decide +kernel) ⟨Nat.le_of_ble_eq_true rfl, Nat.le_of_ble_eq_true rfl⟩) (k_preV hK (hP.sub [0, 1] rfl) (hD.sub [0, 1] (by decide) rfl) 8 0 rfl rfl) rfl rfl hl.1 rfl (lv_room (Nat.le_of_ble_eq_true rfl)) dX8_calm_2 ⟨Nat.le_of_ble_eq_true rfl, Nat.le_of_ble_eq_true rfl⟩) (fun r_1 u_2 H locs hw hP hD hS => ?_)
  rcases hw with ⟨rfl, rfl⟩
  have hP := hP.sub (ws' := [(x, .inr (8, fs_x)), (mw, .inr (4, fs_mw))]) [0, 1] rfl
  have hD := hD.sub (ws' := [(x, .inr (8, fs_x)), (mw, .inr (4, fs_mw))]) [0, 1] (by decide) rfl
  refine lv_if_eq (tgt := 18) hx hb dX8_calm_5 (by decide) (fun _ => ?_) (fun c9 => absurd (by first | decide | rfl) c9)
  refine lv_iconst (v := (-1)) hx hb dX8_calm_18 (by decide) ?_
  exact k_iret hx hb hr hlocks hK hP hD hS rfl dX8_calm_19
set_option maxHeartbeats 4000000 in
set_option maxRecDepth 100000 in
theorem c_stepBack (l : Launch) (D : va_G) (g : Nat → ClassId) (sz : Nat) (ac : Nat) (fs_ac : List Value) (h_ac_undoable : fs_ac[0]? = some (.int 0)) : Met l yX0_stepBack wsX0_stepBack ({ frames := 0, cells := 0, slots := 0, locals := 0 }) (va_Pc [.ref ac] (kPre D g [(ac, .inr (0, fs_ac))] sz)) (kQi D g (fun (r : Int32) (u : va_W) => 0 = r ∧ u = [(ac, .inr (0, fs_ac))]) (va_A [(ac, .inr (0, fs_ac))] sz)) 0 0 (va_A [(ac, .inr (0, fs_ac))] sz) := by
  refine k_head (cc := cX0_stepBack) (maxL := 1) (ret := (some .boolean)) (by decide) rfl (Nat.le_of_ble_eq_true rfl) ?_
  intro p e s m below meth c ls A hx hb hr hlocks hml hown hin hts hA hP hK hD hS hl
  have hown : s.vm.findClass RX0 = some m.cls := hown
  have hl : lv_has ls 1 [(0, .ref ac)] := hl
  refine lv_aload_n hx hb dX0_stepBack_0 rfl (lv_at hl 0 rfl) ?_
  refine va_get (D := D) (ci := 0) (v := .int 0) (C := RX0) (T := TX0) (N := 4) hx hb hts iX0_stepBack_X0 hown hK hP 0 rfl rfl 0 (by decide) (hts (.fieldLink RX0 9 "CatLeases$Acts" "undoable" "I") (List.mem_of_getElem? (i := 1) rfl)) (fun _ h9 => h9) h_ac_undoable dX0_stepBack_1 ?_
  refine lv_if_ne (tgt := 9) hx hb dX0_stepBack_4 (by decide) (fun c9 => absurd (by first | decide | rfl) c9) (fun _ => ?_)
  refine lv_iconst (v := 0) hx hb dX0_stepBack_7 (by decide) ?_
  exact k_zret hx hb hr hlocks rfl hK hP hD hS ⟨rfl, rfl⟩ dX0_stepBack_8
set_option maxHeartbeats 4000000 in
set_option maxRecDepth 100000 in
theorem c_stepForth (l : Launch) (D : va_G) (g : Nat → ClassId) (sz : Nat) (ac : Nat) (fs_ac : List Value) (h_ac_redoable : fs_ac[1]? = some (.int 0)) : Met l yX0_stepForth wsX0_stepForth ({ frames := 0, cells := 0, slots := 0, locals := 0 }) (va_Pc [.ref ac] (kPre D g [(ac, .inr (0, fs_ac))] sz)) (kQi D g (fun (r : Int32) (u : va_W) => 0 = r ∧ u = [(ac, .inr (0, fs_ac))]) (va_A [(ac, .inr (0, fs_ac))] sz)) 0 0 (va_A [(ac, .inr (0, fs_ac))] sz) := by
  refine k_head (cc := cX0_stepForth) (maxL := 1) (ret := (some .boolean)) (by decide) rfl (Nat.le_of_ble_eq_true rfl) ?_
  intro p e s m below meth c ls A hx hb hr hlocks hml hown hin hts hA hP hK hD hS hl
  have hown : s.vm.findClass RX0 = some m.cls := hown
  have hl : lv_has ls 1 [(0, .ref ac)] := hl
  refine lv_aload_n hx hb dX0_stepForth_0 rfl (lv_at hl 0 rfl) ?_
  refine va_get (D := D) (ci := 0) (v := .int 0) (C := RX0) (T := TX0) (N := 4) hx hb hts iX0_stepForth_X0 hown hK hP 0 rfl rfl 1 (by decide) (hts (.fieldLink RX0 15 "CatLeases$Acts" "redoable" "I") (List.mem_of_getElem? (i := 1) rfl)) (fun _ h9 => h9) h_ac_redoable dX0_stepForth_1 ?_
  refine lv_if_ne (tgt := 9) hx hb dX0_stepForth_4 (by decide) (fun c9 => absurd (by first | decide | rfl) c9) (fun _ => ?_)
  refine lv_iconst (v := 0) hx hb dX0_stepForth_7 (by decide) ?_
  exact k_zret hx hb hr hlocks rfl hK hP hD hS ⟨rfl, rfl⟩ dX0_stepForth_8
set_option maxHeartbeats 4000000 in
set_option maxRecDepth 100000 in
theorem c_undo (l : Launch) (D : va_G) (g : Nat → ClassId) (sz : Nat) (x : Nat) (ac : Nat) (fs_x : List Value) (fs_ac : List Value) (h_x_acts : fs_x[4]? = some (.ref ac)) (h_ac_undoable : fs_ac[0]? = some (.int 0)) : Met l yX8_undo wsX8_undo ({ frames := 1, cells := 0, slots := 0, locals := 20 }) (va_Pc [.ref x] (kPre D g [(x, .inr (8, fs_x)), (ac, .inr (0, fs_ac))] sz)) (kQi D g (fun (r : Int32) (u : va_W) => 0 = r) (va_A [(x, .inr (8, fs_x)), (ac, .inr (0, fs_ac))] sz)) 0 0 (va_A [(x, .inr (8, fs_x)), (ac, .inr (0, fs_ac))] sz) := by
  refine k_head (cc := cX8_undo) (maxL := 1) (ret := (some .boolean)) (by decide) rfl (Nat.le_of_ble_eq_true rfl) ?_
  intro p e s m below meth c ls A hx hb hr hlocks hml hown hin hts hA hP hK hD hS hl
  have hown : s.vm.findClass RX8 = some m.cls := hown
  have hl : lv_has ls 1 [(0, .ref x)] := hl
  refine lv_aload_n hx hb dX8_undo_0 rfl (lv_at hl 0 rfl) ?_
  refine va_get (D := D) (ci := 8) (v := .ref ac) (C := RX8) (T := TX8) (N := 14) hx hb hts iX8_undo_X8 hown hK hP 0 rfl rfl 4 (by decide) (hts (.fieldLink RX8 34 "CatLeases" "acts" "LCatLeases$Acts;") (List.mem_of_getElem? (i := 1) rfl)) (fun _ h9 => h9) h_x_acts dX8_undo_1 ?_
  refine k_goi (wr := [(x, .inr (8, fs_x))]) hP hD hS hA [1] [0] rfl rfl (by decide) (by decide) (va_runV (As := []) (rest := []) ⟨hx, hb, hml, hown, hts⟩ (c_stepBack l D g _ ac fs_ac h_ac_undoable) (cwV 0 hts gX8_undo_X0_stepBack rfl rfl rfl (by decide +kernel) ⟨Nat.le_of_ble_eq_true rfl, Nat.le_of_ble_eq_true rfl⟩) (k_preV hK (hP.sub [1] rfl) (hD.sub [1] (by decide) rfl) 0 0 rfl rfl) rfl rfl hl.1 rfl (lv_room (Nat.le_of_ble_eq_true rfl)) dX8_undo_4 ⟨Nat.le_of_ble_eq_true rfl, Nat.le_of_ble_eq_true rfl⟩) (fun r_1 u_2 H locs hw hP hD hS => ?_)
  rcases hw with ⟨rfl, rfl⟩
  have hP := hP.sub (ws' := [(x, .inr (8, fs_x)), (ac, .inr (0, fs_ac))]) [0, 1] rfl
  have hD := hD.sub (ws' := [(x, .inr (8, fs_x)), (ac, .inr (0, fs_ac))]) [0, 1] (by decide) rfl
  exact k_zret hx hb hr hlocks rfl hK hP hD hS rfl dX8_undo_7
set_option maxHeartbeats 4000000 in
set_option maxRecDepth 100000 in
theorem c_redo (l : Launch) (D : va_G) (g : Nat → ClassId) (sz : Nat) (x : Nat) (ac : Nat) (fs_x : List Value) (fs_ac : List Value) (h_x_acts : fs_x[4]? = some (.ref ac)) (h_ac_redoable : fs_ac[1]? = some (.int 0)) : Met l yX8_redo wsX8_redo ({ frames := 1, cells := 0, slots := 0, locals := 20 }) (va_Pc [.ref x] (kPre D g [(x, .inr (8, fs_x)), (ac, .inr (0, fs_ac))] sz)) (kQi D g (fun (r : Int32) (u : va_W) => 0 = r) (va_A [(x, .inr (8, fs_x)), (ac, .inr (0, fs_ac))] sz)) 0 0 (va_A [(x, .inr (8, fs_x)), (ac, .inr (0, fs_ac))] sz) := by
  refine k_head (cc := cX8_redo) (maxL := 1) (ret := (some .boolean)) (by decide) rfl (Nat.le_of_ble_eq_true rfl) ?_
  intro p e s m below meth c ls A hx hb hr hlocks hml hown hin hts hA hP hK hD hS hl
  have hown : s.vm.findClass RX8 = some m.cls := hown
  have hl : lv_has ls 1 [(0, .ref x)] := hl
  refine lv_aload_n hx hb dX8_redo_0 rfl (lv_at hl 0 rfl) ?_
  refine va_get (D := D) (ci := 8) (v := .ref ac) (C := RX8) (T := TX8) (N := 14) hx hb hts iX8_redo_X8 hown hK hP 0 rfl rfl 4 (by decide) (hts (.fieldLink RX8 34 "CatLeases" "acts" "LCatLeases$Acts;") (List.mem_of_getElem? (i := 1) rfl)) (fun _ h9 => h9) h_x_acts dX8_redo_1 ?_
  refine k_goi (wr := [(x, .inr (8, fs_x))]) hP hD hS hA [1] [0] rfl rfl (by decide) (by decide) (va_runV (As := []) (rest := []) ⟨hx, hb, hml, hown, hts⟩ (c_stepForth l D g _ ac fs_ac h_ac_redoable) (cwV 0 hts gX8_redo_X0_stepForth rfl rfl rfl (by decide +kernel) ⟨Nat.le_of_ble_eq_true rfl, Nat.le_of_ble_eq_true rfl⟩) (k_preV hK (hP.sub [1] rfl) (hD.sub [1] (by decide) rfl) 0 0 rfl rfl) rfl rfl hl.1 rfl (lv_room (Nat.le_of_ble_eq_true rfl)) dX8_redo_4 ⟨Nat.le_of_ble_eq_true rfl, Nat.le_of_ble_eq_true rfl⟩) (fun r_1 u_2 H locs hw hP hD hS => ?_)
  rcases hw with ⟨rfl, rfl⟩
  have hP := hP.sub (ws' := [(x, .inr (8, fs_x)), (ac, .inr (0, fs_ac))]) [0, 1] rfl
  have hD := hD.sub (ws' := [(x, .inr (8, fs_x)), (ac, .inr (0, fs_ac))]) [0, 1] (by decide) rfl
  exact k_zret hx hb hr hlocks rfl hK hP hD hS rfl dX8_redo_7
set_option maxHeartbeats 4000000 in
set_option maxRecDepth 100000 in
theorem c_will (l : Launch) (D : va_G) (g : Nat → ClassId) (sz : Nat) (x : Nat) (p0 : Int32) (p1 : Int32) (p2 : Int32) (mw : Nat) (fs_x : List Value) (fs_mw : List Value) (h_x_mews : fs_x[3]? = some (.ref mw)) (h_mw_tenants : fs_mw[2]? = some (.int 0)) : Met l yX8_will wsX8_will ({ frames := 1, cells := 0, slots := 0, locals := 21 }) (va_Pc [.ref x, .int p0, .int p1, .int p2] (kPre D g [(x, .inr (8, fs_x)), (mw, .inr (4, fs_mw))] sz)) (kQi D g (fun (r : Int32) (u : va_W) => (-2) = r) (va_A [(x, .inr (8, fs_x)), (mw, .inr (4, fs_mw))] sz)) 0 0 (va_A [(x, .inr (8, fs_x)), (mw, .inr (4, fs_mw))] sz) := by
  refine k_head (cc := cX8_will) (maxL := 6) (ret := (some .int)) (by decide) rfl (Nat.le_of_ble_eq_true rfl) ?_
  intro p e s m below meth c ls A hx hb hr hlocks hml hown hin hts hA hP hK hD hS hl
  have hown : s.vm.findClass RX8 = some m.cls := hown
  have hl : lv_has ls 6 [(0, .ref x), (1, .int p0), (2, .int p1), (3, .int p2)] := hl
  refine lv_aload_n hx hb dX8_will_0 rfl (lv_at hl 0 rfl) ?_
  refine lv_iload_n hx hb dX8_will_1 rfl (lv_at hl 1 rfl) ?_
  refine k_goi (wr := []) hP hD hS hA [0, 1] [] rfl rfl (by decide) (by decide) (va_runV (As := [.int p0]) (rest := []) ⟨hx, hb, hml, hown, hts⟩ (c_isTenant l D g _ x p0 mw fs_x fs_mw h_x_mews h_mw_tenants) (cwV 1 hts gX8_will_X8_isTenant rfl rfl rfl (by decide +kernel) ⟨Nat.le_of_ble_eq_true rfl, Nat.le_of_ble_eq_true rfl⟩) (k_preV hK (hP.sub [0, 1] rfl) (hD.sub [0, 1] (by decide) rfl) 8 0 rfl rfl) rfl rfl hl.1 rfl (lv_room (Nat.le_of_ble_eq_true rfl)) dX8_will_2 ⟨Nat.le_of_ble_eq_true rfl, Nat.le_of_ble_eq_true rfl⟩) (fun r_1 u_2 H locs hw hP hD hS => ?_)
  rcases hw with ⟨rfl, rfl⟩
  have hP := hP.sub (ws' := [(x, .inr (8, fs_x)), (mw, .inr (4, fs_mw))]) [0, 1] rfl
  have hD := hD.sub (ws' := [(x, .inr (8, fs_x)), (mw, .inr (4, fs_mw))]) [0, 1] (by decide) rfl
  refine lv_if_eq (tgt := 18) hx hb dX8_will_5 (by decide) (fun _ => ?_) (fun c9 => absurd (by first | decide | rfl) c9)
  refine lv_bipush (v := (-2)) hx hb dX8_will_18 (by decide) ?_
  exact k_iret hx hb hr hlocks hK hP hD hS rfl dX8_will_20
set_option maxHeartbeats 4000000 in
set_option maxRecDepth 100000 in
theorem c_lasts (l : Launch) (D : va_G) (g : Nat → ClassId) (sz : Nat) (x : Nat) (p0 : Int32) (mw : Nat) (fs_x : List Value) (fs_mw : List Value) (h_x_mews : fs_x[3]? = some (.ref mw)) (h_mw_tenants : fs_mw[2]? = some (.int 0)) : Met l yX8_lasts wsX8_lasts ({ frames := 1, cells := 0, slots := 0, locals := 21 }) (va_Pc [.ref x, .int p0] (kPre D g [(x, .inr (8, fs_x)), (mw, .inr (4, fs_mw))] sz)) (kQi D g (fun (r : Int32) (u : va_W) => (-1) = r) (va_A [(x, .inr (8, fs_x)), (mw, .inr (4, fs_mw))] sz)) 0 0 (va_A [(x, .inr (8, fs_x)), (mw, .inr (4, fs_mw))] sz) := by
  refine k_head (cc := cX8_lasts) (maxL := 3) (ret := (some .int)) (by decide) rfl (Nat.le_of_ble_eq_true rfl) ?_
  intro p e s m below meth c ls A hx hb hr hlocks hml hown hin hts hA hP hK hD hS hl
  have hown : s.vm.findClass RX8 = some m.cls := hown
  have hl : lv_has ls 3 [(0, .ref x), (1, .int p0)] := hl
  refine lv_aload_n hx hb dX8_lasts_0 rfl (lv_at hl 0 rfl) ?_
  refine lv_iload_n hx hb dX8_lasts_1 rfl (lv_at hl 1 rfl) ?_
  refine k_goi (wr := []) hP hD hS hA [0, 1] [] rfl rfl (by decide) (by decide) (va_runV (As := [.int p0]) (rest := []) ⟨hx, hb, hml, hown, hts⟩ (c_isTenant l D g _ x p0 mw fs_x fs_mw h_x_mews h_mw_tenants) (cwV 1 hts gX8_lasts_X8_isTenant rfl rfl rfl (by decide +kernel) ⟨Nat.le_of_ble_eq_true rfl, Nat.le_of_ble_eq_true rfl⟩) (k_preV hK (hP.sub [0, 1] rfl) (hD.sub [0, 1] (by decide) rfl) 8 0 rfl rfl) rfl rfl hl.1 rfl (lv_room (Nat.le_of_ble_eq_true rfl)) dX8_lasts_2 ⟨Nat.le_of_ble_eq_true rfl, Nat.le_of_ble_eq_true rfl⟩) (fun r_1 u_2 H locs hw hP hD hS => ?_)
  rcases hw with ⟨rfl, rfl⟩
  have hP := hP.sub (ws' := [(x, .inr (8, fs_x)), (mw, .inr (4, fs_mw))]) [0, 1] rfl
  have hD := hD.sub (ws' := [(x, .inr (8, fs_x)), (mw, .inr (4, fs_mw))]) [0, 1] (by decide) rfl
  refine lv_if_ne (tgt := 10) hx hb dX8_lasts_5 (by decide) (fun c9 => absurd (by first | decide | rfl) c9) (fun _ => ?_)
  refine lv_iconst (v := (-1)) hx hb dX8_lasts_8 (by decide) ?_
  exact k_iret hx hb hr hlocks hK hP hD hS rfl dX8_lasts_9
set_option maxHeartbeats 4000000 in
set_option maxRecDepth 100000 in
theorem c_thrownOut (l : Launch) (D : va_G) (g : Nat → ClassId) (sz : Nat) (mw : Nat) (s0 : Nat) (fs_mw : List Value) (h_mw_tenants : fs_mw[2]? = some (.int 0)) : Met l yX4_thrownOut wsX4_thrownOut ({ frames := 0, cells := 0, slots := 0, locals := 0 }) (va_Pc [.ref mw, .ref s0] (kPre D g [(mw, .inr (4, fs_mw))] sz)) (kQi D g (fun (r : Int32) (u : va_W) => 0 = r ∧ u = [(mw, .inr (4, fs_mw))]) (va_A [(mw, .inr (4, fs_mw))] sz)) 0 0 (va_A [(mw, .inr (4, fs_mw))] sz) := by
  refine k_head (cc := cX4_thrownOut) (maxL := 5) (ret := (some .int)) (by decide) rfl (Nat.le_of_ble_eq_true rfl) ?_
  intro p e s m below meth c ls A hx hb hr hlocks hml hown hin hts hA hP hK hD hS hl
  have hown : s.vm.findClass RX4 = some m.cls := hown
  have hl : lv_has ls 5 [(0, .ref mw), (1, .ref s0)] := hl
  refine lv_iconst (v := 0) hx hb dX4_thrownOut_0 (by decide) ?_
  refine lv_istore_n (lv' := [(2, .int 0), (0, .ref mw), (1, .ref s0)]) hx hb dX4_thrownOut_1 rfl hl (by decide) rfl (fun ls hl => ?_)
  refine lv_iconst (v := 0) hx hb dX4_thrownOut_2 (by decide) ?_
  refine lv_istore_n (lv' := [(3, .int 0), (2, .int 0), (0, .ref mw), (1, .ref s0)]) hx hb dX4_thrownOut_3 rfl hl (by decide) rfl (fun ls hl => ?_)
  refine lv_iload_n hx hb dX4_thrownOut_4 rfl (lv_at hl 0 rfl) ?_
  refine lv_aload_n hx hb dX4_thrownOut_5 rfl (lv_at hl 2 rfl) ?_
  refine va_get (D := D) (ci := 4) (v := .int 0) (C := RX4) (T := TX4) (N := 11) hx hb hts iX4_thrownOut_X4 hown hK hP 0 rfl rfl 2 (by decide) (hts (.fieldLink RX4 18 "CatLeases$Mews" "tenants" "I") (List.mem_of_getElem? (i := 1) rfl)) (fun _ h9 => h9) h_mw_tenants dX4_thrownOut_6 ?_
  refine lv_icmp_ge (tgt := 52) hx hb dX4_thrownOut_9 (by decide) (fun _ => ?_) (fun c9 => absurd (by first | decide | rfl) c9)
  refine lv_iload_n hx hb dX4_thrownOut_52 rfl (lv_at hl 1 rfl) ?_
  exact k_iret hx hb hr hlocks hK hP hD hS ⟨rfl, rfl⟩ dX4_thrownOut_53
set_option maxHeartbeats 4000000 in
set_option maxRecDepth 100000 in
theorem c_thrownOutAt (l : Launch) (D : va_G) (g : Nat → ClassId) (sz : Nat) (mw : Nat) (s0 : Nat) (p0 : Int32) (fs_mw : List Value) (h_mw_tenants : fs_mw[2]? = some (.int 0)) : Met l yX4_thrownOutAt wsX4_thrownOutAt ({ frames := 0, cells := 0, slots := 0, locals := 0 }) (va_Pc [.ref mw, .ref s0, .int p0] (kPre D g [(mw, .inr (4, fs_mw))] sz)) (kQi D g (fun (r : Int32) (u : va_W) => 0 = r ∧ u = [(mw, .inr (4, fs_mw))]) (va_A [(mw, .inr (4, fs_mw))] sz)) 0 0 (va_A [(mw, .inr (4, fs_mw))] sz) := by
  refine k_head (cc := cX4_thrownOutAt) (maxL := 6) (ret := (some .int)) (by decide) rfl (Nat.le_of_ble_eq_true rfl) ?_
  intro p e s m below meth c ls A hx hb hr hlocks hml hown hin hts hA hP hK hD hS hl
  have hown : s.vm.findClass RX4 = some m.cls := hown
  have hl : lv_has ls 6 [(0, .ref mw), (1, .ref s0), (2, .int p0)] := hl
  refine lv_iconst (v := 0) hx hb dX4_thrownOutAt_0 (by decide) ?_
  refine lv_istore_n (lv' := [(3, .int 0), (0, .ref mw), (1, .ref s0), (2, .int p0)]) hx hb dX4_thrownOutAt_1 rfl hl (by decide) rfl (fun ls hl => ?_)
  refine lv_iconst (v := 0) hx hb dX4_thrownOutAt_2 (by decide) ?_
  refine lv_istore (lv' := [(4, .int 0), (3, .int 0), (0, .ref mw), (1, .ref s0), (2, .int p0)]) hx hb dX4_thrownOutAt_3 hl (by decide) rfl (fun ls hl => ?_)
  refine lv_iload hx hb dX4_thrownOutAt_5 (lv_at hl 0 rfl) ?_
  refine lv_aload_n hx hb dX4_thrownOutAt_7 rfl (lv_at hl 2 rfl) ?_
  refine va_get (D := D) (ci := 4) (v := .int 0) (C := RX4) (T := TX4) (N := 11) hx hb hts iX4_thrownOutAt_X4 hown hK hP 0 rfl rfl 2 (by decide) (hts (.fieldLink RX4 18 "CatLeases$Mews" "tenants" "I") (List.mem_of_getElem? (i := 1) rfl)) (fun _ h9 => h9) h_mw_tenants dX4_thrownOutAt_8 ?_
  refine lv_icmp_ge (tgt := 63) hx hb dX4_thrownOutAt_11 (by decide) (fun _ => ?_) (fun c9 => absurd (by first | decide | rfl) c9)
  refine lv_iload_n hx hb dX4_thrownOutAt_63 rfl (lv_at hl 1 rfl) ?_
  exact k_iret hx hb hr hlocks hK hP hD hS ⟨rfl, rfl⟩ dX4_thrownOutAt_64
set_option maxHeartbeats 4000000 in
set_option maxRecDepth 100000 in
theorem c_shaky (l : Launch) (D : va_G) (g : Nat → ClassId) (sz : Nat) (x : Nat) (mw : Nat) (ac : Nat) (sa : Nat) (s0 : Nat) (fs_x : List Value) (fs_mw : List Value) (fs_ac : List Value) (f_sa : Nat → Option Nat) (h_x_mews : fs_x[3]? = some (.ref mw)) (h_x_acts : fs_x[4]? = some (.ref ac)) (h_mw_tenants : fs_mw[2]? = some (.int 0)) (h_ac_states : fs_ac[2]? = some (.ref sa)) (h_ac_index : fs_ac[3]? = some (.int 0)) (h_sa_at0 : f_sa 0 = some s0) : Met l yX8_shaky wsX8_shaky ({ frames := 1, cells := 0, slots := 0, locals := 24 }) (va_Pc [.ref x] (kPre D g [(x, .inr (8, fs_x)), (mw, .inr (4, fs_mw)), (ac, .inr (0, fs_ac)), (sa, .inl (g 4, 41, .inr (.inr (.inr (.inr f_sa)))))] sz)) (kQi D g (fun (r : Int32) (u : va_W) => 0 = r) (va_A [(x, .inr (8, fs_x)), (mw, .inr (4, fs_mw)), (ac, .inr (0, fs_ac)), (sa, .inl (g 4, 41, .inr (.inr (.inr (.inr f_sa)))))] sz)) 0 0 (va_A [(x, .inr (8, fs_x)), (mw, .inr (4, fs_mw)), (ac, .inr (0, fs_ac)), (sa, .inl (g 4, 41, .inr (.inr (.inr (.inr f_sa)))))] sz) := by
  refine k_head (cc := cX8_shaky) (maxL := 1) (ret := (some .int)) (by decide) rfl (Nat.le_of_ble_eq_true rfl) ?_
  intro p e s m below meth c ls A hx hb hr hlocks hml hown hin hts hA hP hK hD hS hl
  have hown : s.vm.findClass RX8 = some m.cls := hown
  have hl : lv_has ls 1 [(0, .ref x)] := hl
  refine lv_aload_n hx hb dX8_shaky_0 rfl (lv_at hl 0 rfl) ?_
  refine va_get (D := D) (ci := 8) (v := .ref mw) (C := RX8) (T := TX8) (N := 14) hx hb hts iX8_shaky_X8 hown hK hP 0 rfl rfl 3 (by decide) (hts (.fieldLink RX8 27 "CatLeases" "mews" "LCatLeases$Mews;") (List.mem_of_getElem? (i := 1) rfl)) (fun _ h9 => h9) h_x_mews dX8_shaky_1 ?_
  refine lv_aload_n hx hb dX8_shaky_4 rfl (lv_at hl 0 rfl) ?_
  refine va_get (D := D) (ci := 8) (v := .ref ac) (C := RX8) (T := TX8) (N := 14) hx hb hts iX8_shaky_X8 hown hK hP 0 rfl rfl 4 (by decide) (hts (.fieldLink RX8 34 "CatLeases" "acts" "LCatLeases$Acts;") (List.mem_of_getElem? (i := 2) rfl)) (fun _ h9 => h9) h_x_acts dX8_shaky_5 ?_
  refine k_gor (wr := [(x, .inr (8, fs_x)), (mw, .inr (4, fs_mw))]) hP hD hS hA [2, 3] [0, 1] rfl rfl (by decide) (by decide) (va_runV (As := []) (rest := [.ref mw]) ⟨hx, hb, hml, hown, hts⟩ (c_current l D g _ ac sa s0 fs_ac f_sa h_ac_states h_ac_index h_sa_at0) (cwV 0 hts gX8_shaky_X0_current rfl rfl rfl (by decide +kernel) ⟨Nat.le_of_ble_eq_true rfl, Nat.le_of_ble_eq_true rfl⟩) (k_preV hK (hP.sub [2, 3] rfl) (hD.sub [2, 3] (by decide) rfl) 0 0 rfl rfl) rfl rfl hl.1 rfl (lv_room (Nat.le_of_ble_eq_true rfl)) dX8_shaky_8 ⟨Nat.le_of_ble_eq_true rfl, Nat.le_of_ble_eq_true rfl⟩) (fun r_1 u_2 H locs hw hP hD hS => ?_)
  rcases hw with ⟨rfl, rfl⟩
  have hP := hP.sub (ws' := [(x, .inr (8, fs_x)), (mw, .inr (4, fs_mw)), (ac, .inr (0, fs_ac)), (sa, .inl (g 4, 41, .inr (.inr (.inr (.inr f_sa)))))]) [0, 1, 2, 3] rfl
  have hD := hD.sub (ws' := [(x, .inr (8, fs_x)), (mw, .inr (4, fs_mw)), (ac, .inr (0, fs_ac)), (sa, .inl (g 4, 41, .inr (.inr (.inr (.inr f_sa)))))]) [0, 1, 2, 3] (by decide) rfl
  refine k_goi (wr := [(x, .inr (8, fs_x)), (ac, .inr (0, fs_ac)), (sa, .inl (g 4, 41, .inr (.inr (.inr (.inr f_sa)))))]) hP hD hS hA [1] [0, 2, 3] rfl rfl (by decide) (by decide) (va_runV (As := [.ref s0]) (rest := []) ⟨hx, hb, hml, hown, hts⟩ (c_thrownOut l D g _ mw s0 fs_mw h_mw_tenants) (cwV 1 hts gX8_shaky_X4_thrownOut rfl rfl rfl (by decide +kernel) ⟨Nat.le_of_ble_eq_true rfl, Nat.le_of_ble_eq_true rfl⟩) (k_preV hK (hP.sub [1] rfl) (hD.sub [1] (by decide) rfl) 4 0 rfl rfl) rfl rfl hl.1 rfl (lv_room (Nat.le_of_ble_eq_true rfl)) dX8_shaky_11 ⟨Nat.le_of_ble_eq_true rfl, Nat.le_of_ble_eq_true rfl⟩) (fun r_3 u_4 H locs hw hP hD hS => ?_)
  rcases hw with ⟨rfl, rfl⟩
  have hP := hP.sub (ws' := [(x, .inr (8, fs_x)), (mw, .inr (4, fs_mw)), (ac, .inr (0, fs_ac)), (sa, .inl (g 4, 41, .inr (.inr (.inr (.inr f_sa)))))]) [0, 3, 1, 2] rfl
  have hD := hD.sub (ws' := [(x, .inr (8, fs_x)), (mw, .inr (4, fs_mw)), (ac, .inr (0, fs_ac)), (sa, .inl (g 4, 41, .inr (.inr (.inr (.inr f_sa)))))]) [0, 3, 1, 2] (by decide) rfl
  exact k_iret hx hb hr hlocks hK hP hD hS rfl dX8_shaky_14
set_option maxHeartbeats 4000000 in
set_option maxRecDepth 100000 in
theorem c_outCount (l : Launch) (D : va_G) (g : Nat → ClassId) (sz : Nat) (x : Nat) (s0 : Nat) (p0 : Int32) (mw : Nat) (fs_x : List Value) (fs_mw : List Value) (h_x_mews : fs_x[3]? = some (.ref mw)) (h_mw_tenants : fs_mw[2]? = some (.int 0)) : Met l yX8_outCount wsX8_outCount ({ frames := 0, cells := 0, slots := 0, locals := 0 }) (va_Pc [.ref x, .ref s0, .int p0] (kPre D g [(x, .inr (8, fs_x)), (mw, .inr (4, fs_mw))] sz)) (kQi D g (fun (r : Int32) (u : va_W) => 0 = r ∧ u = [(x, .inr (8, fs_x)), (mw, .inr (4, fs_mw))]) (va_A [(x, .inr (8, fs_x)), (mw, .inr (4, fs_mw))] sz)) 0 0 (va_A [(x, .inr (8, fs_x)), (mw, .inr (4, fs_mw))] sz) := by
  refine k_head (cc := cX8_outCount) (maxL := 5) (ret := (some .int)) (by decide) rfl (Nat.le_of_ble_eq_true rfl) ?_
  intro p e s m below meth c ls A hx hb hr hlocks hml hown hin hts hA hP hK hD hS hl
  have hown : s.vm.findClass RX8 = some m.cls := hown
  have hl : lv_has ls 5 [(0, .ref x), (1, .ref s0), (2, .int p0)] := hl
  refine lv_iconst (v := 0) hx hb dX8_outCount_0 (by decide) ?_
  refine lv_istore_n (lv' := [(3, .int 0), (0, .ref x), (1, .ref s0), (2, .int p0)]) hx hb dX8_outCount_1 rfl hl (by decide) rfl (fun ls hl => ?_)
  refine lv_iconst (v := 0) hx hb dX8_outCount_2 (by decide) ?_
  refine lv_istore (lv' := [(4, .int 0), (3, .int 0), (0, .ref x), (1, .ref s0), (2, .int p0)]) hx hb dX8_outCount_3 hl (by decide) rfl (fun ls hl => ?_)
  refine lv_iload hx hb dX8_outCount_5 (lv_at hl 0 rfl) ?_
  refine lv_aload_n hx hb dX8_outCount_7 rfl (lv_at hl 2 rfl) ?_
  refine va_get (D := D) (ci := 8) (v := .ref mw) (C := RX8) (T := TX8) (N := 14) hx hb hts iX8_outCount_X8 hown hK hP 0 rfl rfl 3 (by decide) (hts (.fieldLink RX8 27 "CatLeases" "mews" "LCatLeases$Mews;") (List.mem_of_getElem? (i := 1) rfl)) (fun _ h9 => h9) h_x_mews dX8_outCount_8 ?_
  refine va_get (D := D) (ci := 4) (v := .int 0) (C := RX4) (T := TX4) (N := 11) hx hb hts iX8_outCount_X4 hown hK hP 1 rfl rfl 2 (by decide) (hts (.fieldLink RX8 102 "CatLeases$Mews" "tenants" "I") (List.mem_of_getElem? (i := 2) rfl)) (fun _ h9 => h9) h_mw_tenants dX8_outCount_11 ?_
  refine lv_icmp_ge (tgt := 41) hx hb dX8_outCount_14 (by decide) (fun _ => ?_) (fun c9 => absurd (by first | decide | rfl) c9)
  refine lv_iload_n hx hb dX8_outCount_41 rfl (lv_at hl 1 rfl) ?_
  exact k_iret hx hb hr hlocks hK hP hD hS ⟨rfl, rfl⟩ dX8_outCount_42
set_option maxHeartbeats 4000000 in
set_option maxRecDepth 100000 in
theorem c_housed (l : Launch) (D : va_G) (g : Nat → ClassId) (sz : Nat) (x : Nat) (p0 : Int32) (mw : Nat) (ac : Nat) (sa : Nat) (s0 : Nat) (fs_x : List Value) (fs_mw : List Value) (fs_ac : List Value) (f_sa : Nat → Option Nat) (h_x_mews : fs_x[3]? = some (.ref mw)) (h_x_acts : fs_x[4]? = some (.ref ac)) (h_mw_tenants : fs_mw[2]? = some (.int 0)) (h_ac_states : fs_ac[2]? = some (.ref sa)) (h_ac_index : fs_ac[3]? = some (.int 0)) (h_sa_at0 : f_sa 0 = some s0) : Met l yX8_housed wsX8_housed ({ frames := 1, cells := 0, slots := 0, locals := 24 }) (va_Pc [.ref x, .int p0] (kPre D g [(x, .inr (8, fs_x)), (mw, .inr (4, fs_mw)), (ac, .inr (0, fs_ac)), (sa, .inl (g 4, 41, .inr (.inr (.inr (.inr f_sa)))))] sz)) (kQi D g (fun (r : Int32) (u : va_W) => ((p0 < 0) ∧ (-1) = r) ∨ ((¬ p0 < 0) ∧ (p0 ≤ 60) ∧ 0 = r) ∨ ((¬ p0 < 0) ∧ (¬ p0 ≤ 60) ∧ (-1) = r)) (va_A [(x, .inr (8, fs_x)), (mw, .inr (4, fs_mw)), (ac, .inr (0, fs_ac)), (sa, .inl (g 4, 41, .inr (.inr (.inr (.inr f_sa)))))] sz)) 0 0 (va_A [(x, .inr (8, fs_x)), (mw, .inr (4, fs_mw)), (ac, .inr (0, fs_ac)), (sa, .inl (g 4, 41, .inr (.inr (.inr (.inr f_sa)))))] sz) := by
  refine k_head (cc := cX8_housed) (maxL := 2) (ret := (some .int)) (by decide) rfl (Nat.le_of_ble_eq_true rfl) ?_
  intro p e s m below meth c ls A hx hb hr hlocks hml hown hin hts hA hP hK hD hS hl
  have hown : s.vm.findClass RX8 = some m.cls := hown
  have hl : lv_has ls 2 [(0, .ref x), (1, .int p0)] := hl
  refine lv_iload_n hx hb dX8_housed_0 rfl (lv_at hl 1 rfl) ?_
  refine lv_if_lt (tgt := 10) hx hb dX8_housed_1 (by decide) (fun c_1 => ?_) (fun c_1 => ?_)
  · refine lv_iconst (v := (-1)) hx hb dX8_housed_10 (by decide) ?_
    exact k_iret hx hb hr hlocks hK hP hD hS (Or.inl ⟨c_1, rfl⟩) dX8_housed_11
  · refine lv_iload_n hx hb dX8_housed_4 rfl (lv_at hl 1 rfl) ?_
    refine lv_bipush (v := 60) hx hb dX8_housed_5 (by decide) ?_
    refine lv_icmp_le (tgt := 12) hx hb dX8_housed_7 (by decide) (fun c_2 => ?_) (fun c_2 => ?_)
    · refine lv_aload_n hx hb dX8_housed_12 rfl (lv_at hl 0 rfl) ?_
      refine va_get (D := D) (ci := 8) (v := .ref mw) (C := RX8) (T := TX8) (N := 14) hx hb hts iX8_housed_X8 hown hK hP 0 rfl rfl 3 (by decide) (hts (.fieldLink RX8 27 "CatLeases" "mews" "LCatLeases$Mews;") (List.mem_of_getElem? (i := 1) rfl)) (fun _ h9 => h9) h_x_mews dX8_housed_13 ?_
      refine va_get (D := D) (ci := 4) (v := .int 0) (C := RX4) (T := TX4) (N := 11) hx hb hts iX8_housed_X4 hown hK hP 1 rfl rfl 2 (by decide) (hts (.fieldLink RX8 102 "CatLeases$Mews" "tenants" "I") (List.mem_of_getElem? (i := 2) rfl)) (fun _ h9 => h9) h_mw_tenants dX8_housed_16 ?_
      refine lv_aload_n hx hb dX8_housed_19 rfl (lv_at hl 0 rfl) ?_
      refine lv_aload_n hx hb dX8_housed_20 rfl (lv_at hl 0 rfl) ?_
      refine va_get (D := D) (ci := 8) (v := .ref ac) (C := RX8) (T := TX8) (N := 14) hx hb hts iX8_housed_X8 hown hK hP 0 rfl rfl 4 (by decide) (hts (.fieldLink RX8 34 "CatLeases" "acts" "LCatLeases$Acts;") (List.mem_of_getElem? (i := 3) rfl)) (fun _ h9 => h9) h_x_acts dX8_housed_21 ?_
      refine k_gor (wr := [(x, .inr (8, fs_x)), (mw, .inr (4, fs_mw))]) hP hD hS hA [2, 3] [0, 1] rfl rfl (by decide) (by decide) (va_runV (As := []) (rest := [.ref x, .int 0]) ⟨hx, hb, hml, hown, hts⟩ (c_current l D g _ ac sa s0 fs_ac f_sa h_ac_states h_ac_index h_sa_at0) (cwV 0 hts gX8_housed_X0_current rfl rfl rfl (by decide +kernel) ⟨Nat.le_of_ble_eq_true rfl, Nat.le_of_ble_eq_true rfl⟩) (k_preV hK (hP.sub [2, 3] rfl) (hD.sub [2, 3] (by decide) rfl) 0 0 rfl rfl) rfl rfl hl.1 rfl (lv_room (Nat.le_of_ble_eq_true rfl)) dX8_housed_24 ⟨Nat.le_of_ble_eq_true rfl, Nat.le_of_ble_eq_true rfl⟩) (fun r_3 u_4 H locs hw hP hD hS => ?_)
      rcases hw with ⟨rfl, rfl⟩
      have hP := hP.sub (ws' := [(x, .inr (8, fs_x)), (mw, .inr (4, fs_mw)), (ac, .inr (0, fs_ac)), (sa, .inl (g 4, 41, .inr (.inr (.inr (.inr f_sa)))))]) [0, 1, 2, 3] rfl
      have hD := hD.sub (ws' := [(x, .inr (8, fs_x)), (mw, .inr (4, fs_mw)), (ac, .inr (0, fs_ac)), (sa, .inl (g 4, 41, .inr (.inr (.inr (.inr f_sa)))))]) [0, 1, 2, 3] (by decide) rfl
      refine lv_iload_n hx hb dX8_housed_27 rfl (lv_at hl 1 rfl) ?_
      refine k_goi (wr := [(ac, .inr (0, fs_ac)), (sa, .inl (g 4, 41, .inr (.inr (.inr (.inr f_sa)))))]) hP hD hS hA [0, 1] [2, 3] rfl rfl (by decide) (by decide) (va_runV (As := [.ref s0, .int p0]) (rest := [.int 0]) ⟨hx, hb, hml, hown, hts⟩ (c_outCount l D g _ x s0 p0 mw fs_x fs_mw h_x_mews h_mw_tenants) (cwV 2 hts gX8_housed_X8_outCount rfl rfl rfl (by decide +kernel) ⟨Nat.le_of_ble_eq_true rfl, Nat.le_of_ble_eq_true rfl⟩) (k_preV hK (hP.sub [0, 1] rfl) (hD.sub [0, 1] (by decide) rfl) 8 0 rfl rfl) rfl rfl hl.1 rfl (lv_room (Nat.le_of_ble_eq_true rfl)) dX8_housed_28 ⟨Nat.le_of_ble_eq_true rfl, Nat.le_of_ble_eq_true rfl⟩) (fun r_5 u_6 H locs hw hP hD hS => ?_)
      rcases hw with ⟨rfl, rfl⟩
      have hP := hP.sub (ws' := [(x, .inr (8, fs_x)), (mw, .inr (4, fs_mw)), (ac, .inr (0, fs_ac)), (sa, .inl (g 4, 41, .inr (.inr (.inr (.inr f_sa)))))]) [2, 3, 0, 1] rfl
      have hD := hD.sub (ws' := [(x, .inr (8, fs_x)), (mw, .inr (4, fs_mw)), (ac, .inr (0, fs_ac)), (sa, .inl (g 4, 41, .inr (.inr (.inr (.inr f_sa)))))]) [2, 3, 0, 1] (by decide) rfl
      refine lv_isub hx hb dX8_housed_31 ?_
      refine k_top (v := 0) (by decide) ?_
      exact k_iret hx hb hr hlocks hK hP hD hS (Or.inr (Or.inl ⟨c_1, c_2, rfl⟩)) dX8_housed_32
    · refine lv_iconst (v := (-1)) hx hb dX8_housed_10 (by decide) ?_
      exact k_iret hx hb hr hlocks hK hP hD hS (Or.inr (Or.inr ⟨c_1, c_2, rfl⟩)) dX8_housed_11
set_option maxHeartbeats 4000000 in
set_option maxRecDepth 100000 in
theorem j_bitCount0 (l : Launch) (D : va_G) (g : Nat → ClassId) (sz : Nat)  : Met l yJ6_bitCount_0f7a4 wsJ6_bitCount_0f7a4 ({ frames := 0, cells := 0, slots := 0, locals := 0 }) (va_Pc [.int 0] (kPre D g [] sz)) (kQi D g (fun (r : Int32) (u : va_W) => 0 = r ∧ u = []) (va_A [] sz)) 0 0 (va_A [] sz) := by
  refine k_head (cc := cJ6_bitCount_0f7a4) (maxL := 1) (ret := (some .int)) (by decide) rfl (Nat.le_of_ble_eq_true rfl) ?_
  intro p e s m below meth c ls A hx hb hr hlocks hml hown hin hts hA hP hK hD hS hl
  have hown : s.vm.findClass RJ6 = some m.cls := hown
  have hl : lv_has ls 1 [(0, .int 0)] := hl
  refine lv_iload_n hx hb dJ6_bitCount_0f7a4_0 rfl (lv_at hl 0 rfl) ?_
  refine lv_iload_n hx hb dJ6_bitCount_0f7a4_1 rfl (lv_at hl 0 rfl) ?_
  refine lv_iconst (v := 1) hx hb dJ6_bitCount_0f7a4_2 (by decide) ?_
  refine lv_iushr (v := 0) hx hb dJ6_bitCount_0f7a4_3 (by decide) ?_
  refine lv_ldcw (v := 1431655765) hx hb hown (hts (.constant RJ6 265 (1431655765)) (List.mem_of_getElem? (i := 1) rfl)) dJ6_bitCount_0f7a4_4 ?_
  refine lv_iand hx hb dJ6_bitCount_0f7a4_7 ?_
  refine k_top (v := 0) (by decide) ?_
  refine lv_isub hx hb dJ6_bitCount_0f7a4_8 ?_
  refine k_top (v := 0) (by decide) ?_
  refine lv_istore_n (lv' := [(0, .int 0)]) hx hb dJ6_bitCount_0f7a4_9 rfl hl (by decide) rfl (fun ls hl => ?_)
  refine lv_iload_n hx hb dJ6_bitCount_0f7a4_10 rfl (lv_at hl 0 rfl) ?_
  refine lv_ldcw (v := 858993459) hx hb hown (hts (.constant RJ6 266 (858993459)) (List.mem_of_getElem? (i := 2) rfl)) dJ6_bitCount_0f7a4_11 ?_
  refine lv_iand hx hb dJ6_bitCount_0f7a4_14 ?_
  refine k_top (v := 0) (by decide) ?_
  refine lv_iload_n hx hb dJ6_bitCount_0f7a4_15 rfl (lv_at hl 0 rfl) ?_
  refine lv_iconst (v := 2) hx hb dJ6_bitCount_0f7a4_16 (by decide) ?_
  refine lv_iushr (v := 0) hx hb dJ6_bitCount_0f7a4_17 (by decide) ?_
  refine lv_ldcw (v := 858993459) hx hb hown (hts (.constant RJ6 266 (858993459)) (List.mem_of_getElem? (i := 2) rfl)) dJ6_bitCount_0f7a4_18 ?_
  refine lv_iand hx hb dJ6_bitCount_0f7a4_21 ?_
  refine k_top (v := 0) (by decide) ?_
  refine lv_iadd hx hb dJ6_bitCount_0f7a4_22 ?_
  refine k_top (v := 0) (by decide) ?_
  refine lv_istore_n (lv' := [(0, .int 0)]) hx hb dJ6_bitCount_0f7a4_23 rfl hl (by decide) rfl (fun ls hl => ?_)
  refine lv_iload_n hx hb dJ6_bitCount_0f7a4_24 rfl (lv_at hl 0 rfl) ?_
  refine lv_iload_n hx hb dJ6_bitCount_0f7a4_25 rfl (lv_at hl 0 rfl) ?_
  refine lv_iconst (v := 4) hx hb dJ6_bitCount_0f7a4_26 (by decide) ?_
  refine lv_iushr (v := 0) hx hb dJ6_bitCount_0f7a4_27 (by decide) ?_
  refine lv_iadd hx hb dJ6_bitCount_0f7a4_28 ?_
  refine k_top (v := 0) (by decide) ?_
  refine lv_ldcw (v := 252645135) hx hb hown (hts (.constant RJ6 267 (252645135)) (List.mem_of_getElem? (i := 3) rfl)) dJ6_bitCount_0f7a4_29 ?_
  refine lv_iand hx hb dJ6_bitCount_0f7a4_32 ?_
  refine k_top (v := 0) (by decide) ?_
  refine lv_istore_n (lv' := [(0, .int 0)]) hx hb dJ6_bitCount_0f7a4_33 rfl hl (by decide) rfl (fun ls hl => ?_)
  refine lv_iload_n hx hb dJ6_bitCount_0f7a4_34 rfl (lv_at hl 0 rfl) ?_
  refine lv_iload_n hx hb dJ6_bitCount_0f7a4_35 rfl (lv_at hl 0 rfl) ?_
  refine lv_bipush (v := 8) hx hb dJ6_bitCount_0f7a4_36 (by decide) ?_
  refine lv_iushr (v := 0) hx hb dJ6_bitCount_0f7a4_38 (by decide) ?_
  refine lv_iadd hx hb dJ6_bitCount_0f7a4_39 ?_
  refine k_top (v := 0) (by decide) ?_
  refine lv_istore_n (lv' := [(0, .int 0)]) hx hb dJ6_bitCount_0f7a4_40 rfl hl (by decide) rfl (fun ls hl => ?_)
  refine lv_iload_n hx hb dJ6_bitCount_0f7a4_41 rfl (lv_at hl 0 rfl) ?_
  refine lv_iload_n hx hb dJ6_bitCount_0f7a4_42 rfl (lv_at hl 0 rfl) ?_
  refine lv_bipush (v := 16) hx hb dJ6_bitCount_0f7a4_43 (by decide) ?_
  refine lv_iushr (v := 0) hx hb dJ6_bitCount_0f7a4_45 (by decide) ?_
  refine lv_iadd hx hb dJ6_bitCount_0f7a4_46 ?_
  refine k_top (v := 0) (by decide) ?_
  refine lv_istore_n (lv' := [(0, .int 0)]) hx hb dJ6_bitCount_0f7a4_47 rfl hl (by decide) rfl (fun ls hl => ?_)
  refine lv_iload_n hx hb dJ6_bitCount_0f7a4_48 rfl (lv_at hl 0 rfl) ?_
  refine lv_bipush (v := 63) hx hb dJ6_bitCount_0f7a4_49 (by decide) ?_
  refine lv_iand hx hb dJ6_bitCount_0f7a4_51 ?_
  refine k_top (v := 0) (by decide) ?_
  exact k_iret hx hb hr hlocks hK hP hD hS ⟨rfl, rfl⟩ dJ6_bitCount_0f7a4_52
set_option maxHeartbeats 4000000 in
set_option maxRecDepth 100000 in
theorem c_law (l : Launch) (D : va_G) (g : Nat → ClassId) (sz : Nat) (x : Nat) (p0 : Int32) (mw : Nat) (ac : Nat) (sa : Nat) (s0 : Nat) (fs_x : List Value) (fs_mw : List Value) (fs_ac : List Value) (f_sa : Nat → Option Nat) (h_x_mews : fs_x[3]? = some (.ref mw)) (h_x_acts : fs_x[4]? = some (.ref ac)) (h_mw_tenants : fs_mw[2]? = some (.int 0)) (h_ac_states : fs_ac[2]? = some (.ref sa)) (h_ac_index : fs_ac[3]? = some (.int 0)) (h_sa_at0 : f_sa 0 = some s0) : Met l yX8_law wsX8_law ({ frames := 1, cells := 0, slots := 0, locals := 25 }) (va_Pc [.ref x, .int p0] (kPre D g [(x, .inr (8, fs_x)), (mw, .inr (4, fs_mw)), (ac, .inr (0, fs_ac)), (sa, .inl (g 4, 41, .inr (.inr (.inr (.inr f_sa)))))] sz)) (kQi D g (fun (r : Int32) (u : va_W) => ((p0 < 0) ∧ (-1) = r) ∨ ((¬ p0 < 0) ∧ (p0 ≤ 99) ∧ 0 = r) ∨ ((¬ p0 < 0) ∧ (¬ p0 ≤ 99) ∧ (-1) = r)) (va_A [(x, .inr (8, fs_x)), (mw, .inr (4, fs_mw)), (ac, .inr (0, fs_ac)), (sa, .inl (g 4, 41, .inr (.inr (.inr (.inr f_sa)))))] sz)) 0 0 (va_A [(x, .inr (8, fs_x)), (mw, .inr (4, fs_mw)), (ac, .inr (0, fs_ac)), (sa, .inl (g 4, 41, .inr (.inr (.inr (.inr f_sa)))))] sz) := by
  refine k_head (cc := cX8_law) (maxL := 2) (ret := (some .int)) (by decide) rfl (Nat.le_of_ble_eq_true rfl) ?_
  intro p e s m below meth c ls A hx hb hr hlocks hml hown hin hts hA hP hK hD hS hl
  have hown : s.vm.findClass RX8 = some m.cls := hown
  have hl : lv_has ls 2 [(0, .ref x), (1, .int p0)] := hl
  refine lv_iload_n hx hb dX8_law_0 rfl (lv_at hl 1 rfl) ?_
  refine lv_if_lt (tgt := 10) hx hb dX8_law_1 (by decide) (fun c_1 => ?_) (fun c_1 => ?_)
  · refine lv_iconst (v := (-1)) hx hb dX8_law_10 (by decide) ?_
    exact k_iret hx hb hr hlocks hK hP hD hS (Or.inl ⟨c_1, rfl⟩) dX8_law_11
  · refine lv_iload_n hx hb dX8_law_4 rfl (lv_at hl 1 rfl) ?_
    refine lv_bipush (v := 99) hx hb dX8_law_5 (by decide) ?_
    refine lv_icmp_le (tgt := 12) hx hb dX8_law_7 (by decide) (fun c_2 => ?_) (fun c_2 => ?_)
    · refine lv_aload_n hx hb dX8_law_12 rfl (lv_at hl 0 rfl) ?_
      refine va_get (D := D) (ci := 8) (v := .ref mw) (C := RX8) (T := TX8) (N := 14) hx hb hts iX8_law_X8 hown hK hP 0 rfl rfl 3 (by decide) (hts (.fieldLink RX8 27 "CatLeases" "mews" "LCatLeases$Mews;") (List.mem_of_getElem? (i := 1) rfl)) (fun _ h9 => h9) h_x_mews dX8_law_13 ?_
      refine lv_aload_n hx hb dX8_law_16 rfl (lv_at hl 0 rfl) ?_
      refine va_get (D := D) (ci := 8) (v := .ref ac) (C := RX8) (T := TX8) (N := 14) hx hb hts iX8_law_X8 hown hK hP 0 rfl rfl 4 (by decide) (hts (.fieldLink RX8 34 "CatLeases" "acts" "LCatLeases$Acts;") (List.mem_of_getElem? (i := 2) rfl)) (fun _ h9 => h9) h_x_acts dX8_law_17 ?_
      refine k_gor (wr := [(x, .inr (8, fs_x)), (mw, .inr (4, fs_mw))]) hP hD hS hA [2, 3] [0, 1] rfl rfl (by decide) (by decide) (va_runV (As := []) (rest := [.ref mw]) ⟨hx, hb, hml, hown, hts⟩ (c_current l D g _ ac sa s0 fs_ac f_sa h_ac_states h_ac_index h_sa_at0) (cwV 0 hts gX8_law_X0_current rfl rfl rfl (by decide +kernel) ⟨Nat.le_of_ble_eq_true rfl, Nat.le_of_ble_eq_true rfl⟩) (k_preV hK (hP.sub [2, 3] rfl) (hD.sub [2, 3] (by decide) rfl) 0 0 rfl rfl) rfl rfl hl.1 rfl (lv_room (Nat.le_of_ble_eq_true rfl)) dX8_law_20 ⟨Nat.le_of_ble_eq_true rfl, Nat.le_of_ble_eq_true rfl⟩) (fun r_3 u_4 H locs hw hP hD hS => ?_)
      rcases hw with ⟨rfl, rfl⟩
      have hP := hP.sub (ws' := [(x, .inr (8, fs_x)), (mw, .inr (4, fs_mw)), (ac, .inr (0, fs_ac)), (sa, .inl (g 4, 41, .inr (.inr (.inr (.inr f_sa)))))]) [0, 1, 2, 3] rfl
      have hD := hD.sub (ws' := [(x, .inr (8, fs_x)), (mw, .inr (4, fs_mw)), (ac, .inr (0, fs_ac)), (sa, .inl (g 4, 41, .inr (.inr (.inr (.inr f_sa)))))]) [0, 1, 2, 3] (by decide) rfl
      refine lv_iload_n hx hb dX8_law_23 rfl (lv_at hl 1 rfl) ?_
      refine k_goi (wr := [(x, .inr (8, fs_x)), (ac, .inr (0, fs_ac)), (sa, .inl (g 4, 41, .inr (.inr (.inr (.inr f_sa)))))]) hP hD hS hA [1] [0, 2, 3] rfl rfl (by decide) (by decide) (va_runV (As := [.ref s0, .int p0]) (rest := []) ⟨hx, hb, hml, hown, hts⟩ (c_thrownOutAt l D g _ mw s0 p0 fs_mw h_mw_tenants) (cwV 2 hts gX8_law_X4_thrownOutAt rfl rfl rfl (by decide +kernel) ⟨Nat.le_of_ble_eq_true rfl, Nat.le_of_ble_eq_true rfl⟩) (k_preV hK (hP.sub [1] rfl) (hD.sub [1] (by decide) rfl) 4 0 rfl rfl) rfl rfl hl.1 rfl (lv_room (Nat.le_of_ble_eq_true rfl)) dX8_law_24 ⟨Nat.le_of_ble_eq_true rfl, Nat.le_of_ble_eq_true rfl⟩) (fun r_5 u_6 H locs hw hP hD hS => ?_)
      rcases hw with ⟨rfl, rfl⟩
      have hP := hP.sub (ws' := [(x, .inr (8, fs_x)), (mw, .inr (4, fs_mw)), (ac, .inr (0, fs_ac)), (sa, .inl (g 4, 41, .inr (.inr (.inr (.inr f_sa)))))]) [0, 3, 1, 2] rfl
      have hD := hD.sub (ws' := [(x, .inr (8, fs_x)), (mw, .inr (4, fs_mw)), (ac, .inr (0, fs_ac)), (sa, .inl (g 4, 41, .inr (.inr (.inr (.inr f_sa)))))]) [0, 3, 1, 2] (by decide) rfl
      refine k_goi (wr := [(x, .inr (8, fs_x)), (mw, .inr (4, fs_mw)), (ac, .inr (0, fs_ac)), (sa, .inl (g 4, 41, .inr (.inr (.inr (.inr f_sa)))))]) hP hD hS hA [] [0, 1, 2, 3] rfl rfl (by decide) (by decide) (va_runS (As := [.int 0]) (rest := []) ⟨hx, hb, hml, hown, hts⟩ (j_bitCount0 l D g _ ) (va_cwS 1 hts gX8_law_J6_bitCount_0f7a4 rfl rfl rfl (by decide +kernel) ⟨Nat.le_of_ble_eq_true rfl, Nat.le_of_ble_eq_true rfl⟩) (k_preS hK (hP.sub [] rfl) (hD.sub [] (by decide) rfl)) rfl rfl hl.1 rfl (lv_room (Nat.le_of_ble_eq_true rfl)) dX8_law_27 ⟨Nat.le_of_ble_eq_true rfl, Nat.le_of_ble_eq_true rfl⟩) (fun r_7 u_8 H locs hw hP hD hS => ?_)
      rcases hw with ⟨rfl, rfl⟩
      have hP := hP.sub (ws' := [(x, .inr (8, fs_x)), (mw, .inr (4, fs_mw)), (ac, .inr (0, fs_ac)), (sa, .inl (g 4, 41, .inr (.inr (.inr (.inr f_sa)))))]) [0, 1, 2, 3] rfl
      have hD := hD.sub (ws' := [(x, .inr (8, fs_x)), (mw, .inr (4, fs_mw)), (ac, .inr (0, fs_ac)), (sa, .inl (g 4, 41, .inr (.inr (.inr (.inr f_sa)))))]) [0, 1, 2, 3] (by decide) rfl
      exact k_iret hx hb hr hlocks hK hP hD hS (Or.inr (Or.inl ⟨c_1, c_2, rfl⟩)) dX8_law_30
    · refine lv_iconst (v := (-1)) hx hb dX8_law_10 (by decide) ?_
      exact k_iret hx hb hr hlocks hK hP hD hS (Or.inr (Or.inr ⟨c_1, c_2, rfl⟩)) dX8_law_11
set_option maxHeartbeats 4000000 in
set_option maxRecDepth 100000 in
theorem c_grief (l : Launch) (D : va_G) (g : Nat → ClassId) (sz : Nat) (x : Nat) (p0 : Int32) (p1 : Int32) (mw : Nat) (fs_x : List Value) (fs_mw : List Value) (h_x_mews : fs_x[3]? = some (.ref mw)) (h_mw_cats : fs_mw[0]? = some (.int 0)) : Met l yX8_grief wsX8_grief ({ frames := 2, cells := 0, slots := 0, locals := 42 }) (va_Pc [.ref x, .int p0, .int p1] (kPre D g [(x, .inr (8, fs_x)), (mw, .inr (4, fs_mw))] sz)) (kQi D g (fun (r : Int32) (u : va_W) => (-1000) = r) (va_A [(x, .inr (8, fs_x)), (mw, .inr (4, fs_mw))] sz)) 0 0 (va_A [(x, .inr (8, fs_x)), (mw, .inr (4, fs_mw))] sz) := by
  refine k_head (cc := cX8_grief) (maxL := 4) (ret := (some .int)) (by decide) rfl (Nat.le_of_ble_eq_true rfl) ?_
  intro p e s m below meth c ls A hx hb hr hlocks hml hown hin hts hA hP hK hD hS hl
  have hown : s.vm.findClass RX8 = some m.cls := hown
  have hl : lv_has ls 4 [(0, .ref x), (1, .int p0), (2, .int p1)] := hl
  refine lv_aload_n hx hb dX8_grief_0 rfl (lv_at hl 0 rfl) ?_
  refine lv_iload_n hx hb dX8_grief_1 rfl (lv_at hl 1 rfl) ?_
  refine k_goi (wr := []) hP hD hS hA [0, 1] [] rfl rfl (by decide) (by decide) (va_runV (As := [.int p0]) (rest := []) ⟨hx, hb, hml, hown, hts⟩ (c_isLivingCat l D g _ x p0 mw fs_x fs_mw h_x_mews h_mw_cats) (cwV 1 hts gX8_grief_X8_isLivingCat rfl rfl rfl (by decide +kernel) ⟨Nat.le_of_ble_eq_true rfl, Nat.le_of_ble_eq_true rfl⟩) (k_preV hK (hP.sub [0, 1] rfl) (hD.sub [0, 1] (by decide) rfl) 8 0 rfl rfl) rfl rfl hl.1 rfl (lv_room (Nat.le_of_ble_eq_true rfl)) dX8_grief_2 ⟨Nat.le_of_ble_eq_true rfl, Nat.le_of_ble_eq_true rfl⟩) (fun r_1 u_2 H locs hw hP hD hS => ?_)
  rcases hw with ⟨rfl, rfl⟩
  have hP := hP.sub (ws' := [(x, .inr (8, fs_x)), (mw, .inr (4, fs_mw))]) [0, 1] rfl
  have hD := hD.sub (ws' := [(x, .inr (8, fs_x)), (mw, .inr (4, fs_mw))]) [0, 1] (by decide) rfl
  refine lv_if_eq (tgt := 18) hx hb dX8_grief_5 (by decide) (fun _ => ?_) (fun c9 => absurd (by first | decide | rfl) c9)
  refine lv_sipush (v := (-1000)) hx hb dX8_grief_18 (by decide) ?_
  exact k_iret hx hb hr hlocks hK hP hD hS rfl dX8_grief_21
set_option maxHeartbeats 4000000 in
set_option maxRecDepth 100000 in
theorem c_haven (l : Launch) (D : va_G) (g : Nat → ClassId) (sz : Nat) (x : Nat) (p0 : Int32) (p1 : Int32) (mw : Nat) (fs_x : List Value) (fs_mw : List Value) (h_x_mews : fs_x[3]? = some (.ref mw)) (h_mw_tenants : fs_mw[2]? = some (.int 0)) : Met l yX8_haven wsX8_haven ({ frames := 1, cells := 0, slots := 0, locals := 21 }) (va_Pc [.ref x, .int p0, .int p1] (kPre D g [(x, .inr (8, fs_x)), (mw, .inr (4, fs_mw))] sz)) (kQi D g (fun (r : Int32) (u : va_W) => (-1) = r) (va_A [(x, .inr (8, fs_x)), (mw, .inr (4, fs_mw))] sz)) 0 0 (va_A [(x, .inr (8, fs_x)), (mw, .inr (4, fs_mw))] sz) := by
  refine k_head (cc := cX8_haven) (maxL := 7) (ret := (some .int)) (by decide) rfl (Nat.le_of_ble_eq_true rfl) ?_
  intro p e s m below meth c ls A hx hb hr hlocks hml hown hin hts hA hP hK hD hS hl
  have hown : s.vm.findClass RX8 = some m.cls := hown
  have hl : lv_has ls 7 [(0, .ref x), (1, .int p0), (2, .int p1)] := hl
  refine lv_aload_n hx hb dX8_haven_0 rfl (lv_at hl 0 rfl) ?_
  refine lv_iload_n hx hb dX8_haven_1 rfl (lv_at hl 1 rfl) ?_
  refine k_goi (wr := []) hP hD hS hA [0, 1] [] rfl rfl (by decide) (by decide) (va_runV (As := [.int p0]) (rest := []) ⟨hx, hb, hml, hown, hts⟩ (c_isTenant l D g _ x p0 mw fs_x fs_mw h_x_mews h_mw_tenants) (cwV 1 hts gX8_haven_X8_isTenant rfl rfl rfl (by decide +kernel) ⟨Nat.le_of_ble_eq_true rfl, Nat.le_of_ble_eq_true rfl⟩) (k_preV hK (hP.sub [0, 1] rfl) (hD.sub [0, 1] (by decide) rfl) 8 0 rfl rfl) rfl rfl hl.1 rfl (lv_room (Nat.le_of_ble_eq_true rfl)) dX8_haven_2 ⟨Nat.le_of_ble_eq_true rfl, Nat.le_of_ble_eq_true rfl⟩) (fun r_1 u_2 H locs hw hP hD hS => ?_)
  rcases hw with ⟨rfl, rfl⟩
  have hP := hP.sub (ws' := [(x, .inr (8, fs_x)), (mw, .inr (4, fs_mw))]) [0, 1] rfl
  have hD := hD.sub (ws' := [(x, .inr (8, fs_x)), (mw, .inr (4, fs_mw))]) [0, 1] (by decide) rfl
  refine lv_if_eq (tgt := 17) hx hb dX8_haven_5 (by decide) (fun _ => ?_) (fun c9 => absurd (by first | decide | rfl) c9)
  refine lv_iconst (v := (-1)) hx hb dX8_haven_17 (by decide) ?_
  exact k_iret hx hb hr hlocks hK hP hD hS rfl dX8_haven_18
set_option maxHeartbeats 4000000 in
set_option maxRecDepth 100000 in
theorem c_odds (l : Launch) (D : va_G) (g : Nat → ClassId) (sz : Nat) (x : Nat) (p0 : Int32) (p1 : Int32) (p2 : Int32) (mw : Nat) (fs_x : List Value) (fs_mw : List Value) (h_x_mews : fs_x[3]? = some (.ref mw)) (h_mw_cats : fs_mw[0]? = some (.int 0)) : Met l yX8_odds wsX8_odds ({ frames := 2, cells := 0, slots := 0, locals := 42 }) (va_Pc [.ref x, .int p0, .int p1, .int p2] (kPre D g [(x, .inr (8, fs_x)), (mw, .inr (4, fs_mw))] sz)) (kQi D g (fun (r : Int32) (u : va_W) => (-1) = r) (va_A [(x, .inr (8, fs_x)), (mw, .inr (4, fs_mw))] sz)) 0 0 (va_A [(x, .inr (8, fs_x)), (mw, .inr (4, fs_mw))] sz) := by
  refine k_head (cc := cX8_odds) (maxL := 7) (ret := (some .int)) (by decide) rfl (Nat.le_of_ble_eq_true rfl) ?_
  intro p e s m below meth c ls A hx hb hr hlocks hml hown hin hts hA hP hK hD hS hl
  have hown : s.vm.findClass RX8 = some m.cls := hown
  have hl : lv_has ls 7 [(0, .ref x), (1, .int p0), (2, .int p1), (3, .int p2)] := hl
  refine lv_aload_n hx hb dX8_odds_0 rfl (lv_at hl 0 rfl) ?_
  refine lv_iload_n hx hb dX8_odds_1 rfl (lv_at hl 1 rfl) ?_
  refine k_goi (wr := []) hP hD hS hA [0, 1] [] rfl rfl (by decide) (by decide) (va_runV (As := [.int p0]) (rest := []) ⟨hx, hb, hml, hown, hts⟩ (c_isLivingCat l D g _ x p0 mw fs_x fs_mw h_x_mews h_mw_cats) (cwV 1 hts gX8_odds_X8_isLivingCat rfl rfl rfl (by decide +kernel) ⟨Nat.le_of_ble_eq_true rfl, Nat.le_of_ble_eq_true rfl⟩) (k_preV hK (hP.sub [0, 1] rfl) (hD.sub [0, 1] (by decide) rfl) 8 0 rfl rfl) rfl rfl hl.1 rfl (lv_room (Nat.le_of_ble_eq_true rfl)) dX8_odds_2 ⟨Nat.le_of_ble_eq_true rfl, Nat.le_of_ble_eq_true rfl⟩) (fun r_1 u_2 H locs hw hP hD hS => ?_)
  rcases hw with ⟨rfl, rfl⟩
  have hP := hP.sub (ws' := [(x, .inr (8, fs_x)), (mw, .inr (4, fs_mw))]) [0, 1] rfl
  have hD := hD.sub (ws' := [(x, .inr (8, fs_x)), (mw, .inr (4, fs_mw))]) [0, 1] (by decide) rfl
  refine lv_if_eq (tgt := 26) hx hb dX8_odds_5 (by decide) (fun _ => ?_) (fun c9 => absurd (by first | decide | rfl) c9)
  refine lv_iconst (v := (-1)) hx hb dX8_odds_26 (by decide) ?_
  exact k_iret hx hb hr hlocks hK hP hD hS rfl dX8_odds_27
set_option maxHeartbeats 4000000 in
set_option maxRecDepth 100000 in
theorem c_swaps (l : Launch) (D : va_G) (g : Nat → ClassId) (sz : Nat) (x : Nat) (p0 : Int32) (mw : Nat) (fs_x : List Value) (fs_mw : List Value) (h_x_mews : fs_x[3]? = some (.ref mw)) (h_mw_tenants : fs_mw[2]? = some (.int 0)) : Met l yX8_swaps wsX8_swaps ({ frames := 0, cells := 0, slots := 0, locals := 0 }) (va_Pc [.ref x, .int p0] (kPre D g [(x, .inr (8, fs_x)), (mw, .inr (4, fs_mw))] sz)) (kQi D g (fun (r : Int32) (u : va_W) => ((p0 < 0) ∧ (-1) = r) ∨ ((¬ p0 < 0) ∧ (p0 ≤ 2) ∧ (¬ p0 = 0) ∧ (-1) = r) ∨ ((¬ p0 < 0) ∧ (p0 ≤ 2) ∧ (p0 = 0) ∧ 0 = r) ∨ ((¬ p0 < 0) ∧ (¬ p0 ≤ 2) ∧ (-1) = r)) (va_A [(x, .inr (8, fs_x)), (mw, .inr (4, fs_mw))] sz)) 0 0 (va_A [(x, .inr (8, fs_x)), (mw, .inr (4, fs_mw))] sz) := by
  refine k_head (cc := cX8_swaps) (maxL := 5) (ret := (some .int)) (by decide) rfl (Nat.le_of_ble_eq_true rfl) ?_
  intro p e s m below meth c ls A hx hb hr hlocks hml hown hin hts hA hP hK hD hS hl
  have hown : s.vm.findClass RX8 = some m.cls := hown
  have hl : lv_has ls 5 [(0, .ref x), (1, .int p0)] := hl
  refine lv_iload_n hx hb dX8_swaps_0 rfl (lv_at hl 1 rfl) ?_
  refine lv_if_lt (tgt := 9) hx hb dX8_swaps_1 (by decide) (fun c_1 => ?_) (fun c_1 => ?_)
  · refine lv_iconst (v := (-1)) hx hb dX8_swaps_9 (by decide) ?_
    exact k_iret hx hb hr hlocks hK hP hD hS (Or.inl ⟨c_1, rfl⟩) dX8_swaps_10
  · refine lv_iload_n hx hb dX8_swaps_4 rfl (lv_at hl 1 rfl) ?_
    refine lv_iconst (v := 2) hx hb dX8_swaps_5 (by decide) ?_
    refine lv_icmp_le (tgt := 11) hx hb dX8_swaps_6 (by decide) (fun c_2 => ?_) (fun c_2 => ?_)
    · refine lv_iconst (v := 0) hx hb dX8_swaps_11 (by decide) ?_
      refine lv_istore_n (lv' := [(2, .int 0), (0, .ref x), (1, .int p0)]) hx hb dX8_swaps_12 rfl hl (by decide) rfl (fun ls hl => ?_)
      refine lv_iconst (v := 0) hx hb dX8_swaps_13 (by decide) ?_
      refine lv_istore_n (lv' := [(3, .int 0), (2, .int 0), (0, .ref x), (1, .int p0)]) hx hb dX8_swaps_14 rfl hl (by decide) rfl (fun ls hl => ?_)
      refine lv_iload_n hx hb dX8_swaps_15 rfl (lv_at hl 0 rfl) ?_
      refine lv_aload_n hx hb dX8_swaps_16 rfl (lv_at hl 2 rfl) ?_
      refine va_get (D := D) (ci := 8) (v := .ref mw) (C := RX8) (T := TX8) (N := 14) hx hb hts iX8_swaps_X8 hown hK hP 0 rfl rfl 3 (by decide) (hts (.fieldLink RX8 27 "CatLeases" "mews" "LCatLeases$Mews;") (List.mem_of_getElem? (i := 1) rfl)) (fun _ h9 => h9) h_x_mews dX8_swaps_17 ?_
      refine va_get (D := D) (ci := 4) (v := .int 0) (C := RX4) (T := TX4) (N := 11) hx hb hts iX8_swaps_X4 hown hK hP 1 rfl rfl 2 (by decide) (hts (.fieldLink RX8 102 "CatLeases$Mews" "tenants" "I") (List.mem_of_getElem? (i := 2) rfl)) (fun _ h9 => h9) h_mw_tenants dX8_swaps_20 ?_
      refine lv_icmp_ge (tgt := 84) hx hb dX8_swaps_23 (by decide) (fun _ => ?_) (fun c9 => absurd (by first | decide | rfl) c9)
      refine lv_iload_n hx hb dX8_swaps_84 rfl (lv_at hl 3 rfl) ?_
      refine lv_if_ne (tgt := 92) hx hb dX8_swaps_85 (by decide) (fun c_3 => ?_) (fun c_3 => ?_)
      · refine lv_iconst (v := (-1)) hx hb dX8_swaps_92 (by decide) ?_
        exact k_iret hx hb hr hlocks hK hP hD hS (Or.inr (Or.inl ⟨c_1, c_2, c_3, rfl⟩)) dX8_swaps_93
      · refine lv_iload_n hx hb dX8_swaps_88 rfl (lv_at hl 1 rfl) ?_
        refine lv_goto (tgt := 93) hx hb dX8_swaps_89 (by decide) ?_
        exact k_iret hx hb hr hlocks hK hP hD hS (Or.inr (Or.inr (Or.inl ⟨c_1, c_2, c_3, rfl⟩))) dX8_swaps_93
    · refine lv_iconst (v := (-1)) hx hb dX8_swaps_9 (by decide) ?_
      exact k_iret hx hb hr hlocks hK hP hD hS (Or.inr (Or.inr (Or.inr ⟨c_1, c_2, rfl⟩))) dX8_swaps_10
set_option maxHeartbeats 4000000 in
set_option maxRecDepth 100000 in
theorem c_pay (l : Launch) (D : va_G) (g : Nat → ClassId) (sz : Nat) (x : Nat) (p0 : Int32) (mw : Nat) (ac : Nat) (sa : Nat) (s0 : Nat) (fs_x : List Value) (fs_mw : List Value) (fs_ac : List Value) (f_sa : Nat → Option Nat) (h_x_mews : fs_x[3]? = some (.ref mw)) (h_x_acts : fs_x[4]? = some (.ref ac)) (h_mw_tenants : fs_mw[2]? = some (.int 0)) (h_ac_states : fs_ac[2]? = some (.ref sa)) (h_ac_index : fs_ac[3]? = some (.int 0)) (h_sa_at0 : f_sa 0 = some s0) : Met l yX8_pay wsX8_pay ({ frames := 2, cells := 0, slots := 0, locals := 43 }) (va_Pc [.ref x, .int p0] (kPre D g [(x, .inr (8, fs_x)), (mw, .inr (4, fs_mw)), (ac, .inr (0, fs_ac)), (sa, .inl (g 4, 41, .inr (.inr (.inr (.inr f_sa)))))] sz)) (kQi D g (fun (r : Int32) (u : va_W) => (-1) = r) (va_A [(x, .inr (8, fs_x)), (mw, .inr (4, fs_mw)), (ac, .inr (0, fs_ac)), (sa, .inl (g 4, 41, .inr (.inr (.inr (.inr f_sa)))))] sz)) 0 0 (va_A [(x, .inr (8, fs_x)), (mw, .inr (4, fs_mw)), (ac, .inr (0, fs_ac)), (sa, .inl (g 4, 41, .inr (.inr (.inr (.inr f_sa)))))] sz) := by
  refine k_head (cc := cX8_pay) (maxL := 4) (ret := (some .int)) (by decide) rfl (Nat.le_of_ble_eq_true rfl) ?_
  intro p e s m below meth c ls A hx hb hr hlocks hml hown hin hts hA hP hK hD hS hl
  have hown : s.vm.findClass RX8 = some m.cls := hown
  have hl : lv_has ls 4 [(0, .ref x), (1, .int p0)] := hl
  refine lv_aload_n hx hb dX8_pay_0 rfl (lv_at hl 0 rfl) ?_
  refine lv_iload_n hx hb dX8_pay_1 rfl (lv_at hl 1 rfl) ?_
  refine k_goi (wr := []) hP hD hS hA [0, 1, 2, 3] [] rfl rfl (by decide) (by decide) (va_runV (As := [.int p0]) (rest := []) ⟨hx, hb, hml, hown, hts⟩ (c_isInKeptRoom l D g _ x p0 mw ac sa s0 fs_x fs_mw fs_ac f_sa h_x_mews h_x_acts h_mw_tenants h_ac_states h_ac_index h_sa_at0) (cwV 1 hts gX8_pay_X8_isInKeptRoom rfl rfl rfl (by decide +kernel) ⟨Nat.le_of_ble_eq_true rfl, Nat.le_of_ble_eq_true rfl⟩) (k_preV hK (hP.sub [0, 1, 2, 3] rfl) (hD.sub [0, 1, 2, 3] (by decide) rfl) 8 0 rfl rfl) rfl rfl hl.1 rfl (lv_room (Nat.le_of_ble_eq_true rfl)) dX8_pay_2 ⟨Nat.le_of_ble_eq_true rfl, Nat.le_of_ble_eq_true rfl⟩) (fun r_1 u_2 H locs hw hP hD hS => ?_)
  rcases hw with ⟨rfl, rfl⟩
  have hP := hP.sub (ws' := [(x, .inr (8, fs_x)), (mw, .inr (4, fs_mw)), (ac, .inr (0, fs_ac)), (sa, .inl (g 4, 41, .inr (.inr (.inr (.inr f_sa)))))]) [0, 1, 2, 3] rfl
  have hD := hD.sub (ws' := [(x, .inr (8, fs_x)), (mw, .inr (4, fs_mw)), (ac, .inr (0, fs_ac)), (sa, .inl (g 4, 41, .inr (.inr (.inr (.inr f_sa)))))]) [0, 1, 2, 3] (by decide) rfl
  refine lv_if_ne (tgt := 10) hx hb dX8_pay_5 (by decide) (fun c9 => absurd (by first | decide | rfl) c9) (fun _ => ?_)
  refine lv_iconst (v := (-1)) hx hb dX8_pay_8 (by decide) ?_
  exact k_iret hx hb hr hlocks hK hP hD hS rfl dX8_pay_9
set_option maxHeartbeats 4000000 in
set_option maxRecDepth 100000 in
theorem c_borne (l : Launch) (D : va_G) (g : Nat → ClassId) (sz : Nat) (x : Nat) (p0 : Int32) (mw : Nat) (ac : Nat) (sa : Nat) (s0 : Nat) (fs_x : List Value) (fs_mw : List Value) (fs_ac : List Value) (f_sa : Nat → Option Nat) (h_x_mews : fs_x[3]? = some (.ref mw)) (h_x_acts : fs_x[4]? = some (.ref ac)) (h_mw_tenants : fs_mw[2]? = some (.int 0)) (h_ac_states : fs_ac[2]? = some (.ref sa)) (h_ac_index : fs_ac[3]? = some (.int 0)) (h_sa_at0 : f_sa 0 = some s0) : Met l yX8_borne wsX8_borne ({ frames := 2, cells := 0, slots := 0, locals := 43 }) (va_Pc [.ref x, .int p0] (kPre D g [(x, .inr (8, fs_x)), (mw, .inr (4, fs_mw)), (ac, .inr (0, fs_ac)), (sa, .inl (g 4, 41, .inr (.inr (.inr (.inr f_sa)))))] sz)) (kQi D g (fun (r : Int32) (u : va_W) => (-1) = r) (va_A [(x, .inr (8, fs_x)), (mw, .inr (4, fs_mw)), (ac, .inr (0, fs_ac)), (sa, .inl (g 4, 41, .inr (.inr (.inr (.inr f_sa)))))] sz)) 0 0 (va_A [(x, .inr (8, fs_x)), (mw, .inr (4, fs_mw)), (ac, .inr (0, fs_ac)), (sa, .inl (g 4, 41, .inr (.inr (.inr (.inr f_sa)))))] sz) := by
  refine k_head (cc := cX8_borne) (maxL := 4) (ret := (some .int)) (by decide) rfl (Nat.le_of_ble_eq_true rfl) ?_
  intro p e s m below meth c ls A hx hb hr hlocks hml hown hin hts hA hP hK hD hS hl
  have hown : s.vm.findClass RX8 = some m.cls := hown
  have hl : lv_has ls 4 [(0, .ref x), (1, .int p0)] := hl
  refine lv_aload_n hx hb dX8_borne_0 rfl (lv_at hl 0 rfl) ?_
  refine lv_iload_n hx hb dX8_borne_1 rfl (lv_at hl 1 rfl) ?_
  refine k_goi (wr := []) hP hD hS hA [0, 1, 2, 3] [] rfl rfl (by decide) (by decide) (va_runV (As := [.int p0]) (rest := []) ⟨hx, hb, hml, hown, hts⟩ (c_isInKeptRoom l D g _ x p0 mw ac sa s0 fs_x fs_mw fs_ac f_sa h_x_mews h_x_acts h_mw_tenants h_ac_states h_ac_index h_sa_at0) (cwV 1 hts gX8_borne_X8_isInKeptRoom rfl rfl rfl (by decide +kernel) ⟨Nat.le_of_ble_eq_true rfl, Nat.le_of_ble_eq_true rfl⟩) (k_preV hK (hP.sub [0, 1, 2, 3] rfl) (hD.sub [0, 1, 2, 3] (by decide) rfl) 8 0 rfl rfl) rfl rfl hl.1 rfl (lv_room (Nat.le_of_ble_eq_true rfl)) dX8_borne_2 ⟨Nat.le_of_ble_eq_true rfl, Nat.le_of_ble_eq_true rfl⟩) (fun r_1 u_2 H locs hw hP hD hS => ?_)
  rcases hw with ⟨rfl, rfl⟩
  have hP := hP.sub (ws' := [(x, .inr (8, fs_x)), (mw, .inr (4, fs_mw)), (ac, .inr (0, fs_ac)), (sa, .inl (g 4, 41, .inr (.inr (.inr (.inr f_sa)))))]) [0, 1, 2, 3] rfl
  have hD := hD.sub (ws' := [(x, .inr (8, fs_x)), (mw, .inr (4, fs_mw)), (ac, .inr (0, fs_ac)), (sa, .inl (g 4, 41, .inr (.inr (.inr (.inr f_sa)))))]) [0, 1, 2, 3] (by decide) rfl
  refine lv_if_ne (tgt := 10) hx hb dX8_borne_5 (by decide) (fun c9 => absurd (by first | decide | rfl) c9) (fun _ => ?_)
  refine lv_iconst (v := (-1)) hx hb dX8_borne_8 (by decide) ?_
  exact k_iret hx hb hr hlocks hK hP hD hS rfl dX8_borne_9
set_option maxHeartbeats 4000000 in
set_option maxRecDepth 100000 in
theorem c_bid (l : Launch) (D : va_G) (g : Nat → ClassId) (sz : Nat) (x : Nat) (p0 : Int32) (p1 : Int32) (p2 : Int32) (mw : Nat) (fs_x : List Value) (v_x_lyingCount : Value) (fs_mw : List Value) (h_x_mews : fs_x[3]? = some (.ref mw)) (h_x_lyingCount : fs_x[11]? = some (v_x_lyingCount)) (h_mw_rooms : fs_mw[1]? = some (.int 0)) (h_mw_tenants : fs_mw[2]? = some (.int 0)) : Met l yX8_bid wsX8_bid ({ frames := 2, cells := 0, slots := 0, locals := 42 }) (va_Pc [.ref x, .int p0, .int p1, .int p2] (kPre D g [(x, .inr (8, fs_x)), (mw, .inr (4, fs_mw))] sz)) (kQi D g (fun (r : Int32) (u : va_W) => (-1) = r) (va_A [(x, .inr (8, fs_x)), (mw, .inr (4, fs_mw))] sz)) 0 0 (va_A [(x, .inr (8, fs_x)), (mw, .inr (4, fs_mw))] sz) := by
  refine k_head (cc := cX8_bid) (maxL := 6) (ret := (some .int)) (by decide) rfl (Nat.le_of_ble_eq_true rfl) ?_
  intro p e s m below meth c ls A hx hb hr hlocks hml hown hin hts hA hP hK hD hS hl
  have hown : s.vm.findClass RX8 = some m.cls := hown
  have hl : lv_has ls 6 [(0, .ref x), (1, .int p0), (2, .int p1), (3, .int p2)] := hl
  refine lv_aload_n hx hb dX8_bid_0 rfl (lv_at hl 0 rfl) ?_
  refine lv_iconst (v := 0) hx hb dX8_bid_1 (by decide) ?_
  refine va_put (D := D) (ci := 8) (v := .int 0) (ty := .int) (C := RX8) (T := TX8) (N := 14) hx hb hts iX8_bid_X8 tyX8 tyX8_ok nmX8 hown hK hP hD hS 0 rfl rfl 11 (by decide) (hts (.fieldLink RX8 70 "CatLeases" "lyingCount" "I") (List.mem_of_getElem? (i := 1) rfl)) (fun _ h9 => h9) rfl (by decide +kernel) rfl rfl ((k_len h_x_lyingCount)) dX8_bid_2 (fun H locs hP hD hS => ?_)
  have hP : va_P D vwCl [(x, .inr (8, (fs_x.set 11 (.int 0)))), (mw, .inr (4, fs_mw))] H := hP
  have hD : va_D A [(x, .inr (8, (fs_x.set 11 (.int 0)))), (mw, .inr (4, fs_mw))] := hD
  refine lv_iload_n hx hb dX8_bid_5 rfl (lv_at hl 1 rfl) ?_
  refine lv_iload_n hx hb dX8_bid_6 rfl (lv_at hl 2 rfl) ?_
  refine lv_icmp_eq (tgt := 34) hx hb dX8_bid_7 (by decide) (fun c_1 => ?_) (fun c_1 => ?_)
  · refine lv_iconst (v := (-1)) hx hb dX8_bid_34 (by decide) ?_
    exact k_iret hx hb hr hlocks hK hP hD hS rfl dX8_bid_35
  · refine lv_aload_n hx hb dX8_bid_10 rfl (lv_at hl 0 rfl) ?_
    refine lv_iload_n hx hb dX8_bid_11 rfl (lv_at hl 1 rfl) ?_
    refine k_goi (wr := []) hP hD hS hA [0, 1] [] rfl rfl (by decide) (by decide) (va_runV (As := [.int p0]) (rest := []) ⟨hx, hb, hml, hown, hts⟩ (c_isOut l D g _ x p0 mw (fs_x.set 11 (.int 0)) fs_mw (k_sn (by decide) h_x_mews) h_mw_tenants) (cwV 1 hts gX8_bid_X8_isOut rfl rfl rfl (by decide +kernel) ⟨Nat.le_of_ble_eq_true rfl, Nat.le_of_ble_eq_true rfl⟩) (k_preV hK (hP.sub [0, 1] rfl) (hD.sub [0, 1] (by decide) rfl) 8 0 rfl rfl) rfl rfl hl.1 rfl (lv_room (Nat.le_of_ble_eq_true rfl)) dX8_bid_12 ⟨Nat.le_of_ble_eq_true rfl, Nat.le_of_ble_eq_true rfl⟩) (fun r_2 u_3 H locs hw hP hD hS => ?_)
    rcases hw with ⟨rfl, rfl⟩
    have hP := hP.sub (ws' := [(x, .inr (8, (fs_x.set 11 (.int 0)))), (mw, .inr (4, fs_mw))]) [0, 1] rfl
    have hD := hD.sub (ws' := [(x, .inr (8, (fs_x.set 11 (.int 0)))), (mw, .inr (4, fs_mw))]) [0, 1] (by decide) rfl
    refine lv_if_eq (tgt := 34) hx hb dX8_bid_15 (by decide) (fun _ => ?_) (fun c9 => absurd (by first | decide | rfl) c9)
    refine lv_iconst (v := (-1)) hx hb dX8_bid_34 (by decide) ?_
    exact k_iret hx hb hr hlocks hK hP hD hS rfl dX8_bid_35
set_option maxHeartbeats 4000000 in
set_option maxRecDepth 100000 in
theorem c_lies (l : Launch) (D : va_G) (g : Nat → ClassId) (sz : Nat) (x : Nat) (p0 : Int32) (fs_x : List Value) (h_x_lyingCount : fs_x[11]? = some (.int 0)) : Met l yX8_lies wsX8_lies ({ frames := 0, cells := 0, slots := 0, locals := 0 }) (va_Pc [.ref x, .int p0] (kPre D g [(x, .inr (8, fs_x))] sz)) (kQi D g (fun (r : Int32) (u : va_W) => (-2) = r) (va_A [(x, .inr (8, fs_x))] sz)) 0 0 (va_A [(x, .inr (8, fs_x))] sz) := by
  refine k_head (cc := cX8_lies) (maxL := 2) (ret := (some .int)) (by decide) rfl (Nat.le_of_ble_eq_true rfl) ?_
  intro p e s m below meth c ls A hx hb hr hlocks hml hown hin hts hA hP hK hD hS hl
  have hown : s.vm.findClass RX8 = some m.cls := hown
  have hl : lv_has ls 2 [(0, .ref x), (1, .int p0)] := hl
  refine lv_iload_n hx hb dX8_lies_0 rfl (lv_at hl 1 rfl) ?_
  refine lv_if_lt (tgt := 21) hx hb dX8_lies_1 (by decide) (fun c_1 => ?_) (fun c_1 => ?_)
  · refine lv_bipush (v := (-2)) hx hb dX8_lies_21 (by decide) ?_
    exact k_iret hx hb hr hlocks hK hP hD hS rfl dX8_lies_23
  · refine lv_iload_n hx hb dX8_lies_4 rfl (lv_at hl 1 rfl) ?_
    refine lv_aload_n hx hb dX8_lies_5 rfl (lv_at hl 0 rfl) ?_
    refine va_get (D := D) (ci := 8) (v := .int 0) (C := RX8) (T := TX8) (N := 14) hx hb hts iX8_lies_X8 hown hK hP 0 rfl rfl 11 (by decide) (hts (.fieldLink RX8 70 "CatLeases" "lyingCount" "I") (List.mem_of_getElem? (i := 1) rfl)) (fun _ h9 => h9) h_x_lyingCount dX8_lies_6 ?_
    refine lv_icmp_ge (tgt := 21) hx hb dX8_lies_9 (by decide) (fun c_2 => ?_) (fun c_2 => ?_)
    · refine lv_bipush (v := (-2)) hx hb dX8_lies_21 (by decide) ?_
      exact k_iret hx hb hr hlocks hK hP hD hS rfl dX8_lies_23
    · exfalso; have k0 : (0 : Int32).toInt = 0 := (by decide); simp only [Int32.lt_iff_toInt_lt, Int32.le_iff_toInt_le, ← Int32.toInt_inj] at c_1 c_2; omega
set_option maxHeartbeats 4000000 in
set_option maxRecDepth 100000 in
theorem c_areCats (l : Launch) (D : va_G) (g : Nat → ClassId) (sz : Nat) (x : Nat) (p0 : Int32) (mw : Nat) (fs_x : List Value) (fs_mw : List Value) (h_x_mews : fs_x[3]? = some (.ref mw)) (h_mw_cats : fs_mw[0]? = some (.int 0)) : Met l yX8_areCats wsX8_areCats ({ frames := 0, cells := 0, slots := 0, locals := 0 }) (va_Pc [.ref x, .int p0] (kPre D g [(x, .inr (8, fs_x)), (mw, .inr (4, fs_mw))] sz)) (kQi D g (fun (r : Int32) (u : va_W) => ((p0 < 0) ∧ 0 = r ∧ u = [(x, .inr (8, fs_x)), (mw, .inr (4, fs_mw))]) ∨ ((¬ p0 < 0) ∧ (1 ≤ p0) ∧ 0 = r ∧ u = [(x, .inr (8, fs_x)), (mw, .inr (4, fs_mw))]) ∨ ((¬ p0 < 0) ∧ (¬ 1 ≤ p0) ∧ 1 = r ∧ u = [(x, .inr (8, fs_x)), (mw, .inr (4, fs_mw))])) (va_A [(x, .inr (8, fs_x)), (mw, .inr (4, fs_mw))] sz)) 0 0 (va_A [(x, .inr (8, fs_x)), (mw, .inr (4, fs_mw))] sz) := by
  refine k_head (cc := cX8_areCats) (maxL := 2) (ret := (some .boolean)) (by decide) rfl (Nat.le_of_ble_eq_true rfl) ?_
  intro p e s m below meth c ls A hx hb hr hlocks hml hown hin hts hA hP hK hD hS hl
  have hown : s.vm.findClass RX8 = some m.cls := hown
  have hl : lv_has ls 2 [(0, .ref x), (1, .int p0)] := hl
  refine lv_iload_n hx hb dX8_areCats_0 rfl (lv_at hl 1 rfl) ?_
  refine lv_if_lt (tgt := 21) hx hb dX8_areCats_1 (by decide) (fun c_1 => ?_) (fun c_1 => ?_)
  · refine lv_iconst (v := 0) hx hb dX8_areCats_21 (by decide) ?_
    exact k_zret hx hb hr hlocks rfl hK hP hD hS (Or.inl ⟨c_1, rfl, rfl⟩) dX8_areCats_22
  · refine lv_iload_n hx hb dX8_areCats_4 rfl (lv_at hl 1 rfl) ?_
    refine lv_iconst (v := 1) hx hb dX8_areCats_5 (by decide) ?_
    refine lv_aload_n hx hb dX8_areCats_6 rfl (lv_at hl 0 rfl) ?_
    refine va_get (D := D) (ci := 8) (v := .ref mw) (C := RX8) (T := TX8) (N := 14) hx hb hts iX8_areCats_X8 hown hK hP 0 rfl rfl 3 (by decide) (hts (.fieldLink RX8 27 "CatLeases" "mews" "LCatLeases$Mews;") (List.mem_of_getElem? (i := 1) rfl)) (fun _ h9 => h9) h_x_mews dX8_areCats_7 ?_
    refine va_get (D := D) (ci := 4) (v := .int 0) (C := RX4) (T := TX4) (N := 11) hx hb hts iX8_areCats_X4 hown hK hP 1 rfl rfl 0 (by decide) (hts (.fieldLink RX8 170 "CatLeases$Mews" "cats" "I") (List.mem_of_getElem? (i := 2) rfl)) (fun _ h9 => h9) h_mw_cats dX8_areCats_10 ?_
    refine lv_ishl hx hb dX8_areCats_13 ?_
    refine k_top (v := 1) (by decide) ?_
    refine lv_icmp_ge (tgt := 21) hx hb dX8_areCats_14 (by decide) (fun c_2 => ?_) (fun c_2 => ?_)
    · refine lv_iconst (v := 0) hx hb dX8_areCats_21 (by decide) ?_
      exact k_zret hx hb hr hlocks rfl hK hP hD hS (Or.inr (Or.inl ⟨c_1, c_2, rfl, rfl⟩)) dX8_areCats_22
    · refine lv_iconst (v := 1) hx hb dX8_areCats_17 (by decide) ?_
      refine lv_goto (tgt := 22) hx hb dX8_areCats_18 (by decide) ?_
      exact k_zret hx hb hr hlocks rfl hK hP hD hS (Or.inr (Or.inr ⟨c_1, c_2, rfl, rfl⟩)) dX8_areCats_22
set_option maxHeartbeats 4000000 in
set_option maxRecDepth 100000 in
theorem c_keeper (l : Launch) (D : va_G) (g : Nat → ClassId) (sz : Nat) (x : Nat) (p0 : Int32) (p1 : Int32) (mw : Nat) (fs_x : List Value) (fs_mw : List Value) (h_x_mews : fs_x[3]? = some (.ref mw)) (h_mw_rooms : fs_mw[1]? = some (.int 0)) : Met l yX8_keeper wsX8_keeper ({ frames := 1, cells := 0, slots := 0, locals := 21 }) (va_Pc [.ref x, .int p0, .int p1] (kPre D g [(x, .inr (8, fs_x)), (mw, .inr (4, fs_mw))] sz)) (kQi D g (fun (r : Int32) (u : va_W) => (-2) = r) (va_A [(x, .inr (8, fs_x)), (mw, .inr (4, fs_mw))] sz)) 0 0 (va_A [(x, .inr (8, fs_x)), (mw, .inr (4, fs_mw))] sz) := by
  refine k_head (cc := cX8_keeper) (maxL := 4) (ret := (some .int)) (by decide) rfl (Nat.le_of_ble_eq_true rfl) ?_
  intro p e s m below meth c ls A hx hb hr hlocks hml hown hin hts hA hP hK hD hS hl
  have hown : s.vm.findClass RX8 = some m.cls := hown
  have hl : lv_has ls 4 [(0, .ref x), (1, .int p0), (2, .int p1)] := hl
  refine lv_aload_n hx hb dX8_keeper_0 rfl (lv_at hl 0 rfl) ?_
  refine lv_iload_n hx hb dX8_keeper_1 rfl (lv_at hl 1 rfl) ?_
  refine k_goi (wr := []) hP hD hS hA [0, 1] [] rfl rfl (by decide) (by decide) (va_runV (As := [.int p0]) (rest := []) ⟨hx, hb, hml, hown, hts⟩ (c_isRoom l D g _ x p0 mw fs_x fs_mw h_x_mews h_mw_rooms) (cwV 1 hts gX8_keeper_X8_isRoom rfl rfl rfl (by decide +kernel) ⟨Nat.le_of_ble_eq_true rfl, Nat.le_of_ble_eq_true rfl⟩) (k_preV hK (hP.sub [0, 1] rfl) (hD.sub [0, 1] (by decide) rfl) 8 0 rfl rfl) rfl rfl hl.1 rfl (lv_room (Nat.le_of_ble_eq_true rfl)) dX8_keeper_2 ⟨Nat.le_of_ble_eq_true rfl, Nat.le_of_ble_eq_true rfl⟩) (fun r_1 u_2 H locs hw hP hD hS => ?_)
  rcases hw with ⟨rfl, rfl⟩
  have hP := hP.sub (ws' := [(x, .inr (8, fs_x)), (mw, .inr (4, fs_mw))]) [0, 1] rfl
  have hD := hD.sub (ws' := [(x, .inr (8, fs_x)), (mw, .inr (4, fs_mw))]) [0, 1] (by decide) rfl
  refine lv_if_eq (tgt := 16) hx hb dX8_keeper_5 (by decide) (fun _ => ?_) (fun c9 => absurd (by first | decide | rfl) c9)
  refine lv_bipush (v := (-2)) hx hb dX8_keeper_16 (by decide) ?_
  exact k_iret hx hb hr hlocks hK hP hD hS rfl dX8_keeper_18
set_option maxHeartbeats 4000000 in
set_option maxRecDepth 100000 in
theorem c_probate (l : Launch) (D : va_G) (g : Nat → ClassId) (sz : Nat) (x : Nat) (p0 : Int32) (mw : Nat) (ac : Nat) (sa : Nat) (s0 : Nat) (fs_x : List Value) (fs_mw : List Value) (fs_ac : List Value) (f_sa : Nat → Option Nat) (h_x_mews : fs_x[3]? = some (.ref mw)) (h_x_acts : fs_x[4]? = some (.ref ac)) (h_mw_cats : fs_mw[0]? = some (.int 0)) (h_mw_rooms : fs_mw[1]? = some (.int 0)) (h_ac_states : fs_ac[2]? = some (.ref sa)) (h_ac_index : fs_ac[3]? = some (.int 0)) (h_sa_at0 : f_sa 0 = some s0) : Met l yX8_probate wsX8_probate ({ frames := 1, cells := 0, slots := 0, locals := 21 }) (va_Pc [.ref x, .int p0] (kPre D g [(x, .inr (8, fs_x)), (mw, .inr (4, fs_mw)), (ac, .inr (0, fs_ac)), (sa, .inl (g 4, 41, .inr (.inr (.inr (.inr f_sa)))))] sz)) (kQi D g (fun (r : Int32) (u : va_W) => ((p0 < 0) ∧ (-1) = r) ∨ ((¬ p0 < 0) ∧ (1 ≤ p0) ∧ (-1) = r) ∨ ((¬ p0 < 0) ∧ (¬ 1 ≤ p0) ∧ 0 = r)) (va_A [(x, .inr (8, fs_x)), (mw, .inr (4, fs_mw)), (ac, .inr (0, fs_ac)), (sa, .inl (g 4, 41, .inr (.inr (.inr (.inr f_sa)))))] sz)) 0 0 (va_A [(x, .inr (8, fs_x)), (mw, .inr (4, fs_mw)), (ac, .inr (0, fs_ac)), (sa, .inl (g 4, 41, .inr (.inr (.inr (.inr f_sa)))))] sz) := by
  refine k_head (cc := cX8_probate) (maxL := 5) (ret := (some .int)) (by decide) rfl (Nat.le_of_ble_eq_true rfl) ?_
  intro p e s m below meth c ls A hx hb hr hlocks hml hown hin hts hA hP hK hD hS hl
  have hown : s.vm.findClass RX8 = some m.cls := hown
  have hl : lv_has ls 5 [(0, .ref x), (1, .int p0)] := hl
  refine lv_aload_n hx hb dX8_probate_0 rfl (lv_at hl 0 rfl) ?_
  refine lv_iload_n hx hb dX8_probate_1 rfl (lv_at hl 1 rfl) ?_
  refine k_goi (wr := [(ac, .inr (0, fs_ac)), (sa, .inl (g 4, 41, .inr (.inr (.inr (.inr f_sa)))))]) hP hD hS hA [0, 1] [2, 3] rfl rfl (by decide) (by decide) (va_runV (As := [.int p0]) (rest := []) ⟨hx, hb, hml, hown, hts⟩ (c_areCats l D g _ x p0 mw fs_x fs_mw h_x_mews h_mw_cats) (cwV 1 hts gX8_probate_X8_areCats rfl rfl rfl (by decide +kernel) ⟨Nat.le_of_ble_eq_true rfl, Nat.le_of_ble_eq_true rfl⟩) (k_preV hK (hP.sub [0, 1] rfl) (hD.sub [0, 1] (by decide) rfl) 8 0 rfl rfl) rfl rfl hl.1 rfl (lv_room (Nat.le_of_ble_eq_true rfl)) dX8_probate_2 ⟨Nat.le_of_ble_eq_true rfl, Nat.le_of_ble_eq_true rfl⟩) (fun r_1 u_2 H locs hw hP hD hS => ?_)
  rcases hw with ⟨c_3, rfl, rfl⟩ | ⟨c_4, c_5, rfl, rfl⟩ | ⟨c_6, c_7, rfl, rfl⟩
  · have hP := hP.sub (ws' := [(x, .inr (8, fs_x)), (mw, .inr (4, fs_mw)), (ac, .inr (0, fs_ac)), (sa, .inl (g 4, 41, .inr (.inr (.inr (.inr f_sa)))))]) [2, 3, 0, 1] rfl
    have hD := hD.sub (ws' := [(x, .inr (8, fs_x)), (mw, .inr (4, fs_mw)), (ac, .inr (0, fs_ac)), (sa, .inl (g 4, 41, .inr (.inr (.inr (.inr f_sa)))))]) [2, 3, 0, 1] (by decide) rfl
    refine lv_if_ne (tgt := 10) hx hb dX8_probate_5 (by decide) (fun c9 => absurd (by first | decide | rfl) c9) (fun _ => ?_)
    refine lv_iconst (v := (-1)) hx hb dX8_probate_8 (by decide) ?_
    exact k_iret hx hb hr hlocks hK hP hD hS (Or.inl ⟨c_3, rfl⟩) dX8_probate_9
  · have hP := hP.sub (ws' := [(x, .inr (8, fs_x)), (mw, .inr (4, fs_mw)), (ac, .inr (0, fs_ac)), (sa, .inl (g 4, 41, .inr (.inr (.inr (.inr f_sa)))))]) [2, 3, 0, 1] rfl
    have hD := hD.sub (ws' := [(x, .inr (8, fs_x)), (mw, .inr (4, fs_mw)), (ac, .inr (0, fs_ac)), (sa, .inl (g 4, 41, .inr (.inr (.inr (.inr f_sa)))))]) [2, 3, 0, 1] (by decide) rfl
    refine lv_if_ne (tgt := 10) hx hb dX8_probate_5 (by decide) (fun c9 => absurd (by first | decide | rfl) c9) (fun _ => ?_)
    refine lv_iconst (v := (-1)) hx hb dX8_probate_8 (by decide) ?_
    exact k_iret hx hb hr hlocks hK hP hD hS (Or.inr (Or.inl ⟨c_4, c_5, rfl⟩)) dX8_probate_9
  · have hP := hP.sub (ws' := [(x, .inr (8, fs_x)), (mw, .inr (4, fs_mw)), (ac, .inr (0, fs_ac)), (sa, .inl (g 4, 41, .inr (.inr (.inr (.inr f_sa)))))]) [2, 3, 0, 1] rfl
    have hD := hD.sub (ws' := [(x, .inr (8, fs_x)), (mw, .inr (4, fs_mw)), (ac, .inr (0, fs_ac)), (sa, .inl (g 4, 41, .inr (.inr (.inr (.inr f_sa)))))]) [2, 3, 0, 1] (by decide) rfl
    refine lv_if_ne (tgt := 10) hx hb dX8_probate_5 (by decide) (fun _ => ?_) (fun c9 => absurd c9 (by first | decide | simp))
    refine lv_aload_n hx hb dX8_probate_10 rfl (lv_at hl 0 rfl) ?_
    refine va_get (D := D) (ci := 8) (v := .ref ac) (C := RX8) (T := TX8) (N := 14) hx hb hts iX8_probate_X8 hown hK hP 0 rfl rfl 4 (by decide) (hts (.fieldLink RX8 34 "CatLeases" "acts" "LCatLeases$Acts;") (List.mem_of_getElem? (i := 1) rfl)) (fun _ h9 => h9) h_x_acts dX8_probate_11 ?_
    refine k_gor (wr := [(x, .inr (8, fs_x)), (mw, .inr (4, fs_mw))]) hP hD hS hA [2, 3] [0, 1] rfl rfl (by decide) (by decide) (va_runV (As := []) (rest := []) ⟨hx, hb, hml, hown, hts⟩ (c_current l D g _ ac sa s0 fs_ac f_sa h_ac_states h_ac_index h_sa_at0) (cwV 0 hts gX8_probate_X0_current rfl rfl rfl (by decide +kernel) ⟨Nat.le_of_ble_eq_true rfl, Nat.le_of_ble_eq_true rfl⟩) (k_preV hK (hP.sub [2, 3] rfl) (hD.sub [2, 3] (by decide) rfl) 0 0 rfl rfl) rfl rfl hl.1 rfl (lv_room (Nat.le_of_ble_eq_true rfl)) dX8_probate_14 ⟨Nat.le_of_ble_eq_true rfl, Nat.le_of_ble_eq_true rfl⟩) (fun r_8 u_9 H locs hw hP hD hS => ?_)
    rcases hw with ⟨rfl, rfl⟩
    have hP := hP.sub (ws' := [(x, .inr (8, fs_x)), (mw, .inr (4, fs_mw)), (ac, .inr (0, fs_ac)), (sa, .inl (g 4, 41, .inr (.inr (.inr (.inr f_sa)))))]) [0, 1, 2, 3] rfl
    have hD := hD.sub (ws' := [(x, .inr (8, fs_x)), (mw, .inr (4, fs_mw)), (ac, .inr (0, fs_ac)), (sa, .inl (g 4, 41, .inr (.inr (.inr (.inr f_sa)))))]) [0, 1, 2, 3] (by decide) rfl
    refine lv_astore_n (lv' := [(2, .ref s0), (0, .ref x), (1, .int p0)]) hx hb dX8_probate_17 rfl hl (by decide) rfl (fun ls hl => ?_)
    refine lv_iconst (v := 0) hx hb dX8_probate_18 (by decide) ?_
    refine lv_istore_n (lv' := [(3, .int 0), (2, .ref s0), (0, .ref x), (1, .int p0)]) hx hb dX8_probate_19 rfl hl (by decide) rfl (fun ls hl => ?_)
    refine lv_iconst (v := 0) hx hb dX8_probate_20 (by decide) ?_
    refine lv_istore (lv' := [(4, .int 0), (3, .int 0), (2, .ref s0), (0, .ref x), (1, .int p0)]) hx hb dX8_probate_21 hl (by decide) rfl (fun ls hl => ?_)
    refine lv_iload hx hb dX8_probate_23 (lv_at hl 0 rfl) ?_
    refine lv_aload_n hx hb dX8_probate_25 rfl (lv_at hl 3 rfl) ?_
    refine va_get (D := D) (ci := 8) (v := .ref mw) (C := RX8) (T := TX8) (N := 14) hx hb hts iX8_probate_X8 hown hK hP 0 rfl rfl 3 (by decide) (hts (.fieldLink RX8 27 "CatLeases" "mews" "LCatLeases$Mews;") (List.mem_of_getElem? (i := 2) rfl)) (fun _ h9 => h9) h_x_mews dX8_probate_26 ?_
    refine va_get (D := D) (ci := 4) (v := .int 0) (C := RX4) (T := TX4) (N := 11) hx hb hts iX8_probate_X4 hown hK hP 1 rfl rfl 1 (by decide) (hts (.fieldLink RX8 173 "CatLeases$Mews" "rooms" "I") (List.mem_of_getElem? (i := 3) rfl)) (fun _ h9 => h9) h_mw_rooms dX8_probate_29 ?_
    refine lv_icmp_ge (tgt := 70) hx hb dX8_probate_32 (by decide) (fun _ => ?_) (fun c9 => absurd (by first | decide | rfl) c9)
    refine lv_iload_n hx hb dX8_probate_70 rfl (lv_at hl 1 rfl) ?_
    exact k_iret hx hb hr hlocks hK hP hD hS (Or.inr (Or.inr ⟨c_6, c_7, rfl⟩)) dX8_probate_71
set_option maxHeartbeats 4000000 in
set_option maxRecDepth 100000 in
theorem c_crowd (l : Launch) (D : va_G) (g : Nat → ClassId) (sz : Nat) (x : Nat) (p0 : Int32) (mw : Nat) (fs_x : List Value) (fs_mw : List Value) (h_x_mews : fs_x[3]? = some (.ref mw)) (h_mw_cats : fs_mw[0]? = some (.int 0)) : Met l yX8_crowd wsX8_crowd ({ frames := 2, cells := 0, slots := 0, locals := 42 }) (va_Pc [.ref x, .int p0] (kPre D g [(x, .inr (8, fs_x)), (mw, .inr (4, fs_mw))] sz)) (kQi D g (fun (r : Int32) (u : va_W) => (-1) = r) (va_A [(x, .inr (8, fs_x)), (mw, .inr (4, fs_mw))] sz)) 0 0 (va_A [(x, .inr (8, fs_x)), (mw, .inr (4, fs_mw))] sz) := by
  refine k_head (cc := cX8_crowd) (maxL := 3) (ret := (some .int)) (by decide) rfl (Nat.le_of_ble_eq_true rfl) ?_
  intro p e s m below meth c ls A hx hb hr hlocks hml hown hin hts hA hP hK hD hS hl
  have hown : s.vm.findClass RX8 = some m.cls := hown
  have hl : lv_has ls 3 [(0, .ref x), (1, .int p0)] := hl
  refine lv_aload_n hx hb dX8_crowd_0 rfl (lv_at hl 0 rfl) ?_
  refine lv_iload_n hx hb dX8_crowd_1 rfl (lv_at hl 1 rfl) ?_
  refine k_goi (wr := []) hP hD hS hA [0, 1] [] rfl rfl (by decide) (by decide) (va_runV (As := [.int p0]) (rest := []) ⟨hx, hb, hml, hown, hts⟩ (c_isLivingCat l D g _ x p0 mw fs_x fs_mw h_x_mews h_mw_cats) (cwV 1 hts gX8_crowd_X8_isLivingCat rfl rfl rfl (by decide +kernel) ⟨Nat.le_of_ble_eq_true rfl, Nat.le_of_ble_eq_true rfl⟩) (k_preV hK (hP.sub [0, 1] rfl) (hD.sub [0, 1] (by decide) rfl) 8 0 rfl rfl) rfl rfl hl.1 rfl (lv_room (Nat.le_of_ble_eq_true rfl)) dX8_crowd_2 ⟨Nat.le_of_ble_eq_true rfl, Nat.le_of_ble_eq_true rfl⟩) (fun r_1 u_2 H locs hw hP hD hS => ?_)
  rcases hw with ⟨rfl, rfl⟩
  have hP := hP.sub (ws' := [(x, .inr (8, fs_x)), (mw, .inr (4, fs_mw))]) [0, 1] rfl
  have hD := hD.sub (ws' := [(x, .inr (8, fs_x)), (mw, .inr (4, fs_mw))]) [0, 1] (by decide) rfl
  refine lv_if_ne (tgt := 10) hx hb dX8_crowd_5 (by decide) (fun c9 => absurd (by first | decide | rfl) c9) (fun _ => ?_)
  refine lv_iconst (v := (-1)) hx hb dX8_crowd_8 (by decide) ?_
  exact k_iret hx hb hr hlocks hK hP hD hS rfl dX8_crowd_9
set_option maxHeartbeats 4000000 in
set_option maxRecDepth 100000 in
theorem c_fondest (l : Launch) (D : va_G) (g : Nat → ClassId) (sz : Nat) (x : Nat) (mw : Nat) (ac : Nat) (sa : Nat) (s0 : Nat) (fs_x : List Value) (fs_mw : List Value) (fs_ac : List Value) (f_sa : Nat → Option Nat) (h_x_mews : fs_x[3]? = some (.ref mw)) (h_x_acts : fs_x[4]? = some (.ref ac)) (h_mw_cats : fs_mw[0]? = some (.int 0)) (h_ac_states : fs_ac[2]? = some (.ref sa)) (h_ac_index : fs_ac[3]? = some (.int 0)) (h_sa_at0 : f_sa 0 = some s0) : Met l yX8_fondest wsX8_fondest ({ frames := 1, cells := 0, slots := 0, locals := 20 }) (va_Pc [.ref x] (kPre D g [(x, .inr (8, fs_x)), (mw, .inr (4, fs_mw)), (ac, .inr (0, fs_ac)), (sa, .inl (g 4, 41, .inr (.inr (.inr (.inr f_sa)))))] sz)) (kQi D g (fun (r : Int32) (u : va_W) => (-1) = r) (va_A [(x, .inr (8, fs_x)), (mw, .inr (4, fs_mw)), (ac, .inr (0, fs_ac)), (sa, .inl (g 4, 41, .inr (.inr (.inr (.inr f_sa)))))] sz)) 0 0 (va_A [(x, .inr (8, fs_x)), (mw, .inr (4, fs_mw)), (ac, .inr (0, fs_ac)), (sa, .inl (g 4, 41, .inr (.inr (.inr (.inr f_sa)))))] sz) := by
  refine k_head (cc := cX8_fondest) (maxL := 7) (ret := (some .int)) (by decide) rfl (Nat.le_of_ble_eq_true rfl) ?_
  intro p e s m below meth c ls A hx hb hr hlocks hml hown hin hts hA hP hK hD hS hl
  have hown : s.vm.findClass RX8 = some m.cls := hown
  have hl : lv_has ls 7 [(0, .ref x)] := hl
  refine lv_aload_n hx hb dX8_fondest_0 rfl (lv_at hl 0 rfl) ?_
  refine va_get (D := D) (ci := 8) (v := .ref ac) (C := RX8) (T := TX8) (N := 14) hx hb hts iX8_fondest_X8 hown hK hP 0 rfl rfl 4 (by decide) (hts (.fieldLink RX8 34 "CatLeases" "acts" "LCatLeases$Acts;") (List.mem_of_getElem? (i := 1) rfl)) (fun _ h9 => h9) h_x_acts dX8_fondest_1 ?_
  refine k_gor (wr := [(x, .inr (8, fs_x)), (mw, .inr (4, fs_mw))]) hP hD hS hA [2, 3] [0, 1] rfl rfl (by decide) (by decide) (va_runV (As := []) (rest := []) ⟨hx, hb, hml, hown, hts⟩ (c_current l D g _ ac sa s0 fs_ac f_sa h_ac_states h_ac_index h_sa_at0) (cwV 0 hts gX8_fondest_X0_current rfl rfl rfl (by decide +kernel) ⟨Nat.le_of_ble_eq_true rfl, Nat.le_of_ble_eq_true rfl⟩) (k_preV hK (hP.sub [2, 3] rfl) (hD.sub [2, 3] (by decide) rfl) 0 0 rfl rfl) rfl rfl hl.1 rfl (lv_room (Nat.le_of_ble_eq_true rfl)) dX8_fondest_4 ⟨Nat.le_of_ble_eq_true rfl, Nat.le_of_ble_eq_true rfl⟩) (fun r_1 u_2 H locs hw hP hD hS => ?_)
  rcases hw with ⟨rfl, rfl⟩
  have hP := hP.sub (ws' := [(x, .inr (8, fs_x)), (mw, .inr (4, fs_mw)), (ac, .inr (0, fs_ac)), (sa, .inl (g 4, 41, .inr (.inr (.inr (.inr f_sa)))))]) [0, 1, 2, 3] rfl
  have hD := hD.sub (ws' := [(x, .inr (8, fs_x)), (mw, .inr (4, fs_mw)), (ac, .inr (0, fs_ac)), (sa, .inl (g 4, 41, .inr (.inr (.inr (.inr f_sa)))))]) [0, 1, 2, 3] (by decide) rfl
  refine lv_astore_n (lv' := [(1, .ref s0), (0, .ref x)]) hx hb dX8_fondest_7 rfl hl (by decide) rfl (fun ls hl => ?_)
  refine lv_iconst (v := (-1)) hx hb dX8_fondest_8 (by decide) ?_
  refine lv_istore_n (lv' := [(2, .int (-1)), (1, .ref s0), (0, .ref x)]) hx hb dX8_fondest_9 rfl hl (by decide) rfl (fun ls hl => ?_)
  refine lv_iconst (v := 0) hx hb dX8_fondest_10 (by decide) ?_
  refine lv_istore_n (lv' := [(3, .int 0), (2, .int (-1)), (1, .ref s0), (0, .ref x)]) hx hb dX8_fondest_11 rfl hl (by decide) rfl (fun ls hl => ?_)
  refine lv_iconst (v := 0) hx hb dX8_fondest_12 (by decide) ?_
  refine lv_istore (lv' := [(4, .int 0), (3, .int 0), (2, .int (-1)), (1, .ref s0), (0, .ref x)]) hx hb dX8_fondest_13 hl (by decide) rfl (fun ls hl => ?_)
  refine lv_iload hx hb dX8_fondest_15 (lv_at hl 0 rfl) ?_
  refine lv_aload_n hx hb dX8_fondest_17 rfl (lv_at hl 4 rfl) ?_
  refine va_get (D := D) (ci := 8) (v := .ref mw) (C := RX8) (T := TX8) (N := 14) hx hb hts iX8_fondest_X8 hown hK hP 0 rfl rfl 3 (by decide) (hts (.fieldLink RX8 27 "CatLeases" "mews" "LCatLeases$Mews;") (List.mem_of_getElem? (i := 2) rfl)) (fun _ h9 => h9) h_x_mews dX8_fondest_18 ?_
  refine va_get (D := D) (ci := 4) (v := .int 0) (C := RX4) (T := TX4) (N := 11) hx hb hts iX8_fondest_X4 hown hK hP 1 rfl rfl 0 (by decide) (hts (.fieldLink RX8 170 "CatLeases$Mews" "cats" "I") (List.mem_of_getElem? (i := 3) rfl)) (fun _ h9 => h9) h_mw_cats dX8_fondest_21 ?_
  refine lv_icmp_ge (tgt := 75) hx hb dX8_fondest_24 (by decide) (fun _ => ?_) (fun c9 => absurd (by first | decide | rfl) c9)
  refine lv_iload_n hx hb dX8_fondest_75 rfl (lv_at hl 2 rfl) ?_
  exact k_iret hx hb hr hlocks hK hP hD hS rfl dX8_fondest_76
set_option maxHeartbeats 4000000 in
set_option maxRecDepth 100000 in
theorem c_nobodys (l : Launch) (D : va_G) (g : Nat → ClassId) (sz : Nat) (x : Nat) (mw : Nat) (fs_x : List Value) (fs_mw : List Value) (h_x_mews : fs_x[3]? = some (.ref mw)) (h_mw_tenants : fs_mw[2]? = some (.int 0)) : Met l yX8_nobodys wsX8_nobodys ({ frames := 0, cells := 0, slots := 0, locals := 0 }) (va_Pc [.ref x] (kPre D g [(x, .inr (8, fs_x)), (mw, .inr (4, fs_mw))] sz)) (kQi D g (fun (r : Int32) (u : va_W) => 0 = r) (va_A [(x, .inr (8, fs_x)), (mw, .inr (4, fs_mw))] sz)) 0 0 (va_A [(x, .inr (8, fs_x)), (mw, .inr (4, fs_mw))] sz) := by
  refine k_head (cc := cX8_nobodys) (maxL := 3) (ret := (some .int)) (by decide) rfl (Nat.le_of_ble_eq_true rfl) ?_
  intro p e s m below meth c ls A hx hb hr hlocks hml hown hin hts hA hP hK hD hS hl
  have hown : s.vm.findClass RX8 = some m.cls := hown
  have hl : lv_has ls 3 [(0, .ref x)] := hl
  refine lv_iconst (v := 0) hx hb dX8_nobodys_0 (by decide) ?_
  refine lv_istore_n (lv' := [(1, .int 0), (0, .ref x)]) hx hb dX8_nobodys_1 rfl hl (by decide) rfl (fun ls hl => ?_)
  refine lv_iconst (v := 0) hx hb dX8_nobodys_2 (by decide) ?_
  refine lv_istore_n (lv' := [(2, .int 0), (1, .int 0), (0, .ref x)]) hx hb dX8_nobodys_3 rfl hl (by decide) rfl (fun ls hl => ?_)
  refine lv_iload_n hx hb dX8_nobodys_4 rfl (lv_at hl 0 rfl) ?_
  refine lv_aload_n hx hb dX8_nobodys_5 rfl (lv_at hl 2 rfl) ?_
  refine va_get (D := D) (ci := 8) (v := .ref mw) (C := RX8) (T := TX8) (N := 14) hx hb hts iX8_nobodys_X8 hown hK hP 0 rfl rfl 3 (by decide) (hts (.fieldLink RX8 27 "CatLeases" "mews" "LCatLeases$Mews;") (List.mem_of_getElem? (i := 1) rfl)) (fun _ h9 => h9) h_x_mews dX8_nobodys_6 ?_
  refine va_get (D := D) (ci := 4) (v := .int 0) (C := RX4) (T := TX4) (N := 11) hx hb hts iX8_nobodys_X4 hown hK hP 1 rfl rfl 2 (by decide) (hts (.fieldLink RX8 102 "CatLeases$Mews" "tenants" "I") (List.mem_of_getElem? (i := 2) rfl)) (fun _ h9 => h9) h_mw_tenants dX8_nobodys_9 ?_
  refine lv_icmp_ge (tgt := 35) hx hb dX8_nobodys_12 (by decide) (fun _ => ?_) (fun c9 => absurd (by first | decide | rfl) c9)
  refine lv_iload_n hx hb dX8_nobodys_35 rfl (lv_at hl 1 rfl) ?_
  exact k_iret hx hb hr hlocks hK hP hD hS rfl dX8_nobodys_36
set_option maxHeartbeats 4000000 in
set_option maxRecDepth 100000 in
theorem c_purse (l : Launch) (D : va_G) (g : Nat → ClassId) (sz : Nat) (x : Nat) (p0 : Int32) (mw : Nat) (fs_x : List Value) (fs_mw : List Value) (h_x_mews : fs_x[3]? = some (.ref mw)) (h_mw_cats : fs_mw[0]? = some (.int 0)) : Met l yX8_purse wsX8_purse ({ frames := 1, cells := 0, slots := 0, locals := 21 }) (va_Pc [.ref x, .int p0] (kPre D g [(x, .inr (8, fs_x)), (mw, .inr (4, fs_mw))] sz)) (kQi D g (fun (r : Int32) (u : va_W) => (-1000000) = r) (va_A [(x, .inr (8, fs_x)), (mw, .inr (4, fs_mw))] sz)) 0 0 (va_A [(x, .inr (8, fs_x)), (mw, .inr (4, fs_mw))] sz) := by
  refine k_head (cc := cX8_purse) (maxL := 6) (ret := (some .int)) (by decide) rfl (Nat.le_of_ble_eq_true rfl) ?_
  intro p e s m below meth c ls A hx hb hr hlocks hml hown hin hts hA hP hK hD hS hl
  have hown : s.vm.findClass RX8 = some m.cls := hown
  have hl : lv_has ls 6 [(0, .ref x), (1, .int p0)] := hl
  refine lv_aload_n hx hb dX8_purse_0 rfl (lv_at hl 0 rfl) ?_
  refine lv_iload_n hx hb dX8_purse_1 rfl (lv_at hl 1 rfl) ?_
  refine k_goi (wr := []) hP hD hS hA [0, 1] [] rfl rfl (by decide) (by decide) (va_runV (As := [.int p0]) (rest := []) ⟨hx, hb, hml, hown, hts⟩ (c_isCat l D g _ x p0 mw fs_x fs_mw h_x_mews h_mw_cats) (cwV 1 hts gX8_purse_X8_isCat rfl rfl rfl (by decide +kernel) ⟨Nat.le_of_ble_eq_true rfl, Nat.le_of_ble_eq_true rfl⟩) (k_preV hK (hP.sub [0, 1] rfl) (hD.sub [0, 1] (by decide) rfl) 8 0 rfl rfl) rfl rfl hl.1 rfl (lv_room (Nat.le_of_ble_eq_true rfl)) dX8_purse_2 ⟨Nat.le_of_ble_eq_true rfl, Nat.le_of_ble_eq_true rfl⟩) (fun r_1 u_2 H locs hw hP hD hS => ?_)
  rcases hw with ⟨rfl, rfl⟩
  have hP := hP.sub (ws' := [(x, .inr (8, fs_x)), (mw, .inr (4, fs_mw))]) [0, 1] rfl
  have hD := hD.sub (ws' := [(x, .inr (8, fs_x)), (mw, .inr (4, fs_mw))]) [0, 1] (by decide) rfl
  refine lv_if_ne (tgt := 12) hx hb dX8_purse_5 (by decide) (fun c9 => absurd (by first | decide | rfl) c9) (fun _ => ?_)
  refine lv_ldcw (v := (-1000000)) hx hb hown (hts (.constant RX8 314 (-1000000)) (List.mem_of_getElem? (i := 1) rfl)) dX8_purse_8 ?_
  exact k_iret hx hb hr hlocks hK hP hD hS rfl dX8_purse_11
set_option maxHeartbeats 4000000 in
set_option maxRecDepth 100000 in
theorem c_isSeenQuarter (l : Launch) (D : va_G) (g : Nat → ClassId) (sz : Nat) (p0 : Int32) : Met l yX8_isSeenQuarter wsX8_isSeenQuarter ({ frames := 0, cells := 0, slots := 0, locals := 0 }) (va_Pc [.int p0] (kPre D g [] sz)) (kQi D g (fun (r : Int32) (u : va_W) => ((p0 < 0) ∧ 0 = r ∧ u = []) ∨ ((¬ p0 < 0) ∧ (9 < p0) ∧ 0 = r ∧ u = []) ∨ ((¬ p0 < 0) ∧ (¬ 9 < p0) ∧ 1 = r ∧ u = [])) (va_A [] sz)) 0 0 (va_A [] sz) := by
  refine k_head (cc := cX8_isSeenQuarter) (maxL := 1) (ret := (some .boolean)) (by decide) rfl (Nat.le_of_ble_eq_true rfl) ?_
  intro p e s m below meth c ls A hx hb hr hlocks hml hown hin hts hA hP hK hD hS hl
  have hown : s.vm.findClass RX8 = some m.cls := hown
  have hl : lv_has ls 1 [(0, .int p0)] := hl
  refine lv_iload_n hx hb dX8_isSeenQuarter_0 rfl (lv_at hl 0 rfl) ?_
  refine lv_if_lt (tgt := 14) hx hb dX8_isSeenQuarter_1 (by decide) (fun c_1 => ?_) (fun c_1 => ?_)
  · refine lv_iconst (v := 0) hx hb dX8_isSeenQuarter_14 (by decide) ?_
    exact k_zret hx hb hr hlocks rfl hK hP hD hS (Or.inl ⟨c_1, rfl, rfl⟩) dX8_isSeenQuarter_15
  · refine lv_iload_n hx hb dX8_isSeenQuarter_4 rfl (lv_at hl 0 rfl) ?_
    refine lv_bipush (v := 9) hx hb dX8_isSeenQuarter_5 (by decide) ?_
    refine lv_icmp_gt (tgt := 14) hx hb dX8_isSeenQuarter_7 (by decide) (fun c_2 => ?_) (fun c_2 => ?_)
    · refine lv_iconst (v := 0) hx hb dX8_isSeenQuarter_14 (by decide) ?_
      exact k_zret hx hb hr hlocks rfl hK hP hD hS (Or.inr (Or.inl ⟨c_1, c_2, rfl, rfl⟩)) dX8_isSeenQuarter_15
    · refine lv_iconst (v := 1) hx hb dX8_isSeenQuarter_10 (by decide) ?_
      refine lv_goto (tgt := 15) hx hb dX8_isSeenQuarter_11 (by decide) ?_
      exact k_zret hx hb hr hlocks rfl hK hP hD hS (Or.inr (Or.inr ⟨c_1, c_2, rfl, rfl⟩)) dX8_isSeenQuarter_15
set_option maxHeartbeats 4000000 in
set_option maxRecDepth 100000 in
theorem c_seen (l : Launch) (D : va_G) (g : Nat → ClassId) (sz : Nat) (x : Nat) (p0 : Int32) (p1 : Int32) (p2 : Int32) (mw : Nat) (fs_x : List Value) (fs_mw : List Value) (h_x_mews : fs_x[3]? = some (.ref mw)) (h_mw_tenants : fs_mw[2]? = some (.int 0)) : Met l yX8_seen wsX8_seen ({ frames := 1, cells := 0, slots := 0, locals := 21 }) (va_Pc [.ref x, .int p0, .int p1, .int p2] (kPre D g [(x, .inr (8, fs_x)), (mw, .inr (4, fs_mw))] sz)) (kQi D g (fun (r : Int32) (u : va_W) => (-1) = r) (va_A [(x, .inr (8, fs_x)), (mw, .inr (4, fs_mw))] sz)) 0 0 (va_A [(x, .inr (8, fs_x)), (mw, .inr (4, fs_mw))] sz) := by
  refine k_head (cc := cX8_seen) (maxL := 4) (ret := (some .int)) (by decide) rfl (Nat.le_of_ble_eq_true rfl) ?_
  intro p e s m below meth c ls A hx hb hr hlocks hml hown hin hts hA hP hK hD hS hl
  have hown : s.vm.findClass RX8 = some m.cls := hown
  have hl : lv_has ls 4 [(0, .ref x), (1, .int p0), (2, .int p1), (3, .int p2)] := hl
  refine lv_iload_n hx hb dX8_seen_0 rfl (lv_at hl 1 rfl) ?_
  refine k_goi (wr := [(x, .inr (8, fs_x)), (mw, .inr (4, fs_mw))]) hP hD hS hA [] [0, 1] rfl rfl (by decide) (by decide) (va_runS (As := [.int p0]) (rest := []) ⟨hx, hb, hml, hown, hts⟩ (c_isSeenQuarter l D g _ p0) (va_cwS 1 hts gX8_seen_X8_isSeenQuarter rfl rfl rfl (by decide +kernel) ⟨Nat.le_of_ble_eq_true rfl, Nat.le_of_ble_eq_true rfl⟩) (k_preS hK (hP.sub [] rfl) (hD.sub [] (by decide) rfl)) rfl rfl hl.1 rfl (lv_room (Nat.le_of_ble_eq_true rfl)) dX8_seen_1 ⟨Nat.le_of_ble_eq_true rfl, Nat.le_of_ble_eq_true rfl⟩) (fun r_1 u_2 H locs hw hP hD hS => ?_)
  rcases hw with ⟨c_3, rfl, rfl⟩ | ⟨c_4, c_5, rfl, rfl⟩ | ⟨c_6, c_7, rfl, rfl⟩
  · have hP := hP.sub (ws' := [(x, .inr (8, fs_x)), (mw, .inr (4, fs_mw))]) [0, 1] rfl
    have hD := hD.sub (ws' := [(x, .inr (8, fs_x)), (mw, .inr (4, fs_mw))]) [0, 1] (by decide) rfl
    refine lv_if_eq (tgt := 25) hx hb dX8_seen_4 (by decide) (fun _ => ?_) (fun c9 => absurd (by first | decide | rfl) c9)
    refine lv_iconst (v := (-1)) hx hb dX8_seen_25 (by decide) ?_
    exact k_iret hx hb hr hlocks hK hP hD hS rfl dX8_seen_26
  · have hP := hP.sub (ws' := [(x, .inr (8, fs_x)), (mw, .inr (4, fs_mw))]) [0, 1] rfl
    have hD := hD.sub (ws' := [(x, .inr (8, fs_x)), (mw, .inr (4, fs_mw))]) [0, 1] (by decide) rfl
    refine lv_if_eq (tgt := 25) hx hb dX8_seen_4 (by decide) (fun _ => ?_) (fun c9 => absurd (by first | decide | rfl) c9)
    refine lv_iconst (v := (-1)) hx hb dX8_seen_25 (by decide) ?_
    exact k_iret hx hb hr hlocks hK hP hD hS rfl dX8_seen_26
  · have hP := hP.sub (ws' := [(x, .inr (8, fs_x)), (mw, .inr (4, fs_mw))]) [0, 1] rfl
    have hD := hD.sub (ws' := [(x, .inr (8, fs_x)), (mw, .inr (4, fs_mw))]) [0, 1] (by decide) rfl
    refine lv_if_eq (tgt := 25) hx hb dX8_seen_4 (by decide) (fun c9 => absurd c9 (by first | decide | simp)) (fun _ => ?_)
    refine lv_aload_n hx hb dX8_seen_7 rfl (lv_at hl 0 rfl) ?_
    refine lv_iload_n hx hb dX8_seen_8 rfl (lv_at hl 2 rfl) ?_
    refine k_goi (wr := []) hP hD hS hA [0, 1] [] rfl rfl (by decide) (by decide) (va_runV (As := [.int p1]) (rest := []) ⟨hx, hb, hml, hown, hts⟩ (c_isTenant l D g _ x p1 mw fs_x fs_mw h_x_mews h_mw_tenants) (cwV 1 hts gX8_seen_X8_isTenant rfl rfl rfl (by decide +kernel) ⟨Nat.le_of_ble_eq_true rfl, Nat.le_of_ble_eq_true rfl⟩) (k_preV hK (hP.sub [0, 1] rfl) (hD.sub [0, 1] (by decide) rfl) 8 0 rfl rfl) rfl rfl hl.1 rfl (lv_room (Nat.le_of_ble_eq_true rfl)) dX8_seen_9 ⟨Nat.le_of_ble_eq_true rfl, Nat.le_of_ble_eq_true rfl⟩) (fun r_8 u_9 H locs hw hP hD hS => ?_)
    rcases hw with ⟨rfl, rfl⟩
    have hP := hP.sub (ws' := [(x, .inr (8, fs_x)), (mw, .inr (4, fs_mw))]) [0, 1] rfl
    have hD := hD.sub (ws' := [(x, .inr (8, fs_x)), (mw, .inr (4, fs_mw))]) [0, 1] (by decide) rfl
    refine lv_if_eq (tgt := 25) hx hb dX8_seen_12 (by decide) (fun _ => ?_) (fun c9 => absurd (by first | decide | rfl) c9)
    refine lv_iconst (v := (-1)) hx hb dX8_seen_25 (by decide) ?_
    exact k_iret hx hb hr hlocks hK hP hD hS rfl dX8_seen_26
set_option maxHeartbeats 4000000 in
set_option maxRecDepth 100000 in
theorem c_takeBack (l : Launch) (D : va_G) (g : Nat → ClassId) (sz : Nat) (sg : Nat) (p0 : Int32) (p1 : Int32) (fs_sg : List Value) (h_sg_count : fs_sg[0]? = some (.int 0)) : Met l yX6_takeBack wsX6_takeBack ({ frames := 0, cells := 0, slots := 0, locals := 0 }) (va_Pc [.ref sg, .int p0, .int p1] (kPre D g [(sg, .inr (6, fs_sg))] sz)) (kQi D g (fun (r : Int32) (u : va_W) => 0 = r ∧ u = [(sg, .inr (6, fs_sg))]) (va_A [(sg, .inr (6, fs_sg))] sz)) 0 0 (va_A [(sg, .inr (6, fs_sg))] sz) := by
  refine k_head (cc := cX6_takeBack) (maxL := 3) (ret := (some .boolean)) (by decide) rfl (Nat.le_of_ble_eq_true rfl) ?_
  intro p e s m below meth c ls A hx hb hr hlocks hml hown hin hts hA hP hK hD hS hl
  have hown : s.vm.findClass RX6 = some m.cls := hown
  have hl : lv_has ls 3 [(0, .ref sg), (1, .int p0), (2, .int p1)] := hl
  refine lv_iload_n hx hb dX6_takeBack_0 rfl (lv_at hl 1 rfl) ?_
  refine lv_if_lt (tgt := 22) hx hb dX6_takeBack_1 (by decide) (fun c_1 => ?_) (fun c_1 => ?_)
  · refine lv_iconst (v := 0) hx hb dX6_takeBack_22 (by decide) ?_
    exact k_zret hx hb hr hlocks rfl hK hP hD hS ⟨rfl, rfl⟩ dX6_takeBack_23
  · refine lv_iload_n hx hb dX6_takeBack_4 rfl (lv_at hl 1 rfl) ?_
    refine lv_aload_n hx hb dX6_takeBack_5 rfl (lv_at hl 0 rfl) ?_
    refine va_get (D := D) (ci := 6) (v := .int 0) (C := RX6) (T := TX6) (N := 9) hx hb hts iX6_takeBack_X6 hown hK hP 0 rfl rfl 0 (by decide) (hts (.fieldLink RX6 9 "CatLeases$Sightings" "count" "I") (List.mem_of_getElem? (i := 1) rfl)) (fun _ h9 => h9) h_sg_count dX6_takeBack_6 ?_
    refine lv_icmp_ge (tgt := 22) hx hb dX6_takeBack_9 (by decide) (fun c_2 => ?_) (fun c_2 => ?_)
    · refine lv_iconst (v := 0) hx hb dX6_takeBack_22 (by decide) ?_
      exact k_zret hx hb hr hlocks rfl hK hP hD hS ⟨rfl, rfl⟩ dX6_takeBack_23
    · exfalso; have k0 : (0 : Int32).toInt = 0 := (by decide); simp only [Int32.lt_iff_toInt_lt, Int32.le_iff_toInt_le, ← Int32.toInt_inj] at c_1 c_2; omega
set_option maxHeartbeats 4000000 in
set_option maxRecDepth 100000 in
theorem c_untell (l : Launch) (D : va_G) (g : Nat → ClassId) (sz : Nat) (x : Nat) (p0 : Int32) (sg : Nat) (fs_x : List Value) (fs_sg : List Value) (h_x_sightings : fs_x[12]? = some (.ref sg)) (h_x_time : fs_x[13]? = some (.int 0)) (h_sg_count : fs_sg[0]? = some (.int 0)) : Met l yX8_untell wsX8_untell ({ frames := 1, cells := 0, slots := 0, locals := 22 }) (va_Pc [.ref x, .int p0] (kPre D g [(x, .inr (8, fs_x)), (sg, .inr (6, fs_sg))] sz)) (kQi D g (fun (r : Int32) (u : va_W) => 0 = r) (va_A [(x, .inr (8, fs_x)), (sg, .inr (6, fs_sg))] sz)) 0 0 (va_A [(x, .inr (8, fs_x)), (sg, .inr (6, fs_sg))] sz) := by
  refine k_head (cc := cX8_untell) (maxL := 2) (ret := (some .boolean)) (by decide) rfl (Nat.le_of_ble_eq_true rfl) ?_
  intro p e s m below meth c ls A hx hb hr hlocks hml hown hin hts hA hP hK hD hS hl
  have hown : s.vm.findClass RX8 = some m.cls := hown
  have hl : lv_has ls 2 [(0, .ref x), (1, .int p0)] := hl
  refine lv_aload_n hx hb dX8_untell_0 rfl (lv_at hl 0 rfl) ?_
  refine va_get (D := D) (ci := 8) (v := .ref sg) (C := RX8) (T := TX8) (N := 14) hx hb hts iX8_untell_X8 hown hK hP 0 rfl rfl 12 (by decide) (hts (.fieldLink RX8 76 "CatLeases" "sightings" "LCatLeases$Sightings;") (List.mem_of_getElem? (i := 1) rfl)) (fun _ h9 => h9) h_x_sightings dX8_untell_1 ?_
  refine lv_iload_n hx hb dX8_untell_4 rfl (lv_at hl 1 rfl) ?_
  refine lv_aload_n hx hb dX8_untell_5 rfl (lv_at hl 0 rfl) ?_
  refine va_get (D := D) (ci := 8) (v := .int 0) (C := RX8) (T := TX8) (N := 14) hx hb hts iX8_untell_X8 hown hK hP 0 rfl rfl 13 (by decide) (hts (.fieldLink RX8 80 "CatLeases" "time" "I") (List.mem_of_getElem? (i := 2) rfl)) (fun _ h9 => h9) h_x_time dX8_untell_6 ?_
  refine k_goi (wr := [(x, .inr (8, fs_x))]) hP hD hS hA [1] [0] rfl rfl (by decide) (by decide) (va_runV (As := [.int p0, .int 0]) (rest := []) ⟨hx, hb, hml, hown, hts⟩ (c_takeBack l D g _ sg p0 0 fs_sg h_sg_count) (cwV 2 hts gX8_untell_X6_takeBack rfl rfl rfl (by decide +kernel) ⟨Nat.le_of_ble_eq_true rfl, Nat.le_of_ble_eq_true rfl⟩) (k_preV hK (hP.sub [1] rfl) (hD.sub [1] (by decide) rfl) 6 0 rfl rfl) rfl rfl hl.1 rfl (lv_room (Nat.le_of_ble_eq_true rfl)) dX8_untell_9 ⟨Nat.le_of_ble_eq_true rfl, Nat.le_of_ble_eq_true rfl⟩) (fun r_1 u_2 H locs hw hP hD hS => ?_)
  rcases hw with ⟨rfl, rfl⟩
  have hP := hP.sub (ws' := [(x, .inr (8, fs_x)), (sg, .inr (6, fs_sg))]) [0, 1] rfl
  have hD := hD.sub (ws' := [(x, .inr (8, fs_x)), (sg, .inr (6, fs_sg))]) [0, 1] (by decide) rfl
  exact k_zret hx hb hr hlocks rfl hK hP hD hS rfl dX8_untell_12
set_option maxHeartbeats 4000000 in
set_option maxRecDepth 100000 in
theorem c_later (l : Launch) (D : va_G) (g : Nat → ClassId) (sz : Nat) (x : Nat) (p0 : Int32) (fs_x : List Value) (h_x_time : fs_x[13]? = some (.int 0)) : Met l yX8_later wsX8_later ({ frames := 0, cells := 0, slots := 0, locals := 0 }) (va_Pc [.ref x, .int p0] (kPre D g [(x, .inr (8, fs_x))] sz)) (kQi D g (fun (r : Int32) (u : va_W) => ((p0 < 0) ∧ (-1) = r) ∨ ((¬ p0 < 0) ∧ (1000 < p0) ∧ (-1) = r) ∨ ((¬ p0 < 0) ∧ (¬ 1000 < p0) ∧ ((0 + p0) ≤ 100000) ∧ (0 + p0) = r) ∨ ((¬ p0 < 0) ∧ (¬ 1000 < p0) ∧ (¬ (0 + p0) ≤ 100000) ∧ (-1) = r)) (va_A [(x, .inr (8, fs_x))] sz)) 0 0 (va_A [(x, .inr (8, fs_x))] sz) := by
  refine k_head (cc := cX8_later) (maxL := 2) (ret := (some .int)) (by decide) rfl (Nat.le_of_ble_eq_true rfl) ?_
  intro p e s m below meth c ls A hx hb hr hlocks hml hown hin hts hA hP hK hD hS hl
  have hown : s.vm.findClass RX8 = some m.cls := hown
  have hl : lv_has ls 2 [(0, .ref x), (1, .int p0)] := hl
  refine lv_iload_n hx hb dX8_later_0 rfl (lv_at hl 1 rfl) ?_
  refine lv_if_lt (tgt := 23) hx hb dX8_later_1 (by decide) (fun c_1 => ?_) (fun c_1 => ?_)
  · refine lv_iconst (v := (-1)) hx hb dX8_later_23 (by decide) ?_
    exact k_iret hx hb hr hlocks hK hP hD hS (Or.inl ⟨c_1, rfl⟩) dX8_later_24
  · refine lv_iload_n hx hb dX8_later_4 rfl (lv_at hl 1 rfl) ?_
    refine lv_sipush (v := 1000) hx hb dX8_later_5 (by decide) ?_
    refine lv_icmp_gt (tgt := 23) hx hb dX8_later_8 (by decide) (fun c_2 => ?_) (fun c_2 => ?_)
    · refine lv_iconst (v := (-1)) hx hb dX8_later_23 (by decide) ?_
      exact k_iret hx hb hr hlocks hK hP hD hS (Or.inr (Or.inl ⟨c_1, c_2, rfl⟩)) dX8_later_24
    · refine lv_aload_n hx hb dX8_later_11 rfl (lv_at hl 0 rfl) ?_
      refine va_get (D := D) (ci := 8) (v := .int 0) (C := RX8) (T := TX8) (N := 14) hx hb hts iX8_later_X8 hown hK hP 0 rfl rfl 13 (by decide) (hts (.fieldLink RX8 80 "CatLeases" "time" "I") (List.mem_of_getElem? (i := 1) rfl)) (fun _ h9 => h9) h_x_time dX8_later_12 ?_
      refine lv_iload_n hx hb dX8_later_15 rfl (lv_at hl 1 rfl) ?_
      refine lv_iadd hx hb dX8_later_16 ?_
      refine lv_ldcw (v := 100000) hx hb hown (hts (.constant RX8 325 (100000)) (List.mem_of_getElem? (i := 2) rfl)) dX8_later_17 ?_
      refine lv_icmp_le (tgt := 25) hx hb dX8_later_20 (by decide) (fun c_3 => ?_) (fun c_3 => ?_)
      · refine lv_aload_n hx hb dX8_later_25 rfl (lv_at hl 0 rfl) ?_
        refine lv_dup hx hb dX8_later_26 rfl ?_
        refine va_get (D := D) (ci := 8) (v := .int 0) (C := RX8) (T := TX8) (N := 14) hx hb hts iX8_later_X8 hown hK hP 0 rfl rfl 13 (by decide) (hts (.fieldLink RX8 80 "CatLeases" "time" "I") (List.mem_of_getElem? (i := 1) rfl)) (fun _ h9 => h9) h_x_time dX8_later_27 ?_
        refine lv_iload_n hx hb dX8_later_30 rfl (lv_at hl 1 rfl) ?_
        refine lv_iadd hx hb dX8_later_31 ?_
        refine va_put (D := D) (ci := 8) (v := .int (0 + p0)) (ty := .int) (C := RX8) (T := TX8) (N := 14) hx hb hts iX8_later_X8 tyX8 tyX8_ok nmX8 hown hK hP hD hS 0 rfl rfl 13 (by decide) (hts (.fieldLink RX8 80 "CatLeases" "time" "I") (List.mem_of_getElem? (i := 1) rfl)) (fun _ h9 => h9) rfl (by decide +kernel) rfl rfl ((k_len h_x_time)) dX8_later_32 (fun H locs hP hD hS => ?_)
        have hP : va_P D vwCl [(x, .inr (8, (fs_x.set 13 (.int (0 + p0)))))] H := hP
        have hD : va_D A [(x, .inr (8, (fs_x.set 13 (.int (0 + p0)))))] := hD
        refine lv_aload_n hx hb dX8_later_35 rfl (lv_at hl 0 rfl) ?_
        refine va_get (D := D) (ci := 8) (v := .int (0 + p0)) (C := RX8) (T := TX8) (N := 14) hx hb hts iX8_later_X8 hown hK hP 0 rfl rfl 13 (by decide) (hts (.fieldLink RX8 80 "CatLeases" "time" "I") (List.mem_of_getElem? (i := 1) rfl)) (fun _ h9 => h9) (k_ss h_x_time) dX8_later_36 ?_
        exact k_iret hx hb hr hlocks hK hP hD hS (Or.inr (Or.inr (Or.inl ⟨c_1, c_2, c_3, rfl⟩))) dX8_later_39
      · refine lv_iconst (v := (-1)) hx hb dX8_later_23 (by decide) ?_
        exact k_iret hx hb hr hlocks hK hP hD hS (Or.inr (Or.inr (Or.inr ⟨c_1, c_2, c_3, rfl⟩))) dX8_later_24
set_option maxHeartbeats 4000000 in
set_option maxRecDepth 100000 in
theorem c_end (l : Launch) (D : va_G) (g : Nat → ClassId) (sz : Nat) (x : Nat) (p0 : Int32) (fs_x : List Value) (h_x_tapeLength : fs_x[1]? = some (.int 0)) : Met l yX8_end wsX8_end ({ frames := 0, cells := 0, slots := 0, locals := 0 }) (va_Pc [.ref x, .int p0] (kPre D g [(x, .inr (8, fs_x))] sz)) (kQi D g (fun (r : Int32) (u : va_W) => ((p0 < 0) ∧ (-1) = r) ∨ ((¬ p0 < 0) ∧ (p0 ≤ 0) ∧ p0 = r) ∨ ((¬ p0 < 0) ∧ (¬ p0 ≤ 0) ∧ (-1) = r)) (va_A [(x, .inr (8, fs_x))] sz)) 0 0 (va_A [(x, .inr (8, fs_x))] sz) := by
  refine k_head (cc := cX8_end) (maxL := 2) (ret := (some .int)) (by decide) rfl (Nat.le_of_ble_eq_true rfl) ?_
  intro p e s m below meth c ls A hx hb hr hlocks hml hown hin hts hA hP hK hD hS hl
  have hown : s.vm.findClass RX8 = some m.cls := hown
  have hl : lv_has ls 2 [(0, .ref x), (1, .int p0)] := hl
  refine lv_iload_n hx hb dX8_end_0 rfl (lv_at hl 1 rfl) ?_
  refine lv_if_lt (tgt := 12) hx hb dX8_end_1 (by decide) (fun c_1 => ?_) (fun c_1 => ?_)
  · refine lv_iconst (v := (-1)) hx hb dX8_end_12 (by decide) ?_
    exact k_iret hx hb hr hlocks hK hP hD hS (Or.inl ⟨c_1, rfl⟩) dX8_end_13
  · refine lv_iload_n hx hb dX8_end_4 rfl (lv_at hl 1 rfl) ?_
    refine lv_aload_n hx hb dX8_end_5 rfl (lv_at hl 0 rfl) ?_
    refine va_get (D := D) (ci := 8) (v := .int 0) (C := RX8) (T := TX8) (N := 14) hx hb hts iX8_end_X8 hown hK hP 0 rfl rfl 1 (by decide) (hts (.fieldLink RX8 13 "CatLeases" "tapeLength" "I") (List.mem_of_getElem? (i := 1) rfl)) (fun _ h9 => h9) h_x_tapeLength dX8_end_6 ?_
    refine lv_icmp_le (tgt := 14) hx hb dX8_end_9 (by decide) (fun c_2 => ?_) (fun c_2 => ?_)
    · refine lv_aload_n hx hb dX8_end_14 rfl (lv_at hl 0 rfl) ?_
      refine lv_iload_n hx hb dX8_end_15 rfl (lv_at hl 1 rfl) ?_
      refine va_put (D := D) (ci := 8) (v := .int p0) (ty := .int) (C := RX8) (T := TX8) (N := 14) hx hb hts iX8_end_X8 tyX8 tyX8_ok nmX8 hown hK hP hD hS 0 rfl rfl 1 (by decide) (hts (.fieldLink RX8 13 "CatLeases" "tapeLength" "I") (List.mem_of_getElem? (i := 1) rfl)) (fun _ h9 => h9) rfl (by decide +kernel) rfl rfl ((k_len h_x_tapeLength)) dX8_end_16 (fun H locs hP hD hS => ?_)
      have hP : va_P D vwCl [(x, .inr (8, (fs_x.set 1 (.int p0))))] H := hP
      have hD : va_D A [(x, .inr (8, (fs_x.set 1 (.int p0))))] := hD
      refine lv_iload_n hx hb dX8_end_19 rfl (lv_at hl 1 rfl) ?_
      exact k_iret hx hb hr hlocks hK hP hD hS (Or.inr (Or.inl ⟨c_1, c_2, rfl⟩)) dX8_end_20
    · refine lv_iconst (v := (-1)) hx hb dX8_end_12 (by decide) ?_
      exact k_iret hx hb hr hlocks hK hP hD hS (Or.inr (Or.inr ⟨c_1, c_2, rfl⟩)) dX8_end_13
set_option maxHeartbeats 4000000 in
set_option maxRecDepth 100000 in
theorem c_fault (l : Launch) (D : va_G) (g : Nat → ClassId) (sz : Nat) (x : Nat) (p0 : Int32) (rd : Nat) (fs_x : List Value) (fs_rd : List Value) (h_x_reader : fs_x[2]? = some (.ref rd)) (h_rd_fault : fs_rd[1]? = some (.int 0)) (h_rd_faultPlace : fs_rd[2]? = some (.int (-1))) : Met l yX8_fault wsX8_fault ({ frames := 0, cells := 0, slots := 0, locals := 0 }) (va_Pc [.ref x, .int p0] (kPre D g [(x, .inr (8, fs_x)), (rd, .inr (5, fs_rd))] sz)) (kQi D g (fun (r : Int32) (u : va_W) => ((p0 = 0) ∧ 0 = r) ∨ ((¬ p0 = 0) ∧ (p0 = 1) ∧ (-1) = r) ∨ ((¬ p0 = 0) ∧ (¬ p0 = 1) ∧ (-1) = r)) (va_A [(x, .inr (8, fs_x)), (rd, .inr (5, fs_rd))] sz)) 0 0 (va_A [(x, .inr (8, fs_x)), (rd, .inr (5, fs_rd))] sz) := by
  refine k_head (cc := cX8_fault) (maxL := 2) (ret := (some .int)) (by decide) rfl (Nat.le_of_ble_eq_true rfl) ?_
  intro p e s m below meth c ls A hx hb hr hlocks hml hown hin hts hA hP hK hD hS hl
  have hown : s.vm.findClass RX8 = some m.cls := hown
  have hl : lv_has ls 2 [(0, .ref x), (1, .int p0)] := hl
  refine lv_iload_n hx hb dX8_fault_0 rfl (lv_at hl 1 rfl) ?_
  by_cases c_1 : p0 = 0
  · refine lv_lookup (off := 27) (tgt := 28) hx hb dX8_fault_1 (by decide) (by rw [c_1] <;> rfl) (by decide) ?_
    refine lv_aload_n hx hb dX8_fault_28 rfl (lv_at hl 0 rfl) ?_
    refine va_get (D := D) (ci := 8) (v := .ref rd) (C := RX8) (T := TX8) (N := 14) hx hb hts iX8_fault_X8 hown hK hP 0 rfl rfl 2 (by decide) (hts (.fieldLink RX8 20 "CatLeases" "reader" "LCatLeases$Reader;") (List.mem_of_getElem? (i := 1) rfl)) (fun _ h9 => h9) h_x_reader dX8_fault_29 ?_
    refine va_get (D := D) (ci := 5) (v := .int 0) (C := RX5) (T := TX5) (N := 15) hx hb hts iX8_fault_X5 hown hK hP 1 rfl rfl 1 (by decide) (hts (.fieldLink RX8 105 "CatLeases$Reader" "fault" "I") (List.mem_of_getElem? (i := 2) rfl)) (fun _ h9 => h9) h_rd_fault dX8_fault_32 ?_
    exact k_iret hx hb hr hlocks hK hP hD hS (Or.inl ⟨c_1, rfl⟩) dX8_fault_35
  by_cases c_2 : p0 = 1
  · refine lv_lookup (off := 35) (tgt := 36) hx hb dX8_fault_1 (by decide) (by rw [c_2] <;> rfl) (by decide) ?_
    refine lv_aload_n hx hb dX8_fault_36 rfl (lv_at hl 0 rfl) ?_
    refine va_get (D := D) (ci := 8) (v := .ref rd) (C := RX8) (T := TX8) (N := 14) hx hb hts iX8_fault_X8 hown hK hP 0 rfl rfl 2 (by decide) (hts (.fieldLink RX8 20 "CatLeases" "reader" "LCatLeases$Reader;") (List.mem_of_getElem? (i := 1) rfl)) (fun _ h9 => h9) h_x_reader dX8_fault_37 ?_
    refine va_get (D := D) (ci := 5) (v := .int (-1)) (C := RX5) (T := TX5) (N := 15) hx hb hts iX8_fault_X5 hown hK hP 1 rfl rfl 2 (by decide) (hts (.fieldLink RX8 108 "CatLeases$Reader" "faultPlace" "I") (List.mem_of_getElem? (i := 3) rfl)) (fun _ h9 => h9) h_rd_faultPlace dX8_fault_40 ?_
    exact k_iret hx hb hr hlocks hK hP hD hS (Or.inr (Or.inl ⟨c_1, c_2, rfl⟩)) dX8_fault_43
  refine lv_lookup (off := 43) (tgt := 44) hx hb dX8_fault_1 (by decide) ((lv_osw c_1 (by decide)).trans ((lv_osw c_2 (by decide)).trans rfl)) (by decide) ?_
  refine lv_iconst (v := (-1)) hx hb dX8_fault_44 (by decide) ?_
  exact k_iret hx hb hr hlocks hK hP hD hS (Or.inr (Or.inr ⟨c_1, c_2, rfl⟩)) dX8_fault_45
set_option maxHeartbeats 4000000 in
set_option maxRecDepth 100000 in
theorem c_back (l : Launch) (D : va_G) (g : Nat → ClassId) (sz : Nat) (x : Nat) (p0 : Int32) (bx : Nat) (fs_x : List Value) (f_bx : Nat → Option Nat) (h_x_boxes : fs_x[6]? = some (.ref bx)) (h_x_filledBoxes : fs_x[7]? = some (.int 0)) : Met l yX8_back wsX8_back ({ frames := 0, cells := 0, slots := 0, locals := 0 }) (va_Pc [.ref x, .int p0] (kPre D g [(x, .inr (8, fs_x)), (bx, .inl (g 4, 3, .inr (.inr (.inr (.inr f_bx)))))] sz)) (kQi D g (fun (r : Int32) (u : va_W) => (-1) = r) (va_A [(x, .inr (8, fs_x)), (bx, .inl (g 4, 3, .inr (.inr (.inr (.inr f_bx)))))] sz)) 0 0 (va_A [(x, .inr (8, fs_x)), (bx, .inl (g 4, 3, .inr (.inr (.inr (.inr f_bx)))))] sz) := by
  refine k_head (cc := cX8_back) (maxL := 2) (ret := (some .int)) (by decide) rfl (Nat.le_of_ble_eq_true rfl) ?_
  intro p e s m below meth c ls A hx hb hr hlocks hml hown hin hts hA hP hK hD hS hl
  have hown : s.vm.findClass RX8 = some m.cls := hown
  have hl : lv_has ls 2 [(0, .ref x), (1, .int p0)] := hl
  refine lv_iload_n hx hb dX8_back_0 rfl (lv_at hl 1 rfl) ?_
  refine lv_if_lt (tgt := 24) hx hb dX8_back_1 (by decide) (fun c_1 => ?_) (fun c_1 => ?_)
  · refine lv_iconst (v := (-1)) hx hb dX8_back_24 (by decide) ?_
    exact k_iret hx hb hr hlocks hK hP hD hS rfl dX8_back_25
  · refine lv_iload_n hx hb dX8_back_4 rfl (lv_at hl 1 rfl) ?_
    refine lv_aload_n hx hb dX8_back_5 rfl (lv_at hl 0 rfl) ?_
    refine va_get (D := D) (ci := 8) (v := .ref bx) (C := RX8) (T := TX8) (N := 14) hx hb hts iX8_back_X8 hown hK hP 0 rfl rfl 6 (by decide) (hts (.fieldLink RX8 45 "CatLeases" "boxes" "[LCatLeases$State;") (List.mem_of_getElem? (i := 1) rfl)) (fun _ h9 => h9) h_x_boxes dX8_back_6 ?_
    refine va_alen (v := 3) hx hb hK hP 1 4 rfl rfl rfl dX8_back_9 ?_
    refine lv_icmp_ge (tgt := 24) hx hb dX8_back_10 (by decide) (fun c_2 => ?_) (fun c_2 => ?_)
    · refine lv_iconst (v := (-1)) hx hb dX8_back_24 (by decide) ?_
      exact k_iret hx hb hr hlocks hK hP hD hS rfl dX8_back_25
    · refine lv_aload_n hx hb dX8_back_13 rfl (lv_at hl 0 rfl) ?_
      refine va_get (D := D) (ci := 8) (v := .int 0) (C := RX8) (T := TX8) (N := 14) hx hb hts iX8_back_X8 hown hK hP 0 rfl rfl 7 (by decide) (hts (.fieldLink RX8 49 "CatLeases" "filledBoxes" "I") (List.mem_of_getElem? (i := 2) rfl)) (fun _ h9 => h9) h_x_filledBoxes dX8_back_14 ?_
      refine lv_iload_n hx hb dX8_back_17 rfl (lv_at hl 1 rfl) ?_
      refine lv_ishr hx hb dX8_back_18 ?_
      refine k_top (v := 0) (k_shr0 _) ?_
      refine lv_iconst (v := 1) hx hb dX8_back_19 (by decide) ?_
      refine lv_iand hx hb dX8_back_20 ?_
      refine k_top (v := 0) (by decide) ?_
      refine lv_if_ne (tgt := 26) hx hb dX8_back_21 (by decide) (fun c9 => absurd (by first | decide | rfl) c9) (fun _ => ?_)
      refine lv_iconst (v := (-1)) hx hb dX8_back_24 (by decide) ?_
      exact k_iret hx hb hr hlocks hK hP hD hS rfl dX8_back_25
set_option maxHeartbeats 4000000 in
set_option maxRecDepth 100000 in
theorem c_whoIsOut (l : Launch) (D : va_G) (g : Nat → ClassId) (sz : Nat) (mw : Nat) (s0 : Nat) (fs_mw : List Value) (h_mw_tenants : fs_mw[2]? = some (.int 0)) : Met l yX4_whoIsOut wsX4_whoIsOut ({ frames := 0, cells := 0, slots := 0, locals := 0 }) (va_Pc [.ref mw, .ref s0] (kPre D g [(mw, .inr (4, fs_mw))] sz)) (kQi D g (fun (r : Int32) (u : va_W) => 0 = r ∧ u = [(mw, .inr (4, fs_mw))]) (va_A [(mw, .inr (4, fs_mw))] sz)) 0 0 (va_A [(mw, .inr (4, fs_mw))] sz) := by
  refine k_head (cc := cX4_whoIsOut) (maxL := 4) (ret := (some .int)) (by decide) rfl (Nat.le_of_ble_eq_true rfl) ?_
  intro p e s m below meth c ls A hx hb hr hlocks hml hown hin hts hA hP hK hD hS hl
  have hown : s.vm.findClass RX4 = some m.cls := hown
  have hl : lv_has ls 4 [(0, .ref mw), (1, .ref s0)] := hl
  refine lv_iconst (v := 0) hx hb dX4_whoIsOut_0 (by decide) ?_
  refine lv_istore_n (lv' := [(2, .int 0), (0, .ref mw), (1, .ref s0)]) hx hb dX4_whoIsOut_1 rfl hl (by decide) rfl (fun ls hl => ?_)
  refine lv_iconst (v := 0) hx hb dX4_whoIsOut_2 (by decide) ?_
  refine lv_istore_n (lv' := [(3, .int 0), (2, .int 0), (0, .ref mw), (1, .ref s0)]) hx hb dX4_whoIsOut_3 rfl hl (by decide) rfl (fun ls hl => ?_)
  refine lv_iload_n hx hb dX4_whoIsOut_4 rfl (lv_at hl 0 rfl) ?_
  refine lv_aload_n hx hb dX4_whoIsOut_5 rfl (lv_at hl 2 rfl) ?_
  refine va_get (D := D) (ci := 4) (v := .int 0) (C := RX4) (T := TX4) (N := 11) hx hb hts iX4_whoIsOut_X4 hown hK hP 0 rfl rfl 2 (by decide) (hts (.fieldLink RX4 18 "CatLeases$Mews" "tenants" "I") (List.mem_of_getElem? (i := 1) rfl)) (fun _ h9 => h9) h_mw_tenants dX4_whoIsOut_6 ?_
  refine lv_icmp_ge (tgt := 34) hx hb dX4_whoIsOut_9 (by decide) (fun _ => ?_) (fun c9 => absurd (by first | decide | rfl) c9)
  refine lv_iload_n hx hb dX4_whoIsOut_34 rfl (lv_at hl 1 rfl) ?_
  exact k_iret hx hb hr hlocks hK hP hD hS ⟨rfl, rfl⟩ dX4_whoIsOut_35
set_option maxHeartbeats 4000000 in
set_option maxRecDepth 100000 in
theorem c_about (l : Launch) (D : va_G) (g : Nat → ClassId) (sz : Nat) (x : Nat) (p0 : Int32) (mw : Nat) (ac : Nat) (sa : Nat) (sg : Nat) (s0 : Nat) (fs_x : List Value) (fs_mw : List Value) (fs_ac : List Value) (f_sa : Nat → Option Nat) (fs_sg : List Value) (fs_s0 : List Value) (h_x_tapeLength : fs_x[1]? = some (.int 0)) (h_x_mews : fs_x[3]? = some (.ref mw)) (h_x_acts : fs_x[4]? = some (.ref ac)) (h_x_lyingCount : fs_x[11]? = some (.int 0)) (h_x_sightings : fs_x[12]? = some (.ref sg)) (h_x_time : fs_x[13]? = some (.int 0)) (h_mw_cats : fs_mw[0]? = some (.int 0)) (h_mw_rooms : fs_mw[1]? = some (.int 0)) (h_mw_tenants : fs_mw[2]? = some (.int 0)) (h_mw_units : fs_mw[4]? = some (.int 0)) (h_ac_undoable : fs_ac[0]? = some (.int 0)) (h_ac_redoable : fs_ac[1]? = some (.int 0)) (h_ac_states : fs_ac[2]? = some (.ref sa)) (h_ac_index : fs_ac[3]? = some (.int 0)) (h_sg_count : fs_sg[0]? = some (.int 0)) (h_s0_living : fs_s0[5]? = some (.int 0)) (h_s0_quarters : fs_s0[6]? = some (.int 0)) (h_s0_seed : fs_s0[7]? = some (.int 0)) (h_sa_at0 : f_sa 0 = some s0) : Met l yX8_about wsX8_about ({ frames := 1, cells := 0, slots := 0, locals := 23 }) (va_Pc [.ref x, .int p0] (kPre D g [(x, .inr (8, fs_x)), (mw, .inr (4, fs_mw)), (ac, .inr (0, fs_ac)), (sa, .inl (g 4, 41, .inr (.inr (.inr (.inr f_sa))))), (sg, .inr (6, fs_sg)), (s0, .inr (7, fs_s0))] sz)) (kQi D g (fun (r : Int32) (u : va_W) => ((p0 = 0) ∧ 0 = r) ∨ ((¬ p0 = 0) ∧ (p0 = 1) ∧ 0 = r) ∨ ((¬ p0 = 0) ∧ (¬ p0 = 1) ∧ (p0 = 2) ∧ 0 = r) ∨ ((¬ p0 = 0) ∧ (¬ p0 = 1) ∧ (¬ p0 = 2) ∧ (p0 = 3) ∧ 0 = r) ∨ ((¬ p0 = 0) ∧ (¬ p0 = 1) ∧ (¬ p0 = 2) ∧ (¬ p0 = 3) ∧ (p0 = 4) ∧ 0 = r) ∨ ((¬ p0 = 0) ∧ (¬ p0 = 1) ∧ (¬ p0 = 2) ∧ (¬ p0 = 3) ∧ (¬ p0 = 4) ∧ (p0 = 5) ∧ 0 = r) ∨ ((¬ p0 = 0) ∧ (¬ p0 = 1) ∧ (¬ p0 = 2) ∧ (¬ p0 = 3) ∧ (¬ p0 = 4) ∧ (¬ p0 = 5) ∧ (p0 = 6) ∧ 0 = r) ∨ ((¬ p0 = 0) ∧ (¬ p0 = 1) ∧ (¬ p0 = 2) ∧ (¬ p0 = 3) ∧ (¬ p0 = 4) ∧ (¬ p0 = 5) ∧ (¬ p0 = 6) ∧ (p0 = 7) ∧ 0 = r) ∨ ((¬ p0 = 0) ∧ (¬ p0 = 1) ∧ (¬ p0 = 2) ∧ (¬ p0 = 3) ∧ (¬ p0 = 4) ∧ (¬ p0 = 5) ∧ (¬ p0 = 6) ∧ (¬ p0 = 7) ∧ (p0 = 8) ∧ 0 = r) ∨ ((¬ p0 = 0) ∧ (¬ p0 = 1) ∧ (¬ p0 = 2) ∧ (¬ p0 = 3) ∧ (¬ p0 = 4) ∧ (¬ p0 = 5) ∧ (¬ p0 = 6) ∧ (¬ p0 = 7) ∧ (¬ p0 = 8) ∧ (p0 = 9) ∧ 0 = r) ∨ ((¬ p0 = 0) ∧ (¬ p0 = 1) ∧ (¬ p0 = 2) ∧ (¬ p0 = 3) ∧ (¬ p0 = 4) ∧ (¬ p0 = 5) ∧ (¬ p0 = 6) ∧ (¬ p0 = 7) ∧ (¬ p0 = 8) ∧ (¬ p0 = 9) ∧ (p0 = 10) ∧ 0 = r) ∨ ((¬ p0 = 0) ∧ (¬ p0 = 1) ∧ (¬ p0 = 2) ∧ (¬ p0 = 3) ∧ (¬ p0 = 4) ∧ (¬ p0 = 5) ∧ (¬ p0 = 6) ∧ (¬ p0 = 7) ∧ (¬ p0 = 8) ∧ (¬ p0 = 9) ∧ (¬ p0 = 10) ∧ (p0 = 11) ∧ 0 = r) ∨ ((¬ p0 = 0) ∧ (¬ p0 = 1) ∧ (¬ p0 = 2) ∧ (¬ p0 = 3) ∧ (¬ p0 = 4) ∧ (¬ p0 = 5) ∧ (¬ p0 = 6) ∧ (¬ p0 = 7) ∧ (¬ p0 = 8) ∧ (¬ p0 = 9) ∧ (¬ p0 = 10) ∧ (¬ p0 = 11) ∧ (p0 = 12) ∧ 0 = r) ∨ ((¬ p0 = 0) ∧ (¬ p0 = 1) ∧ (¬ p0 = 2) ∧ (¬ p0 = 3) ∧ (¬ p0 = 4) ∧ (¬ p0 = 5) ∧ (¬ p0 = 6) ∧ (¬ p0 = 7) ∧ (¬ p0 = 8) ∧ (¬ p0 = 9) ∧ (¬ p0 = 10) ∧ (¬ p0 = 11) ∧ (¬ p0 = 12) ∧ (p0 = 13) ∧ 0 = r) ∨ ((¬ p0 = 0) ∧ (¬ p0 = 1) ∧ (¬ p0 = 2) ∧ (¬ p0 = 3) ∧ (¬ p0 = 4) ∧ (¬ p0 = 5) ∧ (¬ p0 = 6) ∧ (¬ p0 = 7) ∧ (¬ p0 = 8) ∧ (¬ p0 = 9) ∧ (¬ p0 = 10) ∧ (¬ p0 = 11) ∧ (¬ p0 = 12) ∧ (¬ p0 = 13) ∧ (-1) = r)) (va_A [(x, .inr (8, fs_x)), (mw, .inr (4, fs_mw)), (ac, .inr (0, fs_ac)), (sa, .inl (g 4, 41, .inr (.inr (.inr (.inr f_sa))))), (sg, .inr (6, fs_sg)), (s0, .inr (7, fs_s0))] sz)) 0 0 (va_A [(x, .inr (8, fs_x)), (mw, .inr (4, fs_mw)), (ac, .inr (0, fs_ac)), (sa, .inl (g 4, 41, .inr (.inr (.inr (.inr f_sa))))), (sg, .inr (6, fs_sg)), (s0, .inr (7, fs_s0))] sz) := by
  refine k_head (cc := cX8_about) (maxL := 3) (ret := (some .int)) (by decide) rfl (Nat.le_of_ble_eq_true rfl) ?_
  intro p e s m below meth c ls A hx hb hr hlocks hml hown hin hts hA hP hK hD hS hl
  have hown : s.vm.findClass RX8 = some m.cls := hown
  have hl : lv_has ls 3 [(0, .ref x), (1, .int p0)] := hl
  refine lv_aload_n hx hb dX8_about_0 rfl (lv_at hl 0 rfl) ?_
  refine va_get (D := D) (ci := 8) (v := .ref ac) (C := RX8) (T := TX8) (N := 14) hx hb hts iX8_about_X8 hown hK hP 0 rfl rfl 4 (by decide) (hts (.fieldLink RX8 34 "CatLeases" "acts" "LCatLeases$Acts;") (List.mem_of_getElem? (i := 1) rfl)) (fun _ h9 => h9) h_x_acts dX8_about_1 ?_
  refine k_gor (wr := [(x, .inr (8, fs_x)), (mw, .inr (4, fs_mw)), (sg, .inr (6, fs_sg)), (s0, .inr (7, fs_s0))]) hP hD hS hA [2, 3] [0, 1, 4, 5] rfl rfl (by decide) (by decide) (va_runV (As := []) (rest := []) ⟨hx, hb, hml, hown, hts⟩ (c_current l D g _ ac sa s0 fs_ac f_sa h_ac_states h_ac_index h_sa_at0) (cwV 0 hts gX8_about_X0_current rfl rfl rfl (by decide +kernel) ⟨Nat.le_of_ble_eq_true rfl, Nat.le_of_ble_eq_true rfl⟩) (k_preV hK (hP.sub [2, 3] rfl) (hD.sub [2, 3] (by decide) rfl) 0 0 rfl rfl) rfl rfl hl.1 rfl (lv_room (Nat.le_of_ble_eq_true rfl)) dX8_about_4 ⟨Nat.le_of_ble_eq_true rfl, Nat.le_of_ble_eq_true rfl⟩) (fun r_1 u_2 H locs hw hP hD hS => ?_)
  rcases hw with ⟨rfl, rfl⟩
  have hP := hP.sub (ws' := [(x, .inr (8, fs_x)), (mw, .inr (4, fs_mw)), (ac, .inr (0, fs_ac)), (sa, .inl (g 4, 41, .inr (.inr (.inr (.inr f_sa))))), (sg, .inr (6, fs_sg)), (s0, .inr (7, fs_s0))]) [0, 1, 4, 5, 2, 3] rfl
  have hD := hD.sub (ws' := [(x, .inr (8, fs_x)), (mw, .inr (4, fs_mw)), (ac, .inr (0, fs_ac)), (sa, .inl (g 4, 41, .inr (.inr (.inr (.inr f_sa))))), (sg, .inr (6, fs_sg)), (s0, .inr (7, fs_s0))]) [0, 1, 4, 5, 2, 3] (by decide) rfl
  refine lv_astore_n (lv' := [(2, .ref s0), (0, .ref x), (1, .int p0)]) hx hb dX8_about_7 rfl hl (by decide) rfl (fun ls hl => ?_)
  refine lv_iload_n hx hb dX8_about_8 rfl (lv_at hl 2 rfl) ?_
  by_cases c_3 : p0 = 0
  · refine lv_tableIn (tgt := 80) hx hb dX8_about_9 (by rw [c_3]; decide) (by rw [c_3]; decide) (by rw [c_3] <;> rfl) (by decide) ?_
    refine lv_aload_n hx hb dX8_about_80 rfl (lv_at hl 1 rfl) ?_
    refine va_get (D := D) (ci := 8) (v := .ref mw) (C := RX8) (T := TX8) (N := 14) hx hb hts iX8_about_X8 hown hK hP 0 rfl rfl 3 (by decide) (hts (.fieldLink RX8 27 "CatLeases" "mews" "LCatLeases$Mews;") (List.mem_of_getElem? (i := 2) rfl)) (fun _ h9 => h9) h_x_mews dX8_about_81 ?_
    refine va_get (D := D) (ci := 4) (v := .int 0) (C := RX4) (T := TX4) (N := 11) hx hb hts iX8_about_X4 hown hK hP 1 rfl rfl 2 (by decide) (hts (.fieldLink RX8 102 "CatLeases$Mews" "tenants" "I") (List.mem_of_getElem? (i := 3) rfl)) (fun _ h9 => h9) h_mw_tenants dX8_about_84 ?_
    exact k_iret hx hb hr hlocks hK hP hD hS (Or.inl ⟨c_3, rfl⟩) dX8_about_87
  by_cases c_4 : p0 = 1
  · refine lv_tableIn (tgt := 88) hx hb dX8_about_9 (by rw [c_4]; decide) (by rw [c_4]; decide) (by rw [c_4] <;> rfl) (by decide) ?_
    refine lv_aload_n hx hb dX8_about_88 rfl (lv_at hl 1 rfl) ?_
    refine va_get (D := D) (ci := 8) (v := .ref mw) (C := RX8) (T := TX8) (N := 14) hx hb hts iX8_about_X8 hown hK hP 0 rfl rfl 3 (by decide) (hts (.fieldLink RX8 27 "CatLeases" "mews" "LCatLeases$Mews;") (List.mem_of_getElem? (i := 2) rfl)) (fun _ h9 => h9) h_x_mews dX8_about_89 ?_
    refine va_get (D := D) (ci := 4) (v := .int 0) (C := RX4) (T := TX4) (N := 11) hx hb hts iX8_about_X4 hown hK hP 1 rfl rfl 0 (by decide) (hts (.fieldLink RX8 170 "CatLeases$Mews" "cats" "I") (List.mem_of_getElem? (i := 4) rfl)) (fun _ h9 => h9) h_mw_cats dX8_about_92 ?_
    exact k_iret hx hb hr hlocks hK hP hD hS (Or.inr (Or.inl ⟨c_3, c_4, rfl⟩)) dX8_about_95
  by_cases c_5 : p0 = 2
  · refine lv_tableIn (tgt := 96) hx hb dX8_about_9 (by rw [c_5]; decide) (by rw [c_5]; decide) (by rw [c_5] <;> rfl) (by decide) ?_
    refine lv_aload_n hx hb dX8_about_96 rfl (lv_at hl 1 rfl) ?_
    refine va_get (D := D) (ci := 8) (v := .ref mw) (C := RX8) (T := TX8) (N := 14) hx hb hts iX8_about_X8 hown hK hP 0 rfl rfl 3 (by decide) (hts (.fieldLink RX8 27 "CatLeases" "mews" "LCatLeases$Mews;") (List.mem_of_getElem? (i := 2) rfl)) (fun _ h9 => h9) h_x_mews dX8_about_97 ?_
    refine va_get (D := D) (ci := 4) (v := .int 0) (C := RX4) (T := TX4) (N := 11) hx hb hts iX8_about_X4 hown hK hP 1 rfl rfl 1 (by decide) (hts (.fieldLink RX8 173 "CatLeases$Mews" "rooms" "I") (List.mem_of_getElem? (i := 5) rfl)) (fun _ h9 => h9) h_mw_rooms dX8_about_100 ?_
    exact k_iret hx hb hr hlocks hK hP hD hS (Or.inr (Or.inr (Or.inl ⟨c_3, c_4, c_5, rfl⟩))) dX8_about_103
  by_cases c_6 : p0 = 3
  · refine lv_tableIn (tgt := 104) hx hb dX8_about_9 (by rw [c_6]; decide) (by rw [c_6]; decide) (by rw [c_6] <;> rfl) (by decide) ?_
    refine lv_aload_n hx hb dX8_about_104 rfl (lv_at hl 0 rfl) ?_
    refine va_get (D := D) (ci := 7) (v := .int 0) (C := RX7) (T := TX7) (N := 8) hx hb hts iX8_about_X7 hown hK hP 5 rfl rfl 5 (by decide) (hts (.fieldLink RX8 299 "CatLeases$State" "living" "I") (List.mem_of_getElem? (i := 6) rfl)) (fun _ h9 => h9) h_s0_living dX8_about_105 ?_
    exact k_iret hx hb hr hlocks hK hP hD hS (Or.inr (Or.inr (Or.inr (Or.inl ⟨c_3, c_4, c_5, c_6, rfl⟩)))) dX8_about_108
  by_cases c_7 : p0 = 4
  · refine lv_tableIn (tgt := 109) hx hb dX8_about_9 (by rw [c_7]; decide) (by rw [c_7]; decide) (by rw [c_7] <;> rfl) (by decide) ?_
    refine lv_aload_n hx hb dX8_about_109 rfl (lv_at hl 1 rfl) ?_
    refine va_get (D := D) (ci := 8) (v := .ref mw) (C := RX8) (T := TX8) (N := 14) hx hb hts iX8_about_X8 hown hK hP 0 rfl rfl 3 (by decide) (hts (.fieldLink RX8 27 "CatLeases" "mews" "LCatLeases$Mews;") (List.mem_of_getElem? (i := 2) rfl)) (fun _ h9 => h9) h_x_mews dX8_about_110 ?_
    refine lv_aload_n hx hb dX8_about_113 rfl (lv_at hl 0 rfl) ?_
    refine k_goi (wr := [(x, .inr (8, fs_x)), (ac, .inr (0, fs_ac)), (sa, .inl (g 4, 41, .inr (.inr (.inr (.inr f_sa))))), (sg, .inr (6, fs_sg)), (s0, .inr (7, fs_s0))]) hP hD hS hA [1] [0, 2, 3, 4, 5] rfl rfl (by decide) (by decide) (va_runV (As := [.ref s0]) (rest := []) ⟨hx, hb, hml, hown, hts⟩ (c_whoIsOut l D g _ mw s0 fs_mw h_mw_tenants) (cwV 1 hts gX8_about_X4_whoIsOut rfl rfl rfl (by decide +kernel) ⟨Nat.le_of_ble_eq_true rfl, Nat.le_of_ble_eq_true rfl⟩) (k_preV hK (hP.sub [1] rfl) (hD.sub [1] (by decide) rfl) 4 0 rfl rfl) rfl rfl hl.1 rfl (lv_room (Nat.le_of_ble_eq_true rfl)) dX8_about_114 ⟨Nat.le_of_ble_eq_true rfl, Nat.le_of_ble_eq_true rfl⟩) (fun r_8 u_9 H locs hw hP hD hS => ?_)
    rcases hw with ⟨rfl, rfl⟩
    have hP := hP.sub (ws' := [(x, .inr (8, fs_x)), (mw, .inr (4, fs_mw)), (ac, .inr (0, fs_ac)), (sa, .inl (g 4, 41, .inr (.inr (.inr (.inr f_sa))))), (sg, .inr (6, fs_sg)), (s0, .inr (7, fs_s0))]) [0, 5, 1, 2, 3, 4] rfl
    have hD := hD.sub (ws' := [(x, .inr (8, fs_x)), (mw, .inr (4, fs_mw)), (ac, .inr (0, fs_ac)), (sa, .inl (g 4, 41, .inr (.inr (.inr (.inr f_sa))))), (sg, .inr (6, fs_sg)), (s0, .inr (7, fs_s0))]) [0, 5, 1, 2, 3, 4] (by decide) rfl
    exact k_iret hx hb hr hlocks hK hP hD hS (Or.inr (Or.inr (Or.inr (Or.inr (Or.inl ⟨c_3, c_4, c_5, c_6, c_7, rfl⟩))))) dX8_about_117
  by_cases c_10 : p0 = 5
  · refine lv_tableIn (tgt := 118) hx hb dX8_about_9 (by rw [c_10]; decide) (by rw [c_10]; decide) (by rw [c_10] <;> rfl) (by decide) ?_
    refine lv_aload_n hx hb dX8_about_118 rfl (lv_at hl 0 rfl) ?_
    refine va_get (D := D) (ci := 7) (v := .int 0) (C := RX7) (T := TX7) (N := 8) hx hb hts iX8_about_X7 hown hK hP 5 rfl rfl 6 (by decide) (hts (.fieldLink RX8 176 "CatLeases$State" "quarters" "I") (List.mem_of_getElem? (i := 7) rfl)) (fun _ h9 => h9) h_s0_quarters dX8_about_119 ?_
    exact k_iret hx hb hr hlocks hK hP hD hS (Or.inr (Or.inr (Or.inr (Or.inr (Or.inr (Or.inl ⟨c_3, c_4, c_5, c_6, c_7, c_10, rfl⟩)))))) dX8_about_122
  by_cases c_11 : p0 = 6
  · refine lv_tableIn (tgt := 123) hx hb dX8_about_9 (by rw [c_11]; decide) (by rw [c_11]; decide) (by rw [c_11] <;> rfl) (by decide) ?_
    refine lv_aload_n hx hb dX8_about_123 rfl (lv_at hl 0 rfl) ?_
    refine va_get (D := D) (ci := 7) (v := .int 0) (C := RX7) (T := TX7) (N := 8) hx hb hts iX8_about_X7 hown hK hP 5 rfl rfl 7 (by decide) (hts (.fieldLink RX8 343 "CatLeases$State" "seed" "I") (List.mem_of_getElem? (i := 8) rfl)) (fun _ h9 => h9) h_s0_seed dX8_about_124 ?_
    exact k_iret hx hb hr hlocks hK hP hD hS (Or.inr (Or.inr (Or.inr (Or.inr (Or.inr (Or.inr (Or.inl ⟨c_3, c_4, c_5, c_6, c_7, c_10, c_11, rfl⟩))))))) dX8_about_127
  by_cases c_12 : p0 = 7
  · refine lv_tableIn (tgt := 128) hx hb dX8_about_9 (by rw [c_12]; decide) (by rw [c_12]; decide) (by rw [c_12] <;> rfl) (by decide) ?_
    refine lv_aload_n hx hb dX8_about_128 rfl (lv_at hl 1 rfl) ?_
    refine va_get (D := D) (ci := 8) (v := .ref ac) (C := RX8) (T := TX8) (N := 14) hx hb hts iX8_about_X8 hown hK hP 0 rfl rfl 4 (by decide) (hts (.fieldLink RX8 34 "CatLeases" "acts" "LCatLeases$Acts;") (List.mem_of_getElem? (i := 1) rfl)) (fun _ h9 => h9) h_x_acts dX8_about_129 ?_
    refine va_get (D := D) (ci := 0) (v := .int 0) (C := RX0) (T := TX0) (N := 4) hx hb hts iX8_about_X0 hown hK hP 2 rfl rfl 0 (by decide) (hts (.fieldLink RX8 346 "CatLeases$Acts" "undoable" "I") (List.mem_of_getElem? (i := 9) rfl)) (fun _ h9 => h9) h_ac_undoable dX8_about_132 ?_
    exact k_iret hx hb hr hlocks hK hP hD hS (Or.inr (Or.inr (Or.inr (Or.inr (Or.inr (Or.inr (Or.inr (Or.inl ⟨c_3, c_4, c_5, c_6, c_7, c_10, c_11, c_12, rfl⟩)))))))) dX8_about_135
  by_cases c_13 : p0 = 8
  · refine lv_tableIn (tgt := 136) hx hb dX8_about_9 (by rw [c_13]; decide) (by rw [c_13]; decide) (by rw [c_13] <;> rfl) (by decide) ?_
    refine lv_aload_n hx hb dX8_about_136 rfl (lv_at hl 1 rfl) ?_
    refine va_get (D := D) (ci := 8) (v := .ref ac) (C := RX8) (T := TX8) (N := 14) hx hb hts iX8_about_X8 hown hK hP 0 rfl rfl 4 (by decide) (hts (.fieldLink RX8 34 "CatLeases" "acts" "LCatLeases$Acts;") (List.mem_of_getElem? (i := 1) rfl)) (fun _ h9 => h9) h_x_acts dX8_about_137 ?_
    refine va_get (D := D) (ci := 0) (v := .int 0) (C := RX0) (T := TX0) (N := 4) hx hb hts iX8_about_X0 hown hK hP 2 rfl rfl 1 (by decide) (hts (.fieldLink RX8 349 "CatLeases$Acts" "redoable" "I") (List.mem_of_getElem? (i := 10) rfl)) (fun _ h9 => h9) h_ac_redoable dX8_about_140 ?_
    exact k_iret hx hb hr hlocks hK hP hD hS (Or.inr (Or.inr (Or.inr (Or.inr (Or.inr (Or.inr (Or.inr (Or.inr (Or.inl ⟨c_3, c_4, c_5, c_6, c_7, c_10, c_11, c_12, c_13, rfl⟩))))))))) dX8_about_143
  by_cases c_14 : p0 = 9
  · refine lv_tableIn (tgt := 144) hx hb dX8_about_9 (by rw [c_14]; decide) (by rw [c_14]; decide) (by rw [c_14] <;> rfl) (by decide) ?_
    refine lv_aload_n hx hb dX8_about_144 rfl (lv_at hl 1 rfl) ?_
    refine va_get (D := D) (ci := 8) (v := .ref sg) (C := RX8) (T := TX8) (N := 14) hx hb hts iX8_about_X8 hown hK hP 0 rfl rfl 12 (by decide) (hts (.fieldLink RX8 76 "CatLeases" "sightings" "LCatLeases$Sightings;") (List.mem_of_getElem? (i := 11) rfl)) (fun _ h9 => h9) h_x_sightings dX8_about_145 ?_
    refine va_get (D := D) (ci := 6) (v := .int 0) (C := RX6) (T := TX6) (N := 9) hx hb hts iX8_about_X6 hown hK hP 4 rfl rfl 0 (by decide) (hts (.fieldLink RX8 352 "CatLeases$Sightings" "count" "I") (List.mem_of_getElem? (i := 12) rfl)) (fun _ h9 => h9) h_sg_count dX8_about_148 ?_
    exact k_iret hx hb hr hlocks hK hP hD hS (Or.inr (Or.inr (Or.inr (Or.inr (Or.inr (Or.inr (Or.inr (Or.inr (Or.inr (Or.inl ⟨c_3, c_4, c_5, c_6, c_7, c_10, c_11, c_12, c_13, c_14, rfl⟩)))))))))) dX8_about_151
  by_cases c_15 : p0 = 10
  · refine lv_tableIn (tgt := 152) hx hb dX8_about_9 (by rw [c_15]; decide) (by rw [c_15]; decide) (by rw [c_15] <;> rfl) (by decide) ?_
    refine lv_aload_n hx hb dX8_about_152 rfl (lv_at hl 1 rfl) ?_
    refine va_get (D := D) (ci := 8) (v := .int 0) (C := RX8) (T := TX8) (N := 14) hx hb hts iX8_about_X8 hown hK hP 0 rfl rfl 13 (by decide) (hts (.fieldLink RX8 80 "CatLeases" "time" "I") (List.mem_of_getElem? (i := 13) rfl)) (fun _ h9 => h9) h_x_time dX8_about_153 ?_
    exact k_iret hx hb hr hlocks hK hP hD hS (Or.inr (Or.inr (Or.inr (Or.inr (Or.inr (Or.inr (Or.inr (Or.inr (Or.inr (Or.inr (Or.inl ⟨c_3, c_4, c_5, c_6, c_7, c_10, c_11, c_12, c_13, c_14, c_15, rfl⟩))))))))))) dX8_about_156
  by_cases c_16 : p0 = 11
  · refine lv_tableIn (tgt := 157) hx hb dX8_about_9 (by rw [c_16]; decide) (by rw [c_16]; decide) (by rw [c_16] <;> rfl) (by decide) ?_
    refine lv_aload_n hx hb dX8_about_157 rfl (lv_at hl 1 rfl) ?_
    refine va_get (D := D) (ci := 8) (v := .int 0) (C := RX8) (T := TX8) (N := 14) hx hb hts iX8_about_X8 hown hK hP 0 rfl rfl 1 (by decide) (hts (.fieldLink RX8 13 "CatLeases" "tapeLength" "I") (List.mem_of_getElem? (i := 14) rfl)) (fun _ h9 => h9) h_x_tapeLength dX8_about_158 ?_
    exact k_iret hx hb hr hlocks hK hP hD hS (Or.inr (Or.inr (Or.inr (Or.inr (Or.inr (Or.inr (Or.inr (Or.inr (Or.inr (Or.inr (Or.inr (Or.inl ⟨c_3, c_4, c_5, c_6, c_7, c_10, c_11, c_12, c_13, c_14, c_15, c_16, rfl⟩)))))))))))) dX8_about_161
  by_cases c_17 : p0 = 12
  · refine lv_tableIn (tgt := 162) hx hb dX8_about_9 (by rw [c_17]; decide) (by rw [c_17]; decide) (by rw [c_17] <;> rfl) (by decide) ?_
    refine lv_aload_n hx hb dX8_about_162 rfl (lv_at hl 1 rfl) ?_
    refine va_get (D := D) (ci := 8) (v := .ref mw) (C := RX8) (T := TX8) (N := 14) hx hb hts iX8_about_X8 hown hK hP 0 rfl rfl 3 (by decide) (hts (.fieldLink RX8 27 "CatLeases" "mews" "LCatLeases$Mews;") (List.mem_of_getElem? (i := 2) rfl)) (fun _ h9 => h9) h_x_mews dX8_about_163 ?_
    refine va_get (D := D) (ci := 4) (v := .int 0) (C := RX4) (T := TX4) (N := 11) hx hb hts iX8_about_X4 hown hK hP 1 rfl rfl 4 (by decide) (hts (.fieldLink RX8 354 "CatLeases$Mews" "units" "I") (List.mem_of_getElem? (i := 15) rfl)) (fun _ h9 => h9) h_mw_units dX8_about_166 ?_
    exact k_iret hx hb hr hlocks hK hP hD hS (Or.inr (Or.inr (Or.inr (Or.inr (Or.inr (Or.inr (Or.inr (Or.inr (Or.inr (Or.inr (Or.inr (Or.inr (Or.inl ⟨c_3, c_4, c_5, c_6, c_7, c_10, c_11, c_12, c_13, c_14, c_15, c_16, c_17, rfl⟩))))))))))))) dX8_about_169
  by_cases c_18 : p0 = 13
  · refine lv_tableIn (tgt := 170) hx hb dX8_about_9 (by rw [c_18]; decide) (by rw [c_18]; decide) (by rw [c_18] <;> rfl) (by decide) ?_
    refine lv_aload_n hx hb dX8_about_170 rfl (lv_at hl 1 rfl) ?_
    refine va_get (D := D) (ci := 8) (v := .int 0) (C := RX8) (T := TX8) (N := 14) hx hb hts iX8_about_X8 hown hK hP 0 rfl rfl 11 (by decide) (hts (.fieldLink RX8 70 "CatLeases" "lyingCount" "I") (List.mem_of_getElem? (i := 16) rfl)) (fun _ h9 => h9) h_x_lyingCount dX8_about_171 ?_
    exact k_iret hx hb hr hlocks hK hP hD hS (Or.inr (Or.inr (Or.inr (Or.inr (Or.inr (Or.inr (Or.inr (Or.inr (Or.inr (Or.inr (Or.inr (Or.inr (Or.inr (Or.inl ⟨c_3, c_4, c_5, c_6, c_7, c_10, c_11, c_12, c_13, c_14, c_15, c_16, c_17, c_18, rfl⟩)))))))))))))) dX8_about_174
  refine lv_tableOut (tgt := 175) hx hb dX8_about_9 (by have k0 : (0 : Int32).toInt = 0 := (by decide); have k1 : (1 : Int32).toInt = 1 := (by decide); have k2 : (2 : Int32).toInt = 2 := (by decide); have k3 : (3 : Int32).toInt = 3 := (by decide); have k4 : (4 : Int32).toInt = 4 := (by decide); have k5 : (5 : Int32).toInt = 5 := (by decide); have k6 : (6 : Int32).toInt = 6 := (by decide); have k7 : (7 : Int32).toInt = 7 := (by decide); have k8 : (8 : Int32).toInt = 8 := (by decide); have k9 : (9 : Int32).toInt = 9 := (by decide); have k10 : (10 : Int32).toInt = 10 := (by decide); have k11 : (11 : Int32).toInt = 11 := (by decide); have k12 : (12 : Int32).toInt = 12 := (by decide); have k13 : (13 : Int32).toInt = 13 := (by decide); have zc_3 := c_3; have zc_4 := c_4; have zc_5 := c_5; have zc_6 := c_6; have zc_7 := c_7; have zc_10 := c_10; have zc_11 := c_11; have zc_12 := c_12; have zc_13 := c_13; have zc_14 := c_14; have zc_15 := c_15; have zc_16 := c_16; have zc_17 := c_17; have zc_18 := c_18; simp only [Int32.lt_iff_toInt_lt, Int32.le_iff_toInt_le, ← Int32.toInt_inj] at zc_3 zc_4 zc_5 zc_6 zc_7 zc_10 zc_11 zc_12 zc_13 zc_14 zc_15 zc_16 zc_17 zc_18; omega) (by decide) ?_
  refine lv_iconst (v := (-1)) hx hb dX8_about_175 (by decide) ?_
  exact k_iret hx hb hr hlocks hK hP hD hS (Or.inr (Or.inr (Or.inr (Or.inr (Or.inr (Or.inr (Or.inr (Or.inr (Or.inr (Or.inr (Or.inr (Or.inr (Or.inr (Or.inr ⟨c_3, c_4, c_5, c_6, c_7, c_10, c_11, c_12, c_13, c_14, c_15, c_16, c_17, c_18, rfl⟩)))))))))))))) dX8_about_176
