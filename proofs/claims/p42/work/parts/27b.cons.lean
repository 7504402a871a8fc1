abbrev e_h_isCat_X8 : List (Nat × Nat) := []
set_option maxHeartbeats 4000000 in
set_option maxRecDepth 100000 in
theorem h_isCat_X8 (l : Launch) (D : va_G) (g : Nat → ClassId) (σ : Nat → Option Nat) (Z : State → Heap → Prop) (hZ0 : hZ σ Z) (M : hM) (N : hN) (R : hR) (x : Nat) (g_x : σ x = some 8) (p1 : Int32) : Met l yX8_isCat wsX8_isCat ({ frames := 0, cells := 0, slots := 0, locals := 0 }) (va_Pc [.ref x, .int p1] (hPre D g σ Z M N R)) (hQi D g σ e_h_isCat_X8 M (fun (r : Int32) (M1 : hM) (N1 : hN) (R1 : hR) => M = M1 ∧ N = N1 ∧ R = R1 ∧ iv r 0 1 ∧ (¬ r = 0 → iv p1 0 5))) 0 0 (hA σ) := by
  refine h_head (cc := cX8_isCat) (maxL := 2) (ret := (some .boolean)) (by decide) rfl (Nat.le_of_ble_eq_true rfl) e_h_isCat_X8 ?_
  intro p e s m below meth c ls Q ar hQ hx hb hr hlocks hml hown hts hK hE H locs hI hl
  have hown : s.vm.findClass RX8 = some m.cls := hown
  have hl : lv_has ls 2 [(0, .ref x), (1, .int p1)] := hl
  refine lv_iload_n hx hb dX8_isCat_0 rfl (lv_at hl 1 rfl) ?_
  refine lv_if_lt (tgt := 19) hx hb dX8_isCat_1 (by decide) (fun c1 => ?_) (fun c1 => ?_)
  · have i2 : iv p1 (-2147483648) (-1) := iv_lt1 c1 (iv_any p1) kc_0 (by decide)
    refine lv_iconst (v := 0) hx hb dX8_isCat_19 (by decide) ?_
    exact h_iret hQ hx hb hr hlocks rfl hK hI ⟨rfl, rfl, rfl, (iv_w (lo' := 0) (hi' := 1) kc_0 (by decide) (by decide)), (fun h9 => absurd rfl h9)⟩ dX8_isCat_20
  · have i3 : iv p1 0 2147483647 := iv_nlt1 c1 (iv_any p1) kc_0 (by decide)
    refine lv_iload_n hx hb dX8_isCat_4 rfl (lv_at hl 1 rfl) ?_
    refine lv_aload_n hx hb dX8_isCat_5 rfl (lv_at hl 0 rfl) ?_
    refine h_getr hx hb hts iX8_isCat_X8 hown hK hI g_x (by decide) rfl rfl 3 (by decide) rfl 4 rfl (hts (.fieldLink RX8 27 "CatLeases" "mews" "LCatLeases$Mews;") (List.mem_of_getElem? (i := 1) rfl)) (fun _ h9 => h9) dX8_isCat_6 (fun a4 e_a4 g_a4 => ?_)
    refine h_geti (lo := 0) (hi := 6) hx hb hts iX8_isCat_X4 hown hK hI g_a4 (by decide) rfl rfl 0 (by decide) rfl rfl (hts (.fieldLink RX8 170 "CatLeases$Mews" "cats" "I") (List.mem_of_getElem? (i := 2) rfl)) (fun _ h9 => h9) dX8_isCat_9 (fun v5 e_v5 i_v5 => ?_)
    refine lv_icmp_ge (tgt := 19) hx hb dX8_isCat_12 (by decide) (fun c6 => ?_) (fun c6 => ?_)
    · refine lv_iconst (v := 0) hx hb dX8_isCat_19 (by decide) ?_
      exact h_iret hQ hx hb hr hlocks rfl hK hI ⟨rfl, rfl, rfl, (iv_w (lo' := 0) (hi' := 1) kc_0 (by decide) (by decide)), (fun h9 => absurd rfl h9)⟩ dX8_isCat_20
    · have i7 : iv v5 1 6 := iv_nle1 c6 i_v5 i3 (by decide)
      have i8 : iv p1 0 5 := iv_nle2 c6 i_v5 i3 (by decide)
      refine lv_iconst (v := 1) hx hb dX8_isCat_15 (by decide) ?_
      refine lv_goto (tgt := 20) hx hb dX8_isCat_16 (by decide) ?_
      exact h_iret hQ hx hb hr hlocks rfl hK hI ⟨rfl, rfl, rfl, (iv_w (lo' := 0) (hi' := 1) kc_1 (by decide) (by decide)), (fun _ => i8)⟩ dX8_isCat_20
abbrev e_h_isLivingCat_X8 : List (Nat × Nat) := []
set_option maxHeartbeats 4000000 in
set_option maxRecDepth 100000 in
theorem h_isLivingCat_X8 (l : Launch) (D : va_G) (g : Nat → ClassId) (σ : Nat → Option Nat) (Z : State → Heap → Prop) (hZ0 : hZ σ Z) (M : hM) (N : hN) (R : hR) (x : Nat) (g_x : σ x = some 8) (p1 : Int32) : Met l yX8_isLivingCat wsX8_isLivingCat ({ frames := 1, cells := 0, slots := 0, locals := 21 }) (va_Pc [.ref x, .int p1] (hPre D g σ Z M N R)) (hQi D g σ e_h_isLivingCat_X8 M (fun (r : Int32) (M1 : hM) (N1 : hN) (R1 : hR) => M = M1 ∧ N = N1 ∧ R = R1 ∧ iv r 0 1 ∧ (¬ r = 0 → iv p1 0 5))) 0 0 (hA σ) := by
  refine h_head (cc := cX8_isLivingCat) (maxL := 2) (ret := (some .boolean)) (by decide) rfl (Nat.le_of_ble_eq_true rfl) e_h_isLivingCat_X8 ?_
  intro p e s m below meth c ls Q ar hQ hx hb hr hlocks hml hown hts hK hE H locs hI hl
  have hown : s.vm.findClass RX8 = some m.cls := hown
  have hl : lv_has ls 2 [(0, .ref x), (1, .int p1)] := hl
  refine lv_aload_n hx hb dX8_isLivingCat_0 rfl (lv_at hl 0 rfl) ?_
  refine lv_iload_n hx hb dX8_isLivingCat_1 rfl (lv_at hl 1 rfl) ?_
  refine h_goi hI (by decide) (va_runV (As := [.int p1]) (rest := []) ⟨hx, hb, hml, hown, hts⟩ (h_isCat_X8 l D g σ Z hZ0 M N R x g_x p1) (cwV 1 hts gX8_isLivingCat_X8_isCat rfl rfl rfl (by decide +kernel) ⟨Nat.le_of_ble_eq_true rfl, Nat.le_of_ble_eq_true rfl⟩) (h_preV hZ0 hK hE hI g_x (by decide) rfl) rfl rfl hl.1 rfl (lv_room (Nat.le_of_ble_eq_true rfl)) dX8_isLivingCat_2 ⟨Nat.le_of_ble_eq_true rfl, Nat.le_of_ble_eq_true rfl⟩) (fun r1 M2 N3 R4 H locs q5 z_M2 hI => ?_)
  obtain ⟨rfl, rfl, rfl, i_r1, z6⟩ := q5
  refine lv_if_eq (tgt := 26) hx hb dX8_isLivingCat_5 (by decide) (fun c7 => ?_) (fun c7 => ?_)
  · have i8 : iv r1 0 0 := iv_eq1 c7 i_r1 kc_0
    refine lv_iconst (v := 0) hx hb dX8_isLivingCat_26 (by decide) ?_
    exact h_iret hQ hx hb hr hlocks rfl hK hI ⟨rfl, rfl, rfl, (iv_w (lo' := 0) (hi' := 1) kc_0 (by decide) (by decide)), (fun h9 => absurd rfl h9)⟩ dX8_isLivingCat_27
  · have i9 : iv p1 0 5 := z6 c7
    have i10 : iv r1 1 1 := iv_neL c7 i_r1 (by decide) (by decide)
    refine lv_aload_n hx hb dX8_isLivingCat_8 rfl (lv_at hl 0 rfl) ?_
    refine h_getr hx hb hts iX8_isLivingCat_X8 hown hK hI g_x (by decide) rfl rfl 4 (by decide) rfl 0 rfl (hts (.fieldLink RX8 34 "CatLeases" "acts" "LCatLeases$Acts;") (List.mem_of_getElem? (i := 1) rfl)) (fun _ h9 => h9) dX8_isLivingCat_9 (fun a11 e_a11 g_a11 => ?_)
    refine h_gor hI (by decide) (va_runV (As := []) (rest := []) ⟨hx, hb, hml, hown, hts⟩ (h_current_X0 l D g σ Z hZ0 M N R a11 g_a11) (cwV 0 hts gX8_isLivingCat_X0_current rfl rfl rfl (by decide +kernel) ⟨Nat.le_of_ble_eq_true rfl, Nat.le_of_ble_eq_true rfl⟩) (h_preV hZ0 hK hE hI g_a11 (by decide) rfl) rfl rfl hl.1 rfl (lv_room (Nat.le_of_ble_eq_true rfl)) dX8_isLivingCat_12 ⟨Nat.le_of_ble_eq_true rfl, Nat.le_of_ble_eq_true rfl⟩) (fun a12 M13 N14 R15 H locs q16 z_M13 hI => ?_)
    obtain ⟨rfl, rfl, rfl, g_a12⟩ := q16
    refine lv_iload_n hx hb dX8_isLivingCat_15 rfl (lv_at hl 1 rfl) ?_
    refine h_goi hI (by decide) (va_runV (As := [.int p1]) (rest := []) ⟨hx, hb, hml, hown, hts⟩ (h_isLiving_X7 l D g σ Z hZ0 M N R a12 g_a12 p1) (cwV 1 hts gX8_isLivingCat_X7_isLiving rfl rfl rfl (by decide +kernel) ⟨Nat.le_of_ble_eq_true rfl, Nat.le_of_ble_eq_true rfl⟩) (h_preV hZ0 hK hE hI g_a12 (by decide) rfl) rfl rfl hl.1 rfl (lv_room (Nat.le_of_ble_eq_true rfl)) dX8_isLivingCat_16 ⟨Nat.le_of_ble_eq_true rfl, Nat.le_of_ble_eq_true rfl⟩) (fun r17 M18 N19 R20 H locs q21 z_M18 hI => ?_)
    obtain ⟨rfl, rfl, rfl, i_r17⟩ := q21
    refine lv_if_eq (tgt := 26) hx hb dX8_isLivingCat_19 (by decide) (fun c22 => ?_) (fun c22 => ?_)
    · have i23 : iv r17 0 0 := iv_eq1 c22 i_r17 kc_0
      refine lv_iconst (v := 0) hx hb dX8_isLivingCat_26 (by decide) ?_
      exact h_iret hQ hx hb hr hlocks rfl hK hI ⟨rfl, rfl, rfl, (iv_w (lo' := 0) (hi' := 1) kc_0 (by decide) (by decide)), (fun h9 => absurd rfl h9)⟩ dX8_isLivingCat_27
    · have i24 : iv r17 1 1 := iv_neL c22 i_r17 (by decide) (by decide)
      refine lv_iconst (v := 1) hx hb dX8_isLivingCat_22 (by decide) ?_
      refine lv_goto (tgt := 27) hx hb dX8_isLivingCat_23 (by decide) ?_
      exact h_iret hQ hx hb hr hlocks rfl hK hI ⟨rfl, rfl, rfl, (iv_w (lo' := 0) (hi' := 1) kc_1 (by decide) (by decide)), (fun _ => i9)⟩ dX8_isLivingCat_27
abbrev e_h_isRoom_X8 : List (Nat × Nat) := []
set_option maxHeartbeats 4000000 in
set_option maxRecDepth 100000 in
theorem h_isRoom_X8 (l : Launch) (D : va_G) (g : Nat → ClassId) (σ : Nat → Option Nat) (Z : State → Heap → Prop) (hZ0 : hZ σ Z) (M : hM) (N : hN) (R : hR) (x : Nat) (g_x : σ x = some 8) (p1 : Int32) : Met l yX8_isRoom wsX8_isRoom ({ frames := 0, cells := 0, slots := 0, locals := 0 }) (va_Pc [.ref x, .int p1] (hPre D g σ Z M N R)) (hQi D g σ e_h_isRoom_X8 M (fun (r : Int32) (M1 : hM) (N1 : hN) (R1 : hR) => M = M1 ∧ N = N1 ∧ R = R1 ∧ iv r 0 1 ∧ (¬ r = 0 → iv p1 0 7))) 0 0 (hA σ) := by
  refine h_head (cc := cX8_isRoom) (maxL := 2) (ret := (some .boolean)) (by decide) rfl (Nat.le_of_ble_eq_true rfl) e_h_isRoom_X8 ?_
  intro p e s m below meth c ls Q ar hQ hx hb hr hlocks hml hown hts hK hE H locs hI hl
  have hown : s.vm.findClass RX8 = some m.cls := hown
  have hl : lv_has ls 2 [(0, .ref x), (1, .int p1)] := hl
  refine lv_iload_n hx hb dX8_isRoom_0 rfl (lv_at hl 1 rfl) ?_
  refine lv_if_lt (tgt := 19) hx hb dX8_isRoom_1 (by decide) (fun c1 => ?_) (fun c1 => ?_)
  · have i2 : iv p1 (-2147483648) (-1) := iv_lt1 c1 (iv_any p1) kc_0 (by decide)
    refine lv_iconst (v := 0) hx hb dX8_isRoom_19 (by decide) ?_
    exact h_iret hQ hx hb hr hlocks rfl hK hI ⟨rfl, rfl, rfl, (iv_w (lo' := 0) (hi' := 1) kc_0 (by decide) (by decide)), (fun h9 => absurd rfl h9)⟩ dX8_isRoom_20
  · have i3 : iv p1 0 2147483647 := iv_nlt1 c1 (iv_any p1) kc_0 (by decide)
    refine lv_iload_n hx hb dX8_isRoom_4 rfl (lv_at hl 1 rfl) ?_
    refine lv_aload_n hx hb dX8_isRoom_5 rfl (lv_at hl 0 rfl) ?_
    refine h_getr hx hb hts iX8_isRoom_X8 hown hK hI g_x (by decide) rfl rfl 3 (by decide) rfl 4 rfl (hts (.fieldLink RX8 27 "CatLeases" "mews" "LCatLeases$Mews;") (List.mem_of_getElem? (i := 1) rfl)) (fun _ h9 => h9) dX8_isRoom_6 (fun a4 e_a4 g_a4 => ?_)
    refine h_geti (lo := 0) (hi := 8) hx hb hts iX8_isRoom_X4 hown hK hI g_a4 (by decide) rfl rfl 1 (by decide) rfl rfl (hts (.fieldLink RX8 173 "CatLeases$Mews" "rooms" "I") (List.mem_of_getElem? (i := 2) rfl)) (fun _ h9 => h9) dX8_isRoom_9 (fun v5 e_v5 i_v5 => ?_)
    refine lv_icmp_ge (tgt := 19) hx hb dX8_isRoom_12 (by decide) (fun c6 => ?_) (fun c6 => ?_)
    · refine lv_iconst (v := 0) hx hb dX8_isRoom_19 (by decide) ?_
      exact h_iret hQ hx hb hr hlocks rfl hK hI ⟨rfl, rfl, rfl, (iv_w (lo' := 0) (hi' := 1) kc_0 (by decide) (by decide)), (fun h9 => absurd rfl h9)⟩ dX8_isRoom_20
    · have i7 : iv v5 1 8 := iv_nle1 c6 i_v5 i3 (by decide)
      have i8 : iv p1 0 7 := iv_nle2 c6 i_v5 i3 (by decide)
      refine lv_iconst (v := 1) hx hb dX8_isRoom_15 (by decide) ?_
      refine lv_goto (tgt := 20) hx hb dX8_isRoom_16 (by decide) ?_
      exact h_iret hQ hx hb hr hlocks rfl hK hI ⟨rfl, rfl, rfl, (iv_w (lo' := 0) (hi' := 1) kc_1 (by decide) (by decide)), (fun _ => i8)⟩ dX8_isRoom_20
abbrev e_h_isTenant_X8 : List (Nat × Nat) := []
set_option maxHeartbeats 4000000 in
set_option maxRecDepth 100000 in
theorem h_isTenant_X8 (l : Launch) (D : va_G) (g : Nat → ClassId) (σ : Nat → Option Nat) (Z : State → Heap → Prop) (hZ0 : hZ σ Z) (M : hM) (N : hN) (R : hR) (x : Nat) (g_x : σ x = some 8) (p1 : Int32) : Met l yX8_isTenant wsX8_isTenant ({ frames := 0, cells := 0, slots := 0, locals := 0 }) (va_Pc [.ref x, .int p1] (hPre D g σ Z M N R)) (hQi D g σ e_h_isTenant_X8 M (fun (r : Int32) (M1 : hM) (N1 : hN) (R1 : hR) => M = M1 ∧ N = N1 ∧ R = R1 ∧ iv r 0 1 ∧ (¬ r = 0 → iv p1 0 6))) 0 0 (hA σ) := by
  refine h_head (cc := cX8_isTenant) (maxL := 2) (ret := (some .boolean)) (by decide) rfl (Nat.le_of_ble_eq_true rfl) e_h_isTenant_X8 ?_
  intro p e s m below meth c ls Q ar hQ hx hb hr hlocks hml hown hts hK hE H locs hI hl
  have hown : s.vm.findClass RX8 = some m.cls := hown
  have hl : lv_has ls 2 [(0, .ref x), (1, .int p1)] := hl
  refine lv_iload_n hx hb dX8_isTenant_0 rfl (lv_at hl 1 rfl) ?_
  refine lv_if_lt (tgt := 19) hx hb dX8_isTenant_1 (by decide) (fun c1 => ?_) (fun c1 => ?_)
  · have i2 : iv p1 (-2147483648) (-1) := iv_lt1 c1 (iv_any p1) kc_0 (by decide)
    refine lv_iconst (v := 0) hx hb dX8_isTenant_19 (by decide) ?_
    exact h_iret hQ hx hb hr hlocks rfl hK hI ⟨rfl, rfl, rfl, (iv_w (lo' := 0) (hi' := 1) kc_0 (by decide) (by decide)), (fun h9 => absurd rfl h9)⟩ dX8_isTenant_20
  · have i3 : iv p1 0 2147483647 := iv_nlt1 c1 (iv_any p1) kc_0 (by decide)
    refine lv_iload_n hx hb dX8_isTenant_4 rfl (lv_at hl 1 rfl) ?_
    refine lv_aload_n hx hb dX8_isTenant_5 rfl (lv_at hl 0 rfl) ?_
    refine h_getr hx hb hts iX8_isTenant_X8 hown hK hI g_x (by decide) rfl rfl 3 (by decide) rfl 4 rfl (hts (.fieldLink RX8 27 "CatLeases" "mews" "LCatLeases$Mews;") (List.mem_of_getElem? (i := 1) rfl)) (fun _ h9 => h9) dX8_isTenant_6 (fun a4 e_a4 g_a4 => ?_)
    refine h_geti (lo := 0) (hi := 7) hx hb hts iX8_isTenant_X4 hown hK hI g_a4 (by decide) rfl rfl 2 (by decide) rfl rfl (hts (.fieldLink RX8 102 "CatLeases$Mews" "tenants" "I") (List.mem_of_getElem? (i := 2) rfl)) (fun _ h9 => h9) dX8_isTenant_9 (fun v5 e_v5 i_v5 => ?_)
    refine lv_icmp_ge (tgt := 19) hx hb dX8_isTenant_12 (by decide) (fun c6 => ?_) (fun c6 => ?_)
    · refine lv_iconst (v := 0) hx hb dX8_isTenant_19 (by decide) ?_
      exact h_iret hQ hx hb hr hlocks rfl hK hI ⟨rfl, rfl, rfl, (iv_w (lo' := 0) (hi' := 1) kc_0 (by decide) (by decide)), (fun h9 => absurd rfl h9)⟩ dX8_isTenant_20
    · have i7 : iv v5 1 7 := iv_nle1 c6 i_v5 i3 (by decide)
      have i8 : iv p1 0 6 := iv_nle2 c6 i_v5 i3 (by decide)
      refine lv_iconst (v := 1) hx hb dX8_isTenant_15 (by decide) ?_
      refine lv_goto (tgt := 20) hx hb dX8_isTenant_16 (by decide) ?_
      exact h_iret hQ hx hb hr hlocks rfl hK hI ⟨rfl, rfl, rfl, (iv_w (lo' := 0) (hi' := 1) kc_1 (by decide) (by decide)), (fun _ => i8)⟩ dX8_isTenant_20
abbrev e_h_areCats_X8 : List (Nat × Nat) := []
set_option maxHeartbeats 4000000 in
set_option maxRecDepth 100000 in
theorem h_areCats_X8 (l : Launch) (D : va_G) (g : Nat → ClassId) (σ : Nat → Option Nat) (Z : State → Heap → Prop) (hZ0 : hZ σ Z) (M : hM) (N : hN) (R : hR) (x : Nat) (g_x : σ x = some 8) (p1 : Int32) : Met l yX8_areCats wsX8_areCats ({ frames := 0, cells := 0, slots := 0, locals := 0 }) (va_Pc [.ref x, .int p1] (hPre D g σ Z M N R)) (hQi D g σ e_h_areCats_X8 M (fun (r : Int32) (M1 : hM) (N1 : hN) (R1 : hR) => M = M1 ∧ N = N1 ∧ R = R1 ∧ iv r 0 1 ∧ (¬ r = 0 → iv p1 0 63))) 0 0 (hA σ) := by
  refine h_head (cc := cX8_areCats) (maxL := 2) (ret := (some .boolean)) (by decide) rfl (Nat.le_of_ble_eq_true rfl) e_h_areCats_X8 ?_
  intro p e s m below meth c ls Q ar hQ hx hb hr hlocks hml hown hts hK hE H locs hI hl
  have hown : s.vm.findClass RX8 = some m.cls := hown
  have hl : lv_has ls 2 [(0, .ref x), (1, .int p1)] := hl
  refine lv_iload_n hx hb dX8_areCats_0 rfl (lv_at hl 1 rfl) ?_
  refine lv_if_lt (tgt := 21) hx hb dX8_areCats_1 (by decide) (fun c1 => ?_) (fun c1 => ?_)
  · have i2 : iv p1 (-2147483648) (-1) := iv_lt1 c1 (iv_any p1) kc_0 (by decide)
    refine lv_iconst (v := 0) hx hb dX8_areCats_21 (by decide) ?_
    exact h_iret hQ hx hb hr hlocks rfl hK hI ⟨rfl, rfl, rfl, (iv_w (lo' := 0) (hi' := 1) kc_0 (by decide) (by decide)), (fun h9 => absurd rfl h9)⟩ dX8_areCats_22
  · have i3 : iv p1 0 2147483647 := iv_nlt1 c1 (iv_any p1) kc_0 (by decide)
    refine lv_iload_n hx hb dX8_areCats_4 rfl (lv_at hl 1 rfl) ?_
    refine lv_iconst (v := 1) hx hb dX8_areCats_5 (by decide) ?_
    refine lv_aload_n hx hb dX8_areCats_6 rfl (lv_at hl 0 rfl) ?_
    refine h_getr hx hb hts iX8_areCats_X8 hown hK hI g_x (by decide) rfl rfl 3 (by decide) rfl 4 rfl (hts (.fieldLink RX8 27 "CatLeases" "mews" "LCatLeases$Mews;") (List.mem_of_getElem? (i := 1) rfl)) (fun _ h9 => h9) dX8_areCats_7 (fun a4 e_a4 g_a4 => ?_)
    refine h_geti (lo := 0) (hi := 6) hx hb hts iX8_areCats_X4 hown hK hI g_a4 (by decide) rfl rfl 0 (by decide) rfl rfl (hts (.fieldLink RX8 170 "CatLeases$Mews" "cats" "I") (List.mem_of_getElem? (i := 2) rfl)) (fun _ h9 => h9) dX8_areCats_10 (fun v5 e_v5 i_v5 => ?_)
    refine lv_ishl hx hb dX8_areCats_13 ?_
    refine h_nm (lo := 1) (hi := 64) (iv_shl1 6 i_v5 (by decide) (by decide) (by decide) (by decide) (by decide)) (fun v6 e_v6 i_v6 => ?_)
    refine lv_icmp_ge (tgt := 21) hx hb dX8_areCats_14 (by decide) (fun c7 => ?_) (fun c7 => ?_)
    · have i8 : iv p1 1 2147483647 := iv_le2 c7 i_v6 i3 (by decide)
      refine lv_iconst (v := 0) hx hb dX8_areCats_21 (by decide) ?_
      exact h_iret hQ hx hb hr hlocks rfl hK hI ⟨rfl, rfl, rfl, (iv_w (lo' := 0) (hi' := 1) kc_0 (by decide) (by decide)), (fun h9 => absurd rfl h9)⟩ dX8_areCats_22
    · have i9 : iv p1 0 63 := iv_nle2 c7 i_v6 i3 (by decide)
      refine lv_iconst (v := 1) hx hb dX8_areCats_17 (by decide) ?_
      refine lv_goto (tgt := 22) hx hb dX8_areCats_18 (by decide) ?_
      exact h_iret hQ hx hb hr hlocks rfl hK hI ⟨rfl, rfl, rfl, (iv_w (lo' := 0) (hi' := 1) kc_1 (by decide) (by decide)), (fun _ => i9)⟩ dX8_areCats_22
abbrev e_h_isInKeptRoom_X8 : List (Nat × Nat) := []
set_option maxHeartbeats 4000000 in
set_option maxRecDepth 100000 in
theorem h_isInKeptRoom_X8 (l : Launch) (D : va_G) (g : Nat → ClassId) (σ : Nat → Option Nat) (Z : State → Heap → Prop) (hZ0 : hZ σ Z) (M : hM) (N : hN) (R : hR) (x : Nat) (g_x : σ x = some 8) (p1 : Int32) : Met l yX8_isInKeptRoom wsX8_isInKeptRoom ({ frames := 1, cells := 0, slots := 0, locals := 21 }) (va_Pc [.ref x, .int p1] (hPre D g σ Z M N R)) (hQi D g σ e_h_isInKeptRoom_X8 M (fun (r : Int32) (M1 : hM) (N1 : hN) (R1 : hR) => M = M1 ∧ N = N1 ∧ R = R1 ∧ iv r 0 1 ∧ (¬ r = 0 → iv p1 0 6))) 0 0 (hA σ) := by
  refine h_head (cc := cX8_isInKeptRoom) (maxL := 3) (ret := (some .boolean)) (by decide) rfl (Nat.le_of_ble_eq_true rfl) e_h_isInKeptRoom_X8 ?_
  intro p e s m below meth c ls Q ar hQ hx hb hr hlocks hml hown hts hK hE H locs hI hl
  have hown : s.vm.findClass RX8 = some m.cls := hown
  have hl : lv_has ls 3 [(0, .ref x), (1, .int p1)] := hl
  refine lv_aload_n hx hb dX8_isInKeptRoom_0 rfl (lv_at hl 0 rfl) ?_
  refine h_getr hx hb hts iX8_isInKeptRoom_X8 hown hK hI g_x (by decide) rfl rfl 4 (by decide) rfl 0 rfl (hts (.fieldLink RX8 34 "CatLeases" "acts" "LCatLeases$Acts;") (List.mem_of_getElem? (i := 1) rfl)) (fun _ h9 => h9) dX8_isInKeptRoom_1 (fun a1 e_a1 g_a1 => ?_)
  refine h_gor hI (by decide) (va_runV (As := []) (rest := []) ⟨hx, hb, hml, hown, hts⟩ (h_current_X0 l D g σ Z hZ0 M N R a1 g_a1) (cwV 0 hts gX8_isInKeptRoom_X0_current rfl rfl rfl (by decide +kernel) ⟨Nat.le_of_ble_eq_true rfl, Nat.le_of_ble_eq_true rfl⟩) (h_preV hZ0 hK hE hI g_a1 (by decide) rfl) rfl rfl hl.1 rfl (lv_room (Nat.le_of_ble_eq_true rfl)) dX8_isInKeptRoom_4 ⟨Nat.le_of_ble_eq_true rfl, Nat.le_of_ble_eq_true rfl⟩) (fun a2 M3 N4 R5 H locs q6 z_M3 hI => ?_)
  obtain ⟨rfl, rfl, rfl, g_a2⟩ := q6
  refine lv_astore_n (lv' := [(2, .ref a2), (0, .ref x), (1, .int p1)]) hx hb dX8_isInKeptRoom_7 rfl hl (by decide) rfl (fun ls hl => ?_)
  refine lv_aload_n hx hb dX8_isInKeptRoom_8 rfl (lv_at hl 1 rfl) ?_
  refine lv_iload_n hx hb dX8_isInKeptRoom_9 rfl (lv_at hl 2 rfl) ?_
  refine h_goi hI (by decide) (va_runV (As := [.int p1]) (rest := []) ⟨hx, hb, hml, hown, hts⟩ (h_isTenant_X8 l D g σ Z hZ0 M N R x g_x p1) (cwV 1 hts gX8_isInKeptRoom_X8_isTenant rfl rfl rfl (by decide +kernel) ⟨Nat.le_of_ble_eq_true rfl, Nat.le_of_ble_eq_true rfl⟩) (h_preV hZ0 hK hE hI g_x (by decide) rfl) rfl rfl hl.1 rfl (lv_room (Nat.le_of_ble_eq_true rfl)) dX8_isInKeptRoom_10 ⟨Nat.le_of_ble_eq_true rfl, Nat.le_of_ble_eq_true rfl⟩) (fun r7 M8 N9 R10 H locs q11 z_M8 hI => ?_)
  obtain ⟨rfl, rfl, rfl, i_r7, z12⟩ := q11
  refine lv_if_eq (tgt := 33) hx hb dX8_isInKeptRoom_13 (by decide) (fun c13 => ?_) (fun c13 => ?_)
  · have i14 : iv r7 0 0 := iv_eq1 c13 i_r7 kc_0
    refine lv_iconst (v := 0) hx hb dX8_isInKeptRoom_33 (by decide) ?_
    exact h_iret hQ hx hb hr hlocks rfl hK hI ⟨rfl, rfl, rfl, (iv_w (lo' := 0) (hi' := 1) kc_0 (by decide) (by decide)), (fun h9 => absurd rfl h9)⟩ dX8_isInKeptRoom_34
  · have i15 : iv p1 0 6 := z12 c13
    have i16 : iv r7 1 1 := iv_neL c13 i_r7 (by decide) (by decide)
    refine lv_aload_n hx hb dX8_isInKeptRoom_16 rfl (lv_at hl 0 rfl) ?_
    refine lv_aload_n hx hb dX8_isInKeptRoom_17 rfl (lv_at hl 0 rfl) ?_
    refine h_getr hx hb hts iX8_isInKeptRoom_X7 hown hK hI g_a2 (by decide) rfl rfl 1 (by decide) rfl 13 rfl (hts (.fieldLink RX8 147 "CatLeases$State" "places" "[I") (List.mem_of_getElem? (i := 2) rfl)) (fun _ h9 => h9) dX8_isInKeptRoom_18 (fun a17 e_a17 g_a17 => ?_)
    refine lv_iload_n hx hb dX8_isInKeptRoom_21 rfl (lv_at hl 2 rfl) ?_
    refine h_iald (j := p1.toNatClampNeg) (lo := (-1)) (hi := 7) hx hb hK hI g_a17 (by decide) rfl (iv_in (n := 7) i15 (by decide) (by decide)) rfl (hI.iv1 (n := 7) g_a17 rfl (in_lt (iv_in (n := 7) i15 (by decide) (by decide))) rfl) dX8_isInKeptRoom_22 (fun v18 e_v18 i_v18 => ?_)
    refine h_goi hI (by decide) (va_runV (As := [.int v18]) (rest := []) ⟨hx, hb, hml, hown, hts⟩ (h_isKept_X7 l D g σ Z hZ0 M N R a2 g_a2 v18) (cwV 1 hts gX8_isInKeptRoom_X7_isKept rfl rfl rfl (by decide +kernel) ⟨Nat.le_of_ble_eq_true rfl, Nat.le_of_ble_eq_true rfl⟩) (h_preV hZ0 hK hE hI g_a2 (by decide) rfl) rfl rfl hl.1 rfl (lv_room (Nat.le_of_ble_eq_true rfl)) dX8_isInKeptRoom_23 ⟨Nat.le_of_ble_eq_true rfl, Nat.le_of_ble_eq_true rfl⟩) (fun r19 M20 N21 R22 H locs q23 z_M20 hI => ?_)
    obtain ⟨rfl, rfl, rfl, i_r19, z24, z25⟩ := q23
    refine lv_if_eq (tgt := 33) hx hb dX8_isInKeptRoom_26 (by decide) (fun c26 => ?_) (fun c26 => ?_)
    · have i27 : iv r19 0 0 := iv_eq1 c26 i_r19 kc_0
      refine lv_iconst (v := 0) hx hb dX8_isInKeptRoom_33 (by decide) ?_
      exact h_iret hQ hx hb hr hlocks rfl hK hI ⟨rfl, rfl, rfl, (iv_w (lo' := 0) (hi' := 1) kc_0 (by decide) (by decide)), (fun h9 => absurd rfl h9)⟩ dX8_isInKeptRoom_34
    · have i28 : iv v18 0 7 := z24 c26
      have i29 := z25 c26
      have i30 : iv r19 1 1 := iv_neL c26 i_r19 (by decide) (by decide)
      refine lv_iconst (v := 1) hx hb dX8_isInKeptRoom_29 (by decide) ?_
      refine lv_goto (tgt := 34) hx hb dX8_isInKeptRoom_30 (by decide) ?_
      exact h_iret hQ hx hb hr hlocks rfl hK hI ⟨rfl, rfl, rfl, (iv_w (lo' := 0) (hi' := 1) kc_1 (by decide) (by decide)), (fun _ => i15)⟩ dX8_isInKeptRoom_34
abbrev e_h_isHoused_X8 : List (Nat × Nat) := []
set_option maxHeartbeats 4000000 in
set_option maxRecDepth 100000 in
theorem h_isHoused_X8 (l : Launch) (D : va_G) (g : Nat → ClassId) (σ : Nat → Option Nat) (Z : State → Heap → Prop) (hZ0 : hZ σ Z) (M : hM) (N : hN) (R : hR) (x : Nat) (g_x : σ x = some 8) (p1 : Int32) : Met l yX8_isHoused wsX8_isHoused ({ frames := 1, cells := 0, slots := 0, locals := 21 }) (va_Pc [.ref x, .int p1] (hPre D g σ Z M N R)) (hQi D g σ e_h_isHoused_X8 M (fun (r : Int32) (M1 : hM) (N1 : hN) (R1 : hR) => M = M1 ∧ N = N1 ∧ R = R1 ∧ iv r 0 1 ∧ (¬ r = 0 → iv p1 0 6))) 0 0 (hA σ) := by
  refine h_head (cc := cX8_isHoused) (maxL := 2) (ret := (some .boolean)) (by decide) rfl (Nat.le_of_ble_eq_true rfl) e_h_isHoused_X8 ?_
  intro p e s m below meth c ls Q ar hQ hx hb hr hlocks hml hown hts hK hE H locs hI hl
  have hown : s.vm.findClass RX8 = some m.cls := hown
  have hl : lv_has ls 2 [(0, .ref x), (1, .int p1)] := hl
  refine lv_aload_n hx hb dX8_isHoused_0 rfl (lv_at hl 0 rfl) ?_
  refine lv_iload_n hx hb dX8_isHoused_1 rfl (lv_at hl 1 rfl) ?_
  refine h_goi hI (by decide) (va_runV (As := [.int p1]) (rest := []) ⟨hx, hb, hml, hown, hts⟩ (h_isTenant_X8 l D g σ Z hZ0 M N R x g_x p1) (cwV 1 hts gX8_isHoused_X8_isTenant rfl rfl rfl (by decide +kernel) ⟨Nat.le_of_ble_eq_true rfl, Nat.le_of_ble_eq_true rfl⟩) (h_preV hZ0 hK hE hI g_x (by decide) rfl) rfl rfl hl.1 rfl (lv_room (Nat.le_of_ble_eq_true rfl)) dX8_isHoused_2 ⟨Nat.le_of_ble_eq_true rfl, Nat.le_of_ble_eq_true rfl⟩) (fun r1 M2 N3 R4 H locs q5 z_M2 hI => ?_)
  obtain ⟨rfl, rfl, rfl, i_r1, z6⟩ := q5
  refine lv_if_eq (tgt := 28) hx hb dX8_isHoused_5 (by decide) (fun c7 => ?_) (fun c7 => ?_)
  · have i8 : iv r1 0 0 := iv_eq1 c7 i_r1 kc_0
    refine lv_iconst (v := 0) hx hb dX8_isHoused_28 (by decide) ?_
    exact h_iret hQ hx hb hr hlocks rfl hK hI ⟨rfl, rfl, rfl, (iv_w (lo' := 0) (hi' := 1) kc_0 (by decide) (by decide)), (fun h9 => absurd rfl h9)⟩ dX8_isHoused_29
  · have i9 : iv p1 0 6 := z6 c7
    have i10 : iv r1 1 1 := iv_neL c7 i_r1 (by decide) (by decide)
    refine lv_aload_n hx hb dX8_isHoused_8 rfl (lv_at hl 0 rfl) ?_
    refine h_getr hx hb hts iX8_isHoused_X8 hown hK hI g_x (by decide) rfl rfl 4 (by decide) rfl 0 rfl (hts (.fieldLink RX8 34 "CatLeases" "acts" "LCatLeases$Acts;") (List.mem_of_getElem? (i := 1) rfl)) (fun _ h9 => h9) dX8_isHoused_9 (fun a11 e_a11 g_a11 => ?_)
    refine h_gor hI (by decide) (va_runV (As := []) (rest := []) ⟨hx, hb, hml, hown, hts⟩ (h_current_X0 l D g σ Z hZ0 M N R a11 g_a11) (cwV 0 hts gX8_isHoused_X0_current rfl rfl rfl (by decide +kernel) ⟨Nat.le_of_ble_eq_true rfl, Nat.le_of_ble_eq_true rfl⟩) (h_preV hZ0 hK hE hI g_a11 (by decide) rfl) rfl rfl hl.1 rfl (lv_room (Nat.le_of_ble_eq_true rfl)) dX8_isHoused_12 ⟨Nat.le_of_ble_eq_true rfl, Nat.le_of_ble_eq_true rfl⟩) (fun a12 M13 N14 R15 H locs q16 z_M13 hI => ?_)
    obtain ⟨rfl, rfl, rfl, g_a12⟩ := q16
    refine h_getr hx hb hts iX8_isHoused_X7 hown hK hI g_a12 (by decide) rfl rfl 1 (by decide) rfl 13 rfl (hts (.fieldLink RX8 147 "CatLeases$State" "places" "[I") (List.mem_of_getElem? (i := 2) rfl)) (fun _ h9 => h9) dX8_isHoused_15 (fun a17 e_a17 g_a17 => ?_)
    refine lv_iload_n hx hb dX8_isHoused_18 rfl (lv_at hl 1 rfl) ?_
    refine h_iald (j := p1.toNatClampNeg) (lo := (-1)) (hi := 7) hx hb hK hI g_a17 (by decide) rfl (iv_in (n := 7) i9 (by decide) (by decide)) rfl (hI.iv1 (n := 7) g_a17 rfl (in_lt (iv_in (n := 7) i9 (by decide) (by decide))) rfl) dX8_isHoused_19 (fun v18 e_v18 i_v18 => ?_)
    refine lv_iconst (v := (-1)) hx hb dX8_isHoused_20 (by decide) ?_
    refine lv_icmp_eq (tgt := 28) hx hb dX8_isHoused_21 (by decide) (fun c19 => ?_) (fun c19 => ?_)
    · have i20 : iv v18 (-1) (-1) := iv_eq1 c19 i_v18 kc_m1
      refine lv_iconst (v := 0) hx hb dX8_isHoused_28 (by decide) ?_
      exact h_iret hQ hx hb hr hlocks rfl hK hI ⟨rfl, rfl, rfl, (iv_w (lo' := 0) (hi' := 1) kc_0 (by decide) (by decide)), (fun h9 => absurd rfl h9)⟩ dX8_isHoused_29
    · have i21 : iv v18 0 7 := iv_neL c19 i_v18 (by decide) (by decide)
      refine lv_iconst (v := 1) hx hb dX8_isHoused_24 (by decide) ?_
      refine lv_goto (tgt := 29) hx hb dX8_isHoused_25 (by decide) ?_
      exact h_iret hQ hx hb hr hlocks rfl hK hI ⟨rfl, rfl, rfl, (iv_w (lo' := 0) (hi' := 1) kc_1 (by decide) (by decide)), (fun _ => i9)⟩ dX8_isHoused_29
abbrev e_h_isOut_X8 : List (Nat × Nat) := []
set_option maxHeartbeats 4000000 in
set_option maxRecDepth 100000 in
theorem h_isOut_X8 (l : Launch) (D : va_G) (g : Nat → ClassId) (σ : Nat → Option Nat) (Z : State → Heap → Prop) (hZ0 : hZ σ Z) (M : hM) (N : hN) (R : hR) (x : Nat) (g_x : σ x = some 8) (p1 : Int32) : Met l yX8_isOut wsX8_isOut ({ frames := 1, cells := 0, slots := 0, locals := 21 }) (va_Pc [.ref x, .int p1] (hPre D g σ Z M N R)) (hQi D g σ e_h_isOut_X8 M (fun (r : Int32) (M1 : hM) (N1 : hN) (R1 : hR) => M = M1 ∧ N = N1 ∧ R = R1 ∧ iv r 0 1 ∧ (¬ r = 0 → iv p1 0 6))) 0 0 (hA σ) := by
  refine h_head (cc := cX8_isOut) (maxL := 2) (ret := (some .boolean)) (by decide) rfl (Nat.le_of_ble_eq_true rfl) e_h_isOut_X8 ?_
  intro p e s m below meth c ls Q ar hQ hx hb hr hlocks hml hown hts hK hE H locs hI hl
  have hown : s.vm.findClass RX8 = some m.cls := hown
  have hl : lv_has ls 2 [(0, .ref x), (1, .int p1)] := hl
  refine lv_aload_n hx hb dX8_isOut_0 rfl (lv_at hl 0 rfl) ?_
  refine lv_iload_n hx hb dX8_isOut_1 rfl (lv_at hl 1 rfl) ?_
  refine h_goi hI (by decide) (va_runV (As := [.int p1]) (rest := []) ⟨hx, hb, hml, hown, hts⟩ (h_isTenant_X8 l D g σ Z hZ0 M N R x g_x p1) (cwV 1 hts gX8_isOut_X8_isTenant rfl rfl rfl (by decide +kernel) ⟨Nat.le_of_ble_eq_true rfl, Nat.le_of_ble_eq_true rfl⟩) (h_preV hZ0 hK hE hI g_x (by decide) rfl) rfl rfl hl.1 rfl (lv_room (Nat.le_of_ble_eq_true rfl)) dX8_isOut_2 ⟨Nat.le_of_ble_eq_true rfl, Nat.le_of_ble_eq_true rfl⟩) (fun r1 M2 N3 R4 H locs q5 z_M2 hI => ?_)
  obtain ⟨rfl, rfl, rfl, i_r1, z6⟩ := q5
  refine lv_if_eq (tgt := 28) hx hb dX8_isOut_5 (by decide) (fun c7 => ?_) (fun c7 => ?_)
  · have i8 : iv r1 0 0 := iv_eq1 c7 i_r1 kc_0
    refine lv_iconst (v := 0) hx hb dX8_isOut_28 (by decide) ?_
    exact h_iret hQ hx hb hr hlocks rfl hK hI ⟨rfl, rfl, rfl, (iv_w (lo' := 0) (hi' := 1) kc_0 (by decide) (by decide)), (fun h9 => absurd rfl h9)⟩ dX8_isOut_29
  · have i9 : iv p1 0 6 := z6 c7
    have i10 : iv r1 1 1 := iv_neL c7 i_r1 (by decide) (by decide)
    refine lv_aload_n hx hb dX8_isOut_8 rfl (lv_at hl 0 rfl) ?_
    refine h_getr hx hb hts iX8_isOut_X8 hown hK hI g_x (by decide) rfl rfl 4 (by decide) rfl 0 rfl (hts (.fieldLink RX8 34 "CatLeases" "acts" "LCatLeases$Acts;") (List.mem_of_getElem? (i := 1) rfl)) (fun _ h9 => h9) dX8_isOut_9 (fun a11 e_a11 g_a11 => ?_)
    refine h_gor hI (by decide) (va_runV (As := []) (rest := []) ⟨hx, hb, hml, hown, hts⟩ (h_current_X0 l D g σ Z hZ0 M N R a11 g_a11) (cwV 0 hts gX8_isOut_X0_current rfl rfl rfl (by decide +kernel) ⟨Nat.le_of_ble_eq_true rfl, Nat.le_of_ble_eq_true rfl⟩) (h_preV hZ0 hK hE hI g_a11 (by decide) rfl) rfl rfl hl.1 rfl (lv_room (Nat.le_of_ble_eq_true rfl)) dX8_isOut_12 ⟨Nat.le_of_ble_eq_true rfl, Nat.le_of_ble_eq_true rfl⟩) (fun a12 M13 N14 R15 H locs q16 z_M13 hI => ?_)
    obtain ⟨rfl, rfl, rfl, g_a12⟩ := q16
    refine h_getr hx hb hts iX8_isOut_X7 hown hK hI g_a12 (by decide) rfl rfl 1 (by decide) rfl 13 rfl (hts (.fieldLink RX8 147 "CatLeases$State" "places" "[I") (List.mem_of_getElem? (i := 2) rfl)) (fun _ h9 => h9) dX8_isOut_15 (fun a17 e_a17 g_a17 => ?_)
    refine lv_iload_n hx hb dX8_isOut_18 rfl (lv_at hl 1 rfl) ?_
    refine h_iald (j := p1.toNatClampNeg) (lo := (-1)) (hi := 7) hx hb hK hI g_a17 (by decide) rfl (iv_in (n := 7) i9 (by decide) (by decide)) rfl (hI.iv1 (n := 7) g_a17 rfl (in_lt (iv_in (n := 7) i9 (by decide) (by decide))) rfl) dX8_isOut_19 (fun v18 e_v18 i_v18 => ?_)
    refine lv_iconst (v := (-1)) hx hb dX8_isOut_20 (by decide) ?_
    refine lv_icmp_ne (tgt := 28) hx hb dX8_isOut_21 (by decide) (fun c19 => ?_) (fun c19 => ?_)
    · have i20 : iv v18 0 7 := iv_neL c19 i_v18 (by decide) (by decide)
      refine lv_iconst (v := 0) hx hb dX8_isOut_28 (by decide) ?_
      exact h_iret hQ hx hb hr hlocks rfl hK hI ⟨rfl, rfl, rfl, (iv_w (lo' := 0) (hi' := 1) kc_0 (by decide) (by decide)), (fun h9 => absurd rfl h9)⟩ dX8_isOut_29
    · have i21 : iv v18 (-1) (-1) := iv_eq1 c19 i_v18 kc_m1
      refine lv_iconst (v := 1) hx hb dX8_isOut_24 (by decide) ?_
      refine lv_goto (tgt := 29) hx hb dX8_isOut_25 (by decide) ?_
      exact h_iret hQ hx hb hr hlocks rfl hK hI ⟨rfl, rfl, rfl, (iv_w (lo' := 0) (hi' := 1) kc_1 (by decide) (by decide)), (fun _ => i9)⟩ dX8_isOut_29
abbrev e_h_isSeenQuarter_X8 : List (Nat × Nat) := []
set_option maxHeartbeats 4000000 in
set_option maxRecDepth 100000 in
theorem h_isSeenQuarter_X8 (l : Launch) (D : va_G) (g : Nat → ClassId) (σ : Nat → Option Nat) (Z : State → Heap → Prop) (hZ0 : hZ σ Z) (M : hM) (N : hN) (R : hR) (p0 : Int32) : Met l yX8_isSeenQuarter wsX8_isSeenQuarter ({ frames := 0, cells := 0, slots := 0, locals := 0 }) (va_Pc [.int p0] (hPre D g σ Z M N R)) (hQi D g σ e_h_isSeenQuarter_X8 M (fun (r : Int32) (M1 : hM) (N1 : hN) (R1 : hR) => M = M1 ∧ N = N1 ∧ R = R1 ∧ iv r 0 1 ∧ (¬ r = 0 → iv p0 0 9))) 0 0 (hA σ) := by
  refine h_head (cc := cX8_isSeenQuarter) (maxL := 1) (ret := (some .boolean)) (by decide) rfl (Nat.le_of_ble_eq_true rfl) e_h_isSeenQuarter_X8 ?_
  intro p e s m below meth c ls Q ar hQ hx hb hr hlocks hml hown hts hK hE H locs hI hl
  have hown : s.vm.findClass RX8 = some m.cls := hown
  have hl : lv_has ls 1 [(0, .int p0)] := hl
  refine lv_iload_n hx hb dX8_isSeenQuarter_0 rfl (lv_at hl 0 rfl) ?_
  refine lv_if_lt (tgt := 14) hx hb dX8_isSeenQuarter_1 (by decide) (fun c1 => ?_) (fun c1 => ?_)
  · have i2 : iv p0 (-2147483648) (-1) := iv_lt1 c1 (iv_any p0) kc_0 (by decide)
    refine lv_iconst (v := 0) hx hb dX8_isSeenQuarter_14 (by decide) ?_
    exact h_iret hQ hx hb hr hlocks rfl hK hI ⟨rfl, rfl, rfl, (iv_w (lo' := 0) (hi' := 1) kc_0 (by decide) (by decide)), (fun h9 => absurd rfl h9)⟩ dX8_isSeenQuarter_15
  · have i3 : iv p0 0 2147483647 := iv_nlt1 c1 (iv_any p0) kc_0 (by decide)
    refine lv_iload_n hx hb dX8_isSeenQuarter_4 rfl (lv_at hl 0 rfl) ?_
    refine lv_bipush (v := 9) hx hb dX8_isSeenQuarter_5 (by decide) ?_
    refine lv_icmp_gt (tgt := 14) hx hb dX8_isSeenQuarter_7 (by decide) (fun c4 => ?_) (fun c4 => ?_)
    · have i5 : iv p0 10 2147483647 := iv_lt2 c4 kc_9 i3 (by decide)
      refine lv_iconst (v := 0) hx hb dX8_isSeenQuarter_14 (by decide) ?_
      exact h_iret hQ hx hb hr hlocks rfl hK hI ⟨rfl, rfl, rfl, (iv_w (lo' := 0) (hi' := 1) kc_0 (by decide) (by decide)), (fun h9 => absurd rfl h9)⟩ dX8_isSeenQuarter_15
    · have i6 : iv p0 0 9 := iv_nlt2 c4 kc_9 i3 (by decide)
      refine lv_iconst (v := 1) hx hb dX8_isSeenQuarter_10 (by decide) ?_
      refine lv_goto (tgt := 15) hx hb dX8_isSeenQuarter_11 (by decide) ?_
      exact h_iret hQ hx hb hr hlocks rfl hK hI ⟨rfl, rfl, rfl, (iv_w (lo' := 0) (hi' := 1) kc_1 (by decide) (by decide)), (fun _ => i6)⟩ dX8_isSeenQuarter_15
abbrev e_h_putOnTape_X8 : List (Nat × Nat) := [(8, 1), (10, 999)]
set_option maxHeartbeats 4000000 in
set_option maxRecDepth 100000 in
theorem h_putOnTape_X8 (l : Launch) (D : va_G) (g : Nat → ClassId) (σ : Nat → Option Nat) (Z : State → Heap → Prop) (hZ0 : hZ σ Z) (M : hM) (N : hN) (R : hR) (x : Nat) (g_x : σ x = some 8) (p1 : Int32) : Met l yX8_putOnTape wsX8_putOnTape ({ frames := 0, cells := 0, slots := 0, locals := 0 }) (va_Pc [.ref x, .int p1] (hPre D g σ Z M N R)) (hQv D g σ e_h_putOnTape_X8 M (fun (M1 : hM) (N1 : hN) (R1 : hR) => N = N1 ∧ R = R1)) 0 0 (hA σ) := by
  refine h_head (cc := cX8_putOnTape) (maxL := 3) (ret := none) (by decide) rfl (Nat.le_of_ble_eq_true rfl) e_h_putOnTape_X8 ?_
  intro p e s m below meth c ls Q ar hQ hx hb hr hlocks hml hown hts hK hE H locs hI hl
  have hown : s.vm.findClass RX8 = some m.cls := hown
  have hl : lv_has ls 3 [(0, .ref x), (1, .int p1)] := hl
  refine lv_bipush (v := 24) hx hb dX8_putOnTape_0 (by decide) ?_
  have J3 : ∀ (n : Nat) (M_3 : hM) (v2_3 : Int32) (H : Heap) (locs : List Loc) (ls : Array Slot), kI D g σ e_h_putOnTape_X8 M s.heap M_3 N R H locs → lv_has ls 3 [(0, .ref x), (1, .int p1), (2, .int v2_3)] → iv v2_3 (-8) 24 → v2_3.toInt ≤ (-9) + (n : Int) → W p l e (headSpec wsX8_putOnTape ({ frames := 0, cells := 0, slots := 0, locals := 0 })).room s m ar below meth c H locs 0 0 Q (F0 m 3 ls []) := by
    intro n
    induction n with
    | zero => intro M_3 v2_3 H locs ls hI hl i_v2_3 hn; exfalso; have hz := i_v2_3; simp only [iv] at hz; omega
    | succ n ih3 =>
      intro M_3 v2_3 H locs ls hI hl i_v2_3 hn3
      refine lv_iload_n hx hb dX8_putOnTape_3 rfl (lv_at hl 2 rfl) ?_
      refine lv_if_lt (tgt := 48) hx hb dX8_putOnTape_4 (by decide) (fun c1 => ?_) (fun c1 => ?_)
      · have i2 : iv v2_3 (-8) (-1) := iv_lt1 c1 i_v2_3 kc_0 (by decide)
        exact h_vret hQ hx hb hr hlocks hK hI ⟨rfl, rfl⟩ dX8_putOnTape_48
      · have i3 : iv v2_3 0 24 := iv_nlt1 c1 i_v2_3 kc_0 (by decide)
        refine lv_aload_n hx hb dX8_putOnTape_7 rfl (lv_at hl 0 rfl) ?_
        refine h_geti (lo := 0) (hi := 1600) hx hb hts iX8_putOnTape_X8 hown hK hI g_x (by decide) rfl rfl 1 (by decide) rfl rfl (hts (.fieldLink RX8 13 "CatLeases" "tapeLength" "I") (List.mem_of_getElem? (i := 1) rfl)) (fun _ h9 => h9) dX8_putOnTape_8 (fun v4 e_v4 i_v4 => ?_)
        refine lv_aload_n hx hb dX8_putOnTape_11 rfl (lv_at hl 0 rfl) ?_
        refine h_getr hx hb hts iX8_putOnTape_X8 hown hK hI g_x (by decide) rfl rfl 0 (by decide) rfl 10 rfl (hts (.fieldLink RX8 9 "CatLeases" "tape" "[B") (List.mem_of_getElem? (i := 2) rfl)) (fun _ h9 => h9) dX8_putOnTape_12 (fun a5 e_a5 g_a5 => ?_)
        refine h_alen (v := 1600) hx hb hK hI g_a5 (by decide) rfl (by decide) (by decide) dX8_putOnTape_15 ?_
        have J42 : ∀ (M_42 : hM) (H : Heap) (locs : List Loc) (ls : Array Slot), kI D g σ e_h_putOnTape_X8 M s.heap M_42 N R H locs → lv_has ls 3 [(0, .ref x), (1, .int p1), (2, .int v2_3)] → W p l e (headSpec wsX8_putOnTape ({ frames := 0, cells := 0, slots := 0, locals := 0 })).room s m ar below meth c H locs 0 0 Q (F0 m 42 ls []) := by
          intro M_42 H locs ls hI hl
          obtain ⟨v6, e_v6⟩ : ∃ z : Int32, z = v2_3 + Int32.ofInt (-8) := ⟨_, rfl⟩
          have i_v6 : iv v6 (-8) 16 := by rw [e_v6]; exact iv_add i3 (ki_m8) (by decide) (by decide) (by decide) (by decide)
          refine lv_iinc (v := v6) (lv' := [(2, .int v6), (0, .ref x), (1, .int p1)]) hx hb dX8_putOnTape_42 hl (k := 2) rfl e_v6.symm (by decide) rfl (fun ls hl => ?_)
          refine lv_goto (tgt := 3) hx hb dX8_putOnTape_45 (by decide) ?_
          exact ih3 M_42 v6 H locs ls hI (lv_sub hl [1, 2, 0] rfl) (iv_w (lo' := (-8)) (hi' := 24) i_v6 (by decide) (by decide)) (by have h9 := (h_inc e_v6 i3 ki_m8 (by decide) (by decide)); omega)
        refine lv_icmp_ge (tgt := 42) hx hb dX8_putOnTape_16 (by decide) (fun c7 => ?_) (fun c7 => ?_)
        · have i8 : iv v4 1600 1600 := iv_le2 c7 kc_1600 i_v4 (by decide)
          exact J42 M_3 H locs ls hI hl
        · have i9 : iv v4 0 1599 := iv_nle2 c7 kc_1600 i_v4 (by decide)
          refine lv_aload_n hx hb dX8_putOnTape_19 rfl (lv_at hl 0 rfl) ?_
          refine h_getr hx hb hts iX8_putOnTape_X8 hown hK hI g_x (by decide) rfl rfl 0 (by decide) rfl 10 rfl (hts (.fieldLink RX8 9 "CatLeases" "tape" "[B") (List.mem_of_getElem? (i := 2) rfl)) (fun _ h9 => h9) dX8_putOnTape_20 (fun a10 e_a10 g_a10 => ?_)
          have q11 : a5 = a10 := (e_a5).trans e_a10.symm
          subst q11
          refine lv_aload_n hx hb dX8_putOnTape_23 rfl (lv_at hl 0 rfl) ?_
          refine h_geti (lo := 0) (hi := 1600) hx hb hts iX8_putOnTape_X8 hown hK hI g_x (by decide) rfl rfl 1 (by decide) rfl rfl (hts (.fieldLink RX8 13 "CatLeases" "tapeLength" "I") (List.mem_of_getElem? (i := 1) rfl)) (fun _ h9 => h9) dX8_putOnTape_24 (fun v12 e_v12 i_v12 => ?_)
          have q13 : v4 = v12 := (e_v4).trans e_v12.symm
          subst q13
          refine lv_iload_n hx hb dX8_putOnTape_27 rfl (lv_at hl 1 rfl) ?_
          refine lv_iload_n hx hb dX8_putOnTape_28 rfl (lv_at hl 2 rfl) ?_
          obtain ⟨v14, e_v14⟩ : ∃ z : Int32, (p1.toUInt32 >>> (Int32.toUInt32 v2_3 &&& Int32.toUInt32 31)).toInt32 = z := ⟨_, rfl⟩
          refine lv_iushr (v := v14) hx hb dX8_putOnTape_29 e_v14 ?_
          obtain ⟨v15, e_v15⟩ : ∃ z : Int32, v14.toInt8.toInt32 = z := ⟨_, rfl⟩
          refine lv_i2b (v := v15) hx hb dX8_putOnTape_30 e_v15 ?_
          refine h_bast (j := v4.toNatClampNeg) hx hb hK hI g_a5 (by decide) rfl (iv_in (n := 1600) i9 (by decide) (by decide)) rfl (iv_any _) rfl dX8_putOnTape_31 (fun M16 H locs e_M16 hI => ?_)
          refine lv_aload_n hx hb dX8_putOnTape_32 rfl (lv_at hl 0 rfl) ?_
          refine lv_dup hx hb dX8_putOnTape_33 rfl ?_
          refine h_geti (lo := 0) (hi := 1600) hx hb hts iX8_putOnTape_X8 hown hK hI g_x (by decide) rfl rfl 1 (by decide) rfl rfl (hts (.fieldLink RX8 13 "CatLeases" "tapeLength" "I") (List.mem_of_getElem? (i := 1) rfl)) (fun _ h9 => h9) dX8_putOnTape_34 (fun v17 e_v17 i_v17 => ?_)
          have q18 : v4 = v17 := ((e_v4).trans (u2_st (a := x) (k := 1) e_M16 (u2_a (so_ne g_x g_a5 (by decide)))).symm).trans e_v17.symm
          subst q18
          refine lv_iconst (v := 1) hx hb dX8_putOnTape_37 (by decide) ?_
          refine lv_iadd hx hb dX8_putOnTape_38 ?_
          refine h_nm (lo := 1) (hi := 1600) (iv_add i9 kc_1 (by decide) (by decide) (by decide) (by decide)) (fun v19 e_v19 i_v19 => ?_)
          refine h_puti hx hb hts iX8_putOnTape_X8 tyX8 tyX8_ok nmX8 hown hK hI g_x (by decide) rfl rfl 1 (by decide) rfl (hts (.fieldLink RX8 13 "CatLeases" "tapeLength" "I") (List.mem_of_getElem? (i := 1) rfl)) (fun _ h9 => h9) rfl .int (by decide +kernel) rfl rfl (iv_w (lo' := 0) (hi' := 1600) i_v19 (by decide) (by decide)) rfl dX8_putOnTape_39 (fun M20 H locs e_M20 hI => ?_)
          exact J42 M20 H locs ls hI hl
  refine lv_istore_n (lv' := [(2, .int (24 : Int32)), (0, .ref x), (1, .int p1)]) hx hb dX8_putOnTape_2 rfl hl (by decide) rfl (fun ls hl => ?_)
  exact J3 33 M (24 : Int32) H locs ls hI (lv_sub hl [1, 2, 0] rfl) (iv_w (lo' := (-8)) (hi' := 24) kc_24 (by decide) (by decide)) (by have h9 := kc_24; simp only [iv] at h9; omega)
abbrev e_h_feed_X8 : List (Nat × Nat) := [(8, 1), (10, 999)]
set_option maxHeartbeats 4000000 in
set_option maxRecDepth 100000 in
theorem h_feed_X8 (l : Launch) (D : va_G) (g : Nat → ClassId) (σ : Nat → Option Nat) (Z : State → Heap → Prop) (hZ0 : hZ σ Z) (M : hM) (N : hN) (R : hR) (x : Nat) (g_x : σ x = some 8) (p1 : Int32) (p2 : Int32) (p3 : Int32) (p4 : Int32) (p5 : Int32) : Met l yX8_feed wsX8_feed ({ frames := 1, cells := 0, slots := 0, locals := 22 }) (va_Pc [.ref x, .int p1, .int p2, .int p3, .int p4, .int p5] (hPre D g σ Z M N R)) (hQi D g σ e_h_feed_X8 M (fun (r : Int32) (M1 : hM) (N1 : hN) (R1 : hR) => N = N1 ∧ R = R1 ∧ iv r (-1) 1600)) 0 0 (hA σ) := by
  refine h_head (cc := cX8_feed) (maxL := 6) (ret := (some .int)) (by decide) rfl (Nat.le_of_ble_eq_true rfl) e_h_feed_X8 ?_
  intro p e s m below meth c ls Q ar hQ hx hb hr hlocks hml hown hts hK hE H locs hI hl
  have hown : s.vm.findClass RX8 = some m.cls := hown
  have hl : lv_has ls 6 [(0, .ref x), (1, .int p1), (2, .int p2), (3, .int p3), (4, .int p4), (5, .int p5)] := hl
  refine lv_aload_n hx hb dX8_feed_0 rfl (lv_at hl 0 rfl) ?_
  refine h_geti (lo := 0) (hi := 1600) hx hb hts iX8_feed_X8 hown hK hI g_x (by decide) rfl rfl 1 (by decide) rfl rfl (hts (.fieldLink RX8 13 "CatLeases" "tapeLength" "I") (List.mem_of_getElem? (i := 1) rfl)) (fun _ h9 => h9) dX8_feed_1 (fun v1 e_v1 i_v1 => ?_)
  refine lv_bipush (v := 20) hx hb dX8_feed_4 (by decide) ?_
  refine lv_iadd hx hb dX8_feed_6 ?_
  refine h_nm (lo := 20) (hi := 1620) (iv_add i_v1 kc_20 (by decide) (by decide) (by decide) (by decide)) (fun v2 e_v2 i_v2 => ?_)
  refine lv_sipush (v := 1600) hx hb dX8_feed_7 (by decide) ?_
  refine lv_icmp_le (tgt := 15) hx hb dX8_feed_10 (by decide) (fun c3 => ?_) (fun c3 => ?_)
  · have i4 : iv v2 20 1600 := iv_le1 c3 i_v2 kc_1600 (by decide)
    have i5 : iv v1 0 1580 := iv_back (h_inc e_v2 i_v1 kc_20 (by decide) (by decide)) i4 i_v1 (by decide) (by decide)
    refine lv_aload_n hx hb dX8_feed_15 rfl (lv_at hl 0 rfl) ?_
    refine lv_iload_n hx hb dX8_feed_16 rfl (lv_at hl 1 rfl) ?_
    refine h_gov hI (by decide) (va_runV (As := [.int p1]) (rest := []) ⟨hx, hb, hml, hown, hts⟩ (h_putOnTape_X8 l D g σ Z hZ0 M N R x g_x p1) (cwV 1 hts gX8_feed_X8_putOnTape rfl rfl rfl (by decide +kernel) ⟨Nat.le_of_ble_eq_true rfl, Nat.le_of_ble_eq_true rfl⟩) (h_preV hZ0 hK hE hI g_x (by decide) rfl) rfl rfl hl.1 rfl (lv_room (Nat.le_of_ble_eq_true rfl)) dX8_feed_17 ⟨Nat.le_of_ble_eq_true rfl, Nat.le_of_ble_eq_true rfl⟩) (fun M7 N8 R9 H locs q10 z_M7 hI => ?_)
    obtain ⟨rfl, rfl⟩ := q10
    refine lv_aload_n hx hb dX8_feed_20 rfl (lv_at hl 0 rfl) ?_
    refine lv_iload_n hx hb dX8_feed_21 rfl (lv_at hl 2 rfl) ?_
    refine h_gov hI (by decide) (va_runV (As := [.int p2]) (rest := []) ⟨hx, hb, hml, hown, hts⟩ (h_putOnTape_X8 l D g σ Z hZ0 M7 N R x g_x p2) (cwV 1 hts gX8_feed_X8_putOnTape rfl rfl rfl (by decide +kernel) ⟨Nat.le_of_ble_eq_true rfl, Nat.le_of_ble_eq_true rfl⟩) (h_preV hZ0 hK hE hI g_x (by decide) rfl) rfl rfl hl.1 rfl (lv_room (Nat.le_of_ble_eq_true rfl)) dX8_feed_22 ⟨Nat.le_of_ble_eq_true rfl, Nat.le_of_ble_eq_true rfl⟩) (fun M12 N13 R14 H locs q15 z_M12 hI => ?_)
    obtain ⟨rfl, rfl⟩ := q15
    refine lv_aload_n hx hb dX8_feed_25 rfl (lv_at hl 0 rfl) ?_
    refine lv_iload_n hx hb dX8_feed_26 rfl (lv_at hl 3 rfl) ?_
    refine h_gov hI (by decide) (va_runV (As := [.int p3]) (rest := []) ⟨hx, hb, hml, hown, hts⟩ (h_putOnTape_X8 l D g σ Z hZ0 M12 N R x g_x p3) (cwV 1 hts gX8_feed_X8_putOnTape rfl rfl rfl (by decide +kernel) ⟨Nat.le_of_ble_eq_true rfl, Nat.le_of_ble_eq_true rfl⟩) (h_preV hZ0 hK hE hI g_x (by decide) rfl) rfl rfl hl.1 rfl (lv_room (Nat.le_of_ble_eq_true rfl)) dX8_feed_27 ⟨Nat.le_of_ble_eq_true rfl, Nat.le_of_ble_eq_true rfl⟩) (fun M17 N18 R19 H locs q20 z_M17 hI => ?_)
    obtain ⟨rfl, rfl⟩ := q20
    refine lv_aload_n hx hb dX8_feed_30 rfl (lv_at hl 0 rfl) ?_
    refine lv_iload hx hb dX8_feed_31 (lv_at hl 4 rfl) ?_
    refine h_gov hI (by decide) (va_runV (As := [.int p4]) (rest := []) ⟨hx, hb, hml, hown, hts⟩ (h_putOnTape_X8 l D g σ Z hZ0 M17 N R x g_x p4) (cwV 1 hts gX8_feed_X8_putOnTape rfl rfl rfl (by decide +kernel) ⟨Nat.le_of_ble_eq_true rfl, Nat.le_of_ble_eq_true rfl⟩) (h_preV hZ0 hK hE hI g_x (by decide) rfl) rfl rfl hl.1 rfl (lv_room (Nat.le_of_ble_eq_true rfl)) dX8_feed_33 ⟨Nat.le_of_ble_eq_true rfl, Nat.le_of_ble_eq_true rfl⟩) (fun M22 N23 R24 H locs q25 z_M22 hI => ?_)
    obtain ⟨rfl, rfl⟩ := q25
    refine lv_aload_n hx hb dX8_feed_36 rfl (lv_at hl 0 rfl) ?_
    refine lv_iload hx hb dX8_feed_37 (lv_at hl 5 rfl) ?_
    refine h_gov hI (by decide) (va_runV (As := [.int p5]) (rest := []) ⟨hx, hb, hml, hown, hts⟩ (h_putOnTape_X8 l D g σ Z hZ0 M22 N R x g_x p5) (cwV 1 hts gX8_feed_X8_putOnTape rfl rfl rfl (by decide +kernel) ⟨Nat.le_of_ble_eq_true rfl, Nat.le_of_ble_eq_true rfl⟩) (h_preV hZ0 hK hE hI g_x (by decide) rfl) rfl rfl hl.1 rfl (lv_room (Nat.le_of_ble_eq_true rfl)) dX8_feed_39 ⟨Nat.le_of_ble_eq_true rfl, Nat.le_of_ble_eq_true rfl⟩) (fun M27 N28 R29 H locs q30 z_M27 hI => ?_)
    obtain ⟨rfl, rfl⟩ := q30
    refine lv_aload_n hx hb dX8_feed_42 rfl (lv_at hl 0 rfl) ?_
    refine h_geti (lo := 0) (hi := 1600) hx hb hts iX8_feed_X8 hown hK hI g_x (by decide) rfl rfl 1 (by decide) rfl rfl (hts (.fieldLink RX8 13 "CatLeases" "tapeLength" "I") (List.mem_of_getElem? (i := 1) rfl)) (fun _ h9 => h9) dX8_feed_43 (fun v31 e_v31 i_v31 => ?_)
    exact h_iret hQ hx hb hr hlocks rfl hK hI ⟨rfl, rfl, (iv_w (lo' := (-1)) (hi' := 1600) i_v31 (by decide) (by decide))⟩ dX8_feed_46
  · have i32 : iv v2 1601 1620 := iv_nle1 c3 i_v2 kc_1600 (by decide)
    have i33 : iv v1 1581 1600 := iv_back (h_inc e_v2 i_v1 kc_20 (by decide) (by decide)) i32 i_v1 (by decide) (by decide)
    refine lv_iconst (v := (-1)) hx hb dX8_feed_13 (by decide) ?_
    exact h_iret hQ hx hb hr hlocks rfl hK hI ⟨rfl, rfl, (iv_w (lo' := (-1)) (hi' := 1600) kc_m1 (by decide) (by decide))⟩ dX8_feed_14
