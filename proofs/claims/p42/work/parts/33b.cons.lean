abbrev e_h_keepNow_X9 : List (Nat × Nat) := [(152, 999)]
set_option maxHeartbeats 4000000 in
set_option maxRecDepth 100000 in
theorem h_keepNow_X9 (l : Launch) (D : va_G) (g : Nat → ClassId) (σ : Nat → Option Nat) (Z : State → Heap → Prop) (hZ0 : hZ σ Z) (M : hM) (N : hN) (R : hR) (y : Nat) (g_y : σ y = some 9) : Met l yX9_keepNow wsX9_keepNow ({ frames := 0, cells := 0, slots := 0, locals := 0 }) (va_Pc [.ref y] (hPre D g σ Z M N R)) (hQv D g σ e_h_keepNow_X9 M (fun (M1 : hM) (N1 : hN) (R1 : hR) => N = N1 ∧ R = R1 ∧ (CPI M M1 (R y 52) 0 (R y 45) 0 39))) 0 0 (hA σ) := by
  refine h_head (cc := cX9_keepNow) (maxL := 2) (ret := none) (by decide) rfl (Nat.le_of_ble_eq_true rfl) e_h_keepNow_X9 ?_
  intro p e s m below meth c ls Q ar hQ hx hb hr hlocks hml hown hts hK hE H locs hI hl
  have hown : s.vm.findClass RX9 = some m.cls := hown
  have hl : lv_has ls 2 [(0, .ref y)] := hl
  refine lv_iconst (v := 0) hx hb dX9_keepNow_0 (by decide) ?_
  have J2 : ∀ (n : Nat) (M_2 : hM) (v1_2 : Int32) (H : Heap) (locs : List Loc) (ls : Array Slot), kI D g σ e_h_keepNow_X9 M s.heap M_2 N R H locs → lv_has ls 2 [(0, .ref y), (1, .int v1_2)] → iv v1_2 0 39 → CPI M M_2 (R y 52) 0 (R y 45) 0 v1_2.toNatClampNeg → 40 ≤ v1_2.toInt + (n : Int) → W p l e (headSpec wsX9_keepNow ({ frames := 0, cells := 0, slots := 0, locals := 0 })).room s m ar below meth c H locs 0 0 Q (F0 m 2 ls []) := by
    intro n
    induction n with
    | zero => intro M_2 v1_2 H locs ls hI hl i_v1_2 hcp_2 hn; exfalso; have hz := i_v1_2; simp only [iv] at hz; omega
    | succ n ih2 =>
      intro M_2 v1_2 H locs ls hI hl i_v1_2 hcp_2 hn2
      refine lv_iload_n hx hb dX9_keepNow_2 rfl (lv_at hl 1 rfl) ?_
      refine lv_bipush (v := 39) hx hb dX9_keepNow_3 (by decide) ?_
      refine lv_icmp_ge (tgt := 26) hx hb dX9_keepNow_5 (by decide) (fun c1 => ?_) (fun c1 => ?_)
      · have i2 : iv v1_2 39 39 := iv_le2 c1 kc_39 i_v1_2 (by decide)
        exact h_vret hQ hx hb hr hlocks hK hI ⟨rfl, rfl, (cp_end hcp_2 i2)⟩ dX9_keepNow_26
      · have i3 : iv v1_2 0 38 := iv_nle2 c1 kc_39 i_v1_2 (by decide)
        refine lv_aload_n hx hb dX9_keepNow_8 rfl (lv_at hl 0 rfl) ?_
        refine h_getr hx hb hts iX9_keepNow_X9 hown hK hI g_y (by decide) rfl rfl 52 (by decide) rfl 152 rfl (hts (.fieldLink RX9 109 "CatLeasesModel" "kept" "[I") (List.mem_of_getElem? (i := 1) rfl)) (fun _ h9 => h9) dX9_keepNow_9 (fun a4 e_a4 g_a4 => ?_)
        refine lv_iload_n hx hb dX9_keepNow_12 rfl (lv_at hl 1 rfl) ?_
        refine lv_aload_n hx hb dX9_keepNow_13 rfl (lv_at hl 0 rfl) ?_
        refine h_getr hx hb hts iX9_keepNow_X9 hown hK hI g_y (by decide) rfl rfl 45 (by decide) rfl 145 rfl (hts (.fieldLink RX9 94 "CatLeasesModel" "all" "[I") (List.mem_of_getElem? (i := 2) rfl)) (fun _ h9 => h9) dX9_keepNow_14 (fun a5 e_a5 g_a5 => ?_)
        refine lv_iload_n hx hb dX9_keepNow_17 rfl (lv_at hl 1 rfl) ?_
        refine h_iald (j := v1_2.toNatClampNeg) (lo := (-2147483648)) (hi := 2147483647) hx hb hK hI g_a5 (by decide) rfl (iv_in (n := 39) i3 (by decide) (by decide)) rfl (iv_any _) dX9_keepNow_18 (fun v6 e_v6 i_v6 => ?_)
        refine h_iast (j := v1_2.toNatClampNeg) hx hb hK hI g_a4 (by decide) rfl (iv_in (n := 39) i3 (by decide) (by decide)) rfl (iv_cp (s := 145) (s1 := 152) hI.2.1 g_a5 (in_lt (iv_in (n := 39) i3 (by decide) (by decide))) e_v6 (by decide) (by decide) rfl) rfl dX9_keepNow_19 (fun M7 H locs e_M7 hI => ?_)
        obtain ⟨v8, e_v8⟩ : ∃ z : Int32, z = v1_2 + Int32.ofInt 1 := ⟨_, rfl⟩
        have i_v8 : iv v8 1 39 := by rw [e_v8]; exact iv_add i3 (ki_1) (by decide) (by decide) (by decide) (by decide)
        refine lv_iinc (v := v8) (lv' := [(1, .int v8), (0, .ref y)]) hx hb dX9_keepNow_20 hl (k := 1) rfl e_v8.symm (by decide) rfl (fun ls hl => ?_)
        refine lv_goto (tgt := 2) hx hb dX9_keepNow_23 (by decide) ?_
        exact ih2 M7 v8 H locs ls hI (lv_sub hl [1, 0] rfl) (iv_w (lo' := 0) (hi' := 39) i_v8 (by decide) (by decide)) (CPI_step (v := v6) (ix := v1_2.toNatClampNeg) (iy := v1_2.toNatClampNeg) hcp_2 (by rw [e_M7, e_a4]) (by rw [e_v6, e_a5]) (Nat.zero_add _).symm (Nat.zero_add _).symm (k_inc1 e_v8 i3 (by decide)) (fun q => so_ne (hI.2.1.r1 g_y 45 145 (by decide) rfl) (hI.2.1.r1 g_y 52 152 (by decide) rfl) (by decide) q.1)) (by have h9 := (h_inc e_v8 i3 ki_1 (by decide) (by decide)); omega)
  refine lv_istore_n (lv' := [(1, .int (0 : Int32)), (0, .ref y)]) hx hb dX9_keepNow_1 rfl hl (by decide) rfl (fun ls hl => ?_)
  exact J2 40 M (0 : Int32) H locs ls hI (lv_sub hl [1, 0] rfl) (iv_w (lo' := 0) (hi' := 39) kc_0 (by decide) (by decide)) CPI_0 (by have h9 := kc_0; simp only [iv] at h9; omega)
abbrev e_h_bringBack_X9 : List (Nat × Nat) := [(145, 999)]
set_option maxHeartbeats 4000000 in
set_option maxRecDepth 100000 in
theorem h_bringBack_X9 (l : Launch) (D : va_G) (g : Nat → ClassId) (σ : Nat → Option Nat) (Z : State → Heap → Prop) (hZ0 : hZ σ Z) (M : hM) (N : hN) (R : hR) (y : Nat) (g_y : σ y = some 9) : Met l yX9_bringBack wsX9_bringBack ({ frames := 0, cells := 0, slots := 0, locals := 0 }) (va_Pc [.ref y] (hPre D g σ Z M N R)) (hQv D g σ e_h_bringBack_X9 M (fun (M1 : hM) (N1 : hN) (R1 : hR) => N = N1 ∧ R = R1 ∧ (CPI M M1 (R y 45) 0 (R y 52) 0 39))) 0 0 (hA σ) := by
  refine h_head (cc := cX9_bringBack) (maxL := 2) (ret := none) (by decide) rfl (Nat.le_of_ble_eq_true rfl) e_h_bringBack_X9 ?_
  intro p e s m below meth c ls Q ar hQ hx hb hr hlocks hml hown hts hK hE H locs hI hl
  have hown : s.vm.findClass RX9 = some m.cls := hown
  have hl : lv_has ls 2 [(0, .ref y)] := hl
  refine lv_iconst (v := 0) hx hb dX9_bringBack_0 (by decide) ?_
  have J2 : ∀ (n : Nat) (M_2 : hM) (v1_2 : Int32) (H : Heap) (locs : List Loc) (ls : Array Slot), kI D g σ e_h_bringBack_X9 M s.heap M_2 N R H locs → lv_has ls 2 [(0, .ref y), (1, .int v1_2)] → iv v1_2 0 39 → CPI M M_2 (R y 45) 0 (R y 52) 0 v1_2.toNatClampNeg → 40 ≤ v1_2.toInt + (n : Int) → W p l e (headSpec wsX9_bringBack ({ frames := 0, cells := 0, slots := 0, locals := 0 })).room s m ar below meth c H locs 0 0 Q (F0 m 2 ls []) := by
    intro n
    induction n with
    | zero => intro M_2 v1_2 H locs ls hI hl i_v1_2 hcp_2 hn; exfalso; have hz := i_v1_2; simp only [iv] at hz; omega
    | succ n ih2 =>
      intro M_2 v1_2 H locs ls hI hl i_v1_2 hcp_2 hn2
      refine lv_iload_n hx hb dX9_bringBack_2 rfl (lv_at hl 1 rfl) ?_
      refine lv_bipush (v := 39) hx hb dX9_bringBack_3 (by decide) ?_
      refine lv_icmp_ge (tgt := 26) hx hb dX9_bringBack_5 (by decide) (fun c1 => ?_) (fun c1 => ?_)
      · have i2 : iv v1_2 39 39 := iv_le2 c1 kc_39 i_v1_2 (by decide)
        exact h_vret hQ hx hb hr hlocks hK hI ⟨rfl, rfl, (cp_end hcp_2 i2)⟩ dX9_bringBack_26
      · have i3 : iv v1_2 0 38 := iv_nle2 c1 kc_39 i_v1_2 (by decide)
        refine lv_aload_n hx hb dX9_bringBack_8 rfl (lv_at hl 0 rfl) ?_
        refine h_getr hx hb hts iX9_bringBack_X9 hown hK hI g_y (by decide) rfl rfl 45 (by decide) rfl 145 rfl (hts (.fieldLink RX9 94 "CatLeasesModel" "all" "[I") (List.mem_of_getElem? (i := 1) rfl)) (fun _ h9 => h9) dX9_bringBack_9 (fun a4 e_a4 g_a4 => ?_)
        refine lv_iload_n hx hb dX9_bringBack_12 rfl (lv_at hl 1 rfl) ?_
        refine lv_aload_n hx hb dX9_bringBack_13 rfl (lv_at hl 0 rfl) ?_
        refine h_getr hx hb hts iX9_bringBack_X9 hown hK hI g_y (by decide) rfl rfl 52 (by decide) rfl 152 rfl (hts (.fieldLink RX9 109 "CatLeasesModel" "kept" "[I") (List.mem_of_getElem? (i := 2) rfl)) (fun _ h9 => h9) dX9_bringBack_14 (fun a5 e_a5 g_a5 => ?_)
        refine lv_iload_n hx hb dX9_bringBack_17 rfl (lv_at hl 1 rfl) ?_
        refine h_iald (j := v1_2.toNatClampNeg) (lo := (-2147483648)) (hi := 2147483647) hx hb hK hI g_a5 (by decide) rfl (iv_in (n := 39) i3 (by decide) (by decide)) rfl (iv_any _) dX9_bringBack_18 (fun v6 e_v6 i_v6 => ?_)
        refine h_iast (j := v1_2.toNatClampNeg) hx hb hK hI g_a4 (by decide) rfl (iv_in (n := 39) i3 (by decide) (by decide)) rfl (iv_cp (s := 152) (s1 := 145) hI.2.1 g_a5 (in_lt (iv_in (n := 39) i3 (by decide) (by decide))) e_v6 (by decide) (by decide) rfl) rfl dX9_bringBack_19 (fun M7 H locs e_M7 hI => ?_)
        obtain ⟨v8, e_v8⟩ : ∃ z : Int32, z = v1_2 + Int32.ofInt 1 := ⟨_, rfl⟩
        have i_v8 : iv v8 1 39 := by rw [e_v8]; exact iv_add i3 (ki_1) (by decide) (by decide) (by decide) (by decide)
        refine lv_iinc (v := v8) (lv' := [(1, .int v8), (0, .ref y)]) hx hb dX9_bringBack_20 hl (k := 1) rfl e_v8.symm (by decide) rfl (fun ls hl => ?_)
        refine lv_goto (tgt := 2) hx hb dX9_bringBack_23 (by decide) ?_
        exact ih2 M7 v8 H locs ls hI (lv_sub hl [1, 0] rfl) (iv_w (lo' := 0) (hi' := 39) i_v8 (by decide) (by decide)) (CPI_step (v := v6) (ix := v1_2.toNatClampNeg) (iy := v1_2.toNatClampNeg) hcp_2 (by rw [e_M7, e_a4]) (by rw [e_v6, e_a5]) (Nat.zero_add _).symm (Nat.zero_add _).symm (k_inc1 e_v8 i3 (by decide)) (fun q => so_ne (hI.2.1.r1 g_y 52 152 (by decide) rfl) (hI.2.1.r1 g_y 45 145 (by decide) rfl) (by decide) q.1)) (by have h9 := (h_inc e_v8 i3 ki_1 (by decide) (by decide)); omega)
  refine lv_istore_n (lv' := [(1, .int (0 : Int32)), (0, .ref y)]) hx hb dX9_bringBack_1 rfl hl (by decide) rfl (fun ls hl => ?_)
  exact J2 40 M (0 : Int32) H locs ls hI (lv_sub hl [1, 0] rfl) (iv_w (lo' := 0) (hi' := 39) kc_0 (by decide) (by decide)) CPI_0 (by have h9 := kc_0; simp only [iv] at h9; omega)
abbrev e_h_outBehind_X9 : List (Nat × Nat) := [(9, 41), (9, 42), (9, 43), (9, 44), (134, 999), (145, 999)]
set_option maxHeartbeats 4000000 in
set_option maxRecDepth 100000 in
theorem h_outBehind_X9 (l : Launch) (D : va_G) (g : Nat → ClassId) (σ : Nat → Option Nat) (Z : State → Heap → Prop) (hZ0 : hZ σ Z) (M : hM) (N : hN) (R : hR) (y : Nat) (g_y : σ y = some 9) (p1 : Int32) (h_p1 : iv p1 0 6) (m0_KK : KK M R y) (m0_CW : CW M R y) : Met l yX9_outBehind wsX9_outBehind ({ frames := 7, cells := 0, slots := 0, locals := 156 }) (va_Pc [.ref y, .int p1] (hPre D g σ Z M N R)) (hQi D g σ e_h_outBehind_X9 M (fun (r : Int32) (M1 : hM) (N1 : hN) (R1 : hR) => N = N1 ∧ R = R1 ∧ iv r (-1) 99 ∧ (KV M1 R y))) 0 0 (hA σ) := by
  refine h_head (cc := cX9_outBehind) (maxL := 4) (ret := (some .int)) (by decide) rfl (Nat.le_of_ble_eq_true rfl) e_h_outBehind_X9 ?_
  intro p e s m below meth c ls Q ar hQ hx hb hr hlocks hml hown hts hK hE H locs hI hl
  have hown : s.vm.findClass RX9 = some m.cls := hown
  have hl : lv_has ls 4 [(0, .ref y), (1, .int p1)] := hl
  refine lv_iconst (v := 0) hx hb dX9_outBehind_0 (by decide) ?_
  have J2 : ∀ (n : Nat) (M_2 : hM) (v2_2 : Int32) (H : Heap) (locs : List Loc) (ls : Array Slot), kI D g σ e_h_outBehind_X9 M s.heap M_2 N R H locs → lv_has ls 4 [(0, .ref y), (1, .int p1), (2, .int v2_2)] → KK M_2 R y → CW M_2 R y → iv v2_2 0 100 → 101 ≤ v2_2.toInt + (n : Int) → W p l e (headSpec wsX9_outBehind ({ frames := 7, cells := 0, slots := 0, locals := 156 })).room s m ar below meth c H locs 0 0 Q (F0 m 2 ls []) := by
    intro n
    induction n with
    | zero => intro M_2 v2_2 H locs ls hI hl m_KK_2 m_CW_2 i_v2_2 hn; exfalso; have hz := i_v2_2; simp only [iv] at hz; omega
    | succ n ih2 =>
      intro M_2 v2_2 H locs ls hI hl m_KK_2 m_CW_2 i_v2_2 hn2
      refine lv_iload_n hx hb dX9_outBehind_2 rfl (lv_at hl 2 rfl) ?_
      refine lv_bipush (v := 99) hx hb dX9_outBehind_3 (by decide) ?_
      have J27 : ∀ (H : Heap) (locs : List Loc) (ls : Array Slot), kI D g σ e_h_outBehind_X9 M s.heap M_2 N R H locs → lv_has ls 4 [(0, .ref y), (2, .int v2_2)] → W p l e (headSpec wsX9_outBehind ({ frames := 7, cells := 0, slots := 0, locals := 156 })).room s m ar below meth c H locs 0 0 Q (F0 m 27 ls []) := by
        intro H locs ls hI hl
        refine lv_aload_n hx hb dX9_outBehind_27 rfl (lv_at hl 0 rfl) ?_
        refine h_gov hI (by decide) (va_runV (As := []) (rest := []) ⟨hx, hb, hml, hown, hts⟩ (h_bringBack_X9 l D g σ Z hZ0 M_2 N R y g_y) (cwV 0 hts gX9_outBehind_X9_bringBack rfl rfl rfl (by decide +kernel) ⟨Nat.le_of_ble_eq_true rfl, Nat.le_of_ble_eq_true rfl⟩) (h_preV hZ0 hK hE hI g_y (by decide) rfl) rfl rfl hl.1 rfl (lv_room (Nat.le_of_ble_eq_true rfl)) dX9_outBehind_28 ⟨Nat.le_of_ble_eq_true rfl, Nat.le_of_ble_eq_true rfl⟩) (fun M2 N3 R4 H locs q5 z_M2 hI => ?_)
        obtain ⟨rfl, rfl, z6⟩ := q5
        have m7 : KV M2 R y := KV_of z6 hI.2.1 g_y m_KK_2
        refine lv_iload_n hx hb dX9_outBehind_31 rfl (lv_at hl 1 rfl) ?_
        refine lv_bipush (v := 99) hx hb dX9_outBehind_32 (by decide) ?_
        refine lv_icmp_gt (tgt := 41) hx hb dX9_outBehind_34 (by decide) (fun c8 => ?_) (fun c8 => ?_)
        · have i9 : iv v2_2 100 100 := iv_lt2 c8 kc_99 i_v2_2 (by decide)
          refine lv_iconst (v := (-1)) hx hb dX9_outBehind_41 (by decide) ?_
          exact h_iret hQ hx hb hr hlocks rfl hK hI ⟨rfl, rfl, (iv_w (lo' := (-1)) (hi' := 99) kc_m1 (by decide) (by decide)), m7⟩ dX9_outBehind_42
        · have i10 : iv v2_2 0 99 := iv_nlt2 c8 kc_99 i_v2_2 (by decide)
          refine lv_iload_n hx hb dX9_outBehind_37 rfl (lv_at hl 1 rfl) ?_
          refine lv_goto (tgt := 42) hx hb dX9_outBehind_38 (by decide) ?_
          exact h_iret hQ hx hb hr hlocks rfl hK hI ⟨rfl, rfl, (iv_w (lo' := (-1)) (hi' := 99) i10 (by decide) (by decide)), m7⟩ dX9_outBehind_42
      refine lv_icmp_gt (tgt := 27) hx hb dX9_outBehind_5 (by decide) (fun c11 => ?_) (fun c11 => ?_)
      · have i12 : iv v2_2 100 100 := iv_lt2 c11 kc_99 i_v2_2 (by decide)
        exact J27 H locs ls hI (lv_sub hl [0, 2] rfl)
      · have i13 : iv v2_2 0 99 := iv_nlt2 c11 kc_99 i_v2_2 (by decide)
        refine lv_aload_n hx hb dX9_outBehind_8 rfl (lv_at hl 0 rfl) ?_
        refine lv_iload_n hx hb dX9_outBehind_9 rfl (lv_at hl 1 rfl) ?_
        refine h_goi hI (by decide) (va_runV (As := [.int p1]) (rest := []) ⟨hx, hb, hml, hown, hts⟩ (h_isOut_X9 l D g σ Z hZ0 M_2 N R y g_y p1 h_p1) (cwV 1 hts gX9_outBehind_X9_isOut rfl rfl rfl (by decide +kernel) ⟨Nat.le_of_ble_eq_true rfl, Nat.le_of_ble_eq_true rfl⟩) (h_preV hZ0 hK hE hI g_y (by decide) rfl) rfl rfl hl.1 rfl (lv_room (Nat.le_of_ble_eq_true rfl)) dX9_outBehind_10 ⟨Nat.le_of_ble_eq_true rfl, Nat.le_of_ble_eq_true rfl⟩) (fun r14 M15 N16 R17 H locs q18 z_M15 hI => ?_)
        obtain ⟨rfl, rfl, rfl, i_r14, z19⟩ := q18
        refine lv_if_ne (tgt := 27) hx hb dX9_outBehind_13 (by decide) (fun c20 => ?_) (fun c20 => ?_)
        · have i21 : iv r14 1 1 := iv_neL c20 i_r14 (by decide) (by decide)
          exact J27 H locs ls hI (lv_sub hl [0, 2] rfl)
        · have i22 := z19 c20
          have i23 : iv r14 0 0 := iv_eq1 c20 i_r14 kc_0
          refine lv_aload_n hx hb dX9_outBehind_16 rfl (lv_at hl 0 rfl) ?_
          refine h_goi hI (by decide) (va_runV (As := []) (rest := []) ⟨hx, hb, hml, hown, hts⟩ (h_goQuarter_X9 l D g σ Z hZ0 M_2 N R y g_y m_CW_2) (cwV 0 hts gX9_outBehind_X9_goQuarter rfl rfl rfl (by decide +kernel) ⟨Nat.le_of_ble_eq_true rfl, Nat.le_of_ble_eq_true rfl⟩) (h_preV hZ0 hK hE hI g_y (by decide) rfl) rfl rfl hl.1 rfl (lv_room (Nat.le_of_ble_eq_true rfl)) dX9_outBehind_17 ⟨Nat.le_of_ble_eq_true rfl, Nat.le_of_ble_eq_true rfl⟩) (fun r24 M25 N26 R27 H locs q28 z_M25 hI => ?_)
          obtain ⟨rfl, rfl, i_r24, m29⟩ := q28
          refine lv_istore_n (lv' := [(3, .int r24), (0, .ref y), (1, .int p1), (2, .int v2_2)]) hx hb dX9_outBehind_20 rfl hl (by decide) rfl (fun ls hl => ?_)
          obtain ⟨v30, e_v30⟩ : ∃ z : Int32, z = v2_2 + Int32.ofInt 1 := ⟨_, rfl⟩
          have i_v30 : iv v30 1 100 := by rw [e_v30]; exact iv_add i13 (ki_1) (by decide) (by decide) (by decide) (by decide)
          refine lv_iinc (v := v30) (lv' := [(2, .int v30), (3, .int r24), (0, .ref y), (1, .int p1)]) hx hb dX9_outBehind_21 hl (k := 3) rfl e_v30.symm (by decide) rfl (fun ls hl => ?_)
          refine lv_goto (tgt := 2) hx hb dX9_outBehind_24 (by decide) ?_
          have m31 : KK M25 R y := (KK_ag hI.2.1 g_y m_KK_2 (hAd.ag z_M25 (by decide)))
          have m32 : CW M25 R y := (CW_ag hI.2.1 g_y m_CW_2 (hAd.ag z_M25 (by decide)))
          exact ih2 M25 v30 H locs ls hI (lv_sub hl [2, 3, 0] rfl) m31 m32 (iv_w (lo' := 0) (hi' := 100) i_v30 (by decide) (by decide)) (by have h9 := (h_inc e_v30 i13 ki_1 (by decide) (by decide)); omega)
  refine lv_istore_n (lv' := [(2, .int (0 : Int32)), (0, .ref y), (1, .int p1)]) hx hb dX9_outBehind_1 rfl hl (by decide) rfl (fun ls hl => ?_)
  exact J2 101 M (0 : Int32) H locs ls hI (lv_sub hl [1, 2, 0] rfl) m0_KK m0_CW (iv_w (lo' := 0) (hi' := 100) kc_0 (by decide) (by decide)) (by have h9 := kc_0; simp only [iv] at h9; omega)
abbrev e_h_outAfter_X9 : List (Nat × Nat) := [(9, 41), (9, 42), (9, 43), (9, 44), (134, 999), (145, 999)]
set_option maxHeartbeats 4000000 in
set_option maxRecDepth 100000 in
theorem h_outAfter_X9 (l : Launch) (D : va_G) (g : Nat → ClassId) (σ : Nat → Option Nat) (Z : State → Heap → Prop) (hZ0 : hZ σ Z) (M : hM) (N : hN) (R : hR) (y : Nat) (g_y : σ y = some 9) (p1 : Int32) (h_p1 : iv p1 0 60) (m0_KK : KK M R y) (m0_CW : CW M R y) : Met l yX9_outAfter wsX9_outAfter ({ frames := 7, cells := 0, slots := 0, locals := 156 }) (va_Pc [.ref y, .int p1] (hPre D g σ Z M N R)) (hQi D g σ e_h_outAfter_X9 M (fun (r : Int32) (M1 : hM) (N1 : hN) (R1 : hR) => N = N1 ∧ R = R1 ∧ (KV M1 R y))) 0 0 (hA σ) := by
  refine h_head (cc := cX9_outAfter) (maxL := 4) (ret := (some .int)) (by decide) rfl (Nat.le_of_ble_eq_true rfl) e_h_outAfter_X9 ?_
  intro p e s m below meth c ls Q ar hQ hx hb hr hlocks hml hown hts hK hE H locs hI hl
  have hown : s.vm.findClass RX9 = some m.cls := hown
  have hl : lv_has ls 4 [(0, .ref y), (1, .int p1)] := hl
  refine lv_iconst (v := 0) hx hb dX9_outAfter_0 (by decide) ?_
  have J2 : ∀ (n : Nat) (M_2 : hM) (v2_2 : Int32) (H : Heap) (locs : List Loc) (ls : Array Slot), kI D g σ e_h_outAfter_X9 M s.heap M_2 N R H locs → lv_has ls 4 [(0, .ref y), (1, .int p1), (2, .int v2_2)] → KK M_2 R y → CW M_2 R y → iv v2_2 0 60 → 61 ≤ v2_2.toInt + (n : Int) → W p l e (headSpec wsX9_outAfter ({ frames := 7, cells := 0, slots := 0, locals := 156 })).room s m ar below meth c H locs 0 0 Q (F0 m 2 ls []) := by
    intro n
    induction n with
    | zero => intro M_2 v2_2 H locs ls hI hl m_KK_2 m_CW_2 i_v2_2 hn; exfalso; have hz := i_v2_2; simp only [iv] at hz; omega
    | succ n ih2 =>
      intro M_2 v2_2 H locs ls hI hl m_KK_2 m_CW_2 i_v2_2 hn2
      refine lv_iload_n hx hb dX9_outAfter_2 rfl (lv_at hl 2 rfl) ?_
      refine lv_iload_n hx hb dX9_outAfter_3 rfl (lv_at hl 1 rfl) ?_
      refine lv_icmp_ge (tgt := 18) hx hb dX9_outAfter_4 (by decide) (fun c1 => ?_) (fun c1 => ?_)
      · refine lv_iconst (v := 0) hx hb dX9_outAfter_18 (by decide) ?_
        refine lv_istore_n (lv' := [(2, .int (0 : Int32)), (0, .ref y), (1, .int p1)]) hx hb dX9_outAfter_19 rfl hl (by decide) rfl (fun ls hl => ?_)
        refine lv_iconst (v := 0) hx hb dX9_outAfter_20 (by decide) ?_
        have J22 : ∀ (n : Nat) (v2_22 : Int32) (v3_22 : Int32) (H : Heap) (locs : List Loc) (ls : Array Slot), kI D g σ e_h_outAfter_X9 M s.heap M_2 N R H locs → lv_has ls 4 [(0, .ref y), (2, .int v2_22), (3, .int v3_22)] → iv v3_22 0 7 → 8 ≤ v3_22.toInt + (n : Int) → W p l e (headSpec wsX9_outAfter ({ frames := 7, cells := 0, slots := 0, locals := 156 })).room s m ar below meth c H locs 0 0 Q (F0 m 22 ls []) := by
          intro n
          induction n with
          | zero => intro v2_22 v3_22 H locs ls hI hl i_v3_22 hn; exfalso; have hz := i_v3_22; simp only [iv] at hz; omega
          | succ n ih22 =>
            intro v2_22 v3_22 H locs ls hI hl i_v3_22 hn22
            refine lv_iload_n hx hb dX9_outAfter_22 rfl (lv_at hl 2 rfl) ?_
            refine lv_aload_n hx hb dX9_outAfter_23 rfl (lv_at hl 0 rfl) ?_
            refine h_goi hI (by decide) (va_runV (As := []) (rest := [.int v3_22]) ⟨hx, hb, hml, hown, hts⟩ (h_many_X9 l D g σ Z hZ0 M_2 N R y g_y) (cwV 0 hts gX9_outAfter_X9_many rfl rfl rfl (by decide +kernel) ⟨Nat.le_of_ble_eq_true rfl, Nat.le_of_ble_eq_true rfl⟩) (h_preV hZ0 hK hE hI g_y (by decide) rfl) rfl rfl hl.1 rfl (lv_room (Nat.le_of_ble_eq_true rfl)) dX9_outAfter_24 ⟨Nat.le_of_ble_eq_true rfl, Nat.le_of_ble_eq_true rfl⟩) (fun r2 M3 N4 R5 H locs q6 z_M3 hI => ?_)
            obtain ⟨rfl, rfl, rfl, i_r2⟩ := q6
            refine lv_icmp_ge (tgt := 52) hx hb dX9_outAfter_27 (by decide) (fun c7 => ?_) (fun c7 => ?_)
            · refine lv_aload_n hx hb dX9_outAfter_52 rfl (lv_at hl 0 rfl) ?_
              refine h_gov hI (by decide) (va_runV (As := []) (rest := []) ⟨hx, hb, hml, hown, hts⟩ (h_bringBack_X9 l D g σ Z hZ0 M_2 N R y g_y) (cwV 0 hts gX9_outAfter_X9_bringBack rfl rfl rfl (by decide +kernel) ⟨Nat.le_of_ble_eq_true rfl, Nat.le_of_ble_eq_true rfl⟩) (h_preV hZ0 hK hE hI g_y (by decide) rfl) rfl rfl hl.1 rfl (lv_room (Nat.le_of_ble_eq_true rfl)) dX9_outAfter_53 ⟨Nat.le_of_ble_eq_true rfl, Nat.le_of_ble_eq_true rfl⟩) (fun M9 N10 R11 H locs q12 z_M9 hI => ?_)
              obtain ⟨rfl, rfl, z13⟩ := q12
              have m14 : KV M9 R y := KV_of z13 hI.2.1 g_y m_KK_2
              refine lv_iload_n hx hb dX9_outAfter_56 rfl (lv_at hl 1 rfl) ?_
              exact h_iret hQ hx hb hr hlocks rfl hK hI ⟨rfl, rfl, m14⟩ dX9_outAfter_57
            · have i15 : iv r2 1 7 := iv_nle1 c7 i_r2 i_v3_22 (by decide)
              have i16 : iv v3_22 0 6 := iv_nle2 c7 i_r2 i_v3_22 (by decide)
              refine lv_iload_n hx hb dX9_outAfter_30 rfl (lv_at hl 1 rfl) ?_
              refine lv_aload_n hx hb dX9_outAfter_31 rfl (lv_at hl 0 rfl) ?_
              refine lv_iload_n hx hb dX9_outAfter_32 rfl (lv_at hl 2 rfl) ?_
              refine h_goi hI (by decide) (va_runV (As := [.int v3_22]) (rest := [.int v2_22]) ⟨hx, hb, hml, hown, hts⟩ (h_isOut_X9 l D g σ Z hZ0 M_2 N R y g_y v3_22 i16) (cwV 1 hts gX9_outAfter_X9_isOut rfl rfl rfl (by decide +kernel) ⟨Nat.le_of_ble_eq_true rfl, Nat.le_of_ble_eq_true rfl⟩) (h_preV hZ0 hK hE hI g_y (by decide) rfl) rfl rfl hl.1 rfl (lv_room (Nat.le_of_ble_eq_true rfl)) dX9_outAfter_33 ⟨Nat.le_of_ble_eq_true rfl, Nat.le_of_ble_eq_true rfl⟩) (fun r17 M18 N19 R20 H locs q21 z_M18 hI => ?_)
              obtain ⟨rfl, rfl, rfl, i_r17, z22⟩ := q21
              have J44 : ∀ (t1_44 : Int32) (H : Heap) (locs : List Loc) (ls : Array Slot), kI D g σ e_h_outAfter_X9 M s.heap M_2 N R H locs → lv_has ls 4 [(0, .ref y), (3, .int v3_22)] → iv t1_44 0 1 → W p l e (headSpec wsX9_outAfter ({ frames := 7, cells := 0, slots := 0, locals := 156 })).room s m ar below meth c H locs 0 0 Q (F0 m 44 ls [.int t1_44, .int v2_22]) := by
                intro t1_44 H locs ls hI hl i_t1_44
                refine lv_iadd hx hb dX9_outAfter_44 ?_
                refine h_nm (lo := (-2147483648)) (hi := 2147483647) (iv_any _) (fun v23 e_v23 i_v23 => ?_)
                refine lv_istore_n (lv' := [(2, .int v23), (0, .ref y), (3, .int v3_22)]) hx hb dX9_outAfter_45 rfl hl (by decide) rfl (fun ls hl => ?_)
                obtain ⟨v24, e_v24⟩ : ∃ z : Int32, z = v3_22 + Int32.ofInt 1 := ⟨_, rfl⟩
                have i_v24 : iv v24 1 7 := by rw [e_v24]; exact iv_add i16 (ki_1) (by decide) (by decide) (by decide) (by decide)
                refine lv_iinc (v := v24) (lv' := [(3, .int v24), (2, .int v23), (0, .ref y)]) hx hb dX9_outAfter_46 hl (k := 2) rfl e_v24.symm (by decide) rfl (fun ls hl => ?_)
                refine lv_goto (tgt := 22) hx hb dX9_outAfter_49 (by decide) ?_
                exact ih22 v23 v24 H locs ls hI (lv_sub hl [2, 1, 0] rfl) (iv_w (lo' := 0) (hi' := 7) i_v24 (by decide) (by decide)) (by have h9 := (h_inc e_v24 i16 ki_1 (by decide) (by decide)); omega)
              refine lv_if_eq (tgt := 43) hx hb dX9_outAfter_36 (by decide) (fun c25 => ?_) (fun c25 => ?_)
              · have i26 := z22 c25
                have i27 : iv r17 0 0 := iv_eq1 c25 i_r17 kc_0
                refine lv_iconst (v := 0) hx hb dX9_outAfter_43 (by decide) ?_
                exact J44 (0 : Int32) H locs ls hI (lv_sub hl [0, 2] rfl) (iv_w (lo' := 0) (hi' := 1) kc_0 (by decide) (by decide))
              · have i28 : iv r17 1 1 := iv_neL c25 i_r17 (by decide) (by decide)
                refine lv_iconst (v := 1) hx hb dX9_outAfter_39 (by decide) ?_
                refine lv_goto (tgt := 44) hx hb dX9_outAfter_40 (by decide) ?_
                exact J44 (1 : Int32) H locs ls hI (lv_sub hl [0, 2] rfl) (iv_w (lo' := 0) (hi' := 1) kc_1 (by decide) (by decide))
        refine lv_istore_n (lv' := [(3, .int (0 : Int32)), (2, .int (0 : Int32)), (0, .ref y), (1, .int p1)]) hx hb dX9_outAfter_21 rfl hl (by decide) rfl (fun ls hl => ?_)
        exact J22 8 (0 : Int32) (0 : Int32) H locs ls hI (lv_sub hl [2, 1, 0] rfl) (iv_w (lo' := 0) (hi' := 7) kc_0 (by decide) (by decide)) (by have h9 := kc_0; simp only [iv] at h9; omega)
      · have i29 : iv p1 1 60 := iv_nle1 c1 h_p1 i_v2_2 (by decide)
        have i30 : iv v2_2 0 59 := iv_nle2 c1 h_p1 i_v2_2 (by decide)
        refine lv_aload_n hx hb dX9_outAfter_7 rfl (lv_at hl 0 rfl) ?_
        refine h_goi hI (by decide) (va_runV (As := []) (rest := []) ⟨hx, hb, hml, hown, hts⟩ (h_goQuarter_X9 l D g σ Z hZ0 M_2 N R y g_y m_CW_2) (cwV 0 hts gX9_outAfter_X9_goQuarter rfl rfl rfl (by decide +kernel) ⟨Nat.le_of_ble_eq_true rfl, Nat.le_of_ble_eq_true rfl⟩) (h_preV hZ0 hK hE hI g_y (by decide) rfl) rfl rfl hl.1 rfl (lv_room (Nat.le_of_ble_eq_true rfl)) dX9_outAfter_8 ⟨Nat.le_of_ble_eq_true rfl, Nat.le_of_ble_eq_true rfl⟩) (fun r31 M32 N33 R34 H locs q35 z_M32 hI => ?_)
        obtain ⟨rfl, rfl, i_r31, m36⟩ := q35
        refine lv_istore_n (lv' := [(3, .int r31), (0, .ref y), (1, .int p1), (2, .int v2_2)]) hx hb dX9_outAfter_11 rfl hl (by decide) rfl (fun ls hl => ?_)
        obtain ⟨v37, e_v37⟩ : ∃ z : Int32, z = v2_2 + Int32.ofInt 1 := ⟨_, rfl⟩
        have i_v37 : iv v37 1 60 := by rw [e_v37]; exact iv_add i30 (ki_1) (by decide) (by decide) (by decide) (by decide)
        refine lv_iinc (v := v37) (lv' := [(2, .int v37), (3, .int r31), (0, .ref y), (1, .int p1)]) hx hb dX9_outAfter_12 hl (k := 3) rfl e_v37.symm (by decide) rfl (fun ls hl => ?_)
        refine lv_goto (tgt := 2) hx hb dX9_outAfter_15 (by decide) ?_
        have m38 : KK M32 R y := (KK_ag hI.2.1 g_y m_KK_2 (hAd.ag z_M32 (by decide)))
        have m39 : CW M32 R y := (CW_ag hI.2.1 g_y m_CW_2 (hAd.ag z_M32 (by decide)))
        exact ih2 M32 v37 H locs ls hI (lv_sub hl [2, 3, 0] rfl) m38 m39 (iv_w (lo' := 0) (hi' := 60) i_v37 (by decide) (by decide)) (by have h9 := (h_inc e_v37 i30 ki_1 (by decide) (by decide)); omega)
  refine lv_istore_n (lv' := [(2, .int (0 : Int32)), (0, .ref y), (1, .int p1)]) hx hb dX9_outAfter_1 rfl hl (by decide) rfl (fun ls hl => ?_)
  exact J2 61 M (0 : Int32) H locs ls hI (lv_sub hl [1, 2, 0] rfl) m0_KK m0_CW (iv_w (lo' := 0) (hi' := 60) kc_0 (by decide) (by decide)) (by have h9 := kc_0; simp only [iv] at h9; omega)
abbrev e_h_lasts_X9 : List (Nat × Nat) := [(9, 41), (9, 42), (9, 43), (9, 44), (134, 999), (145, 999), (152, 999)]
set_option maxHeartbeats 4000000 in
set_option maxRecDepth 100000 in
theorem h_lasts_X9 (l : Launch) (D : va_G) (g : Nat → ClassId) (σ : Nat → Option Nat) (Z : State → Heap → Prop) (hZ0 : hZ σ Z) (M : hM) (N : hN) (R : hR) (y : Nat) (g_y : σ y = some 9) (p1 : Int32) (m0_KV : KV M R y) (m0_CW : CW M R y) : Met l yX9_lasts wsX9_lasts ({ frames := 8, cells := 0, slots := 0, locals := 179 }) (va_Pc [.ref y, .int p1] (hPre D g σ Z M N R)) (hQi D g σ e_h_lasts_X9 M (fun (r : Int32) (M1 : hM) (N1 : hN) (R1 : hR) => N = N1 ∧ R = R1 ∧ iv r (-1) 99 ∧ (KV M1 R y))) 0 0 (hA σ) := by
  refine h_head (cc := cX9_lasts) (maxL := 2) (ret := (some .int)) (by decide) rfl (Nat.le_of_ble_eq_true rfl) e_h_lasts_X9 ?_
  intro p e s m below meth c ls Q ar hQ hx hb hr hlocks hml hown hts hK hE H locs hI hl
  have hown : s.vm.findClass RX9 = some m.cls := hown
  have hl : lv_has ls 2 [(0, .ref y), (1, .int p1)] := hl
  refine lv_aload_n hx hb dX9_lasts_0 rfl (lv_at hl 0 rfl) ?_
  refine lv_iload_n hx hb dX9_lasts_1 rfl (lv_at hl 1 rfl) ?_
  refine h_goi hI (by decide) (va_runV (As := [.int p1]) (rest := []) ⟨hx, hb, hml, hown, hts⟩ (h_isTenant_X9 l D g σ Z hZ0 M N R y g_y p1) (cwV 1 hts gX9_lasts_X9_isTenant rfl rfl rfl (by decide +kernel) ⟨Nat.le_of_ble_eq_true rfl, Nat.le_of_ble_eq_true rfl⟩) (h_preV hZ0 hK hE hI g_y (by decide) rfl) rfl rfl hl.1 rfl (lv_room (Nat.le_of_ble_eq_true rfl)) dX9_lasts_2 ⟨Nat.le_of_ble_eq_true rfl, Nat.le_of_ble_eq_true rfl⟩) (fun r1 M2 N3 R4 H locs q5 z_M2 hI => ?_)
  obtain ⟨rfl, rfl, rfl, i_r1, z6⟩ := q5
  refine lv_if_ne (tgt := 10) hx hb dX9_lasts_5 (by decide) (fun c7 => ?_) (fun c7 => ?_)
  · have i8 : iv p1 0 6 := z6 c7
    have i9 : iv r1 1 1 := iv_neL c7 i_r1 (by decide) (by decide)
    refine lv_aload_n hx hb dX9_lasts_10 rfl (lv_at hl 0 rfl) ?_
    refine h_gov hI (by decide) (va_runV (As := []) (rest := []) ⟨hx, hb, hml, hown, hts⟩ (h_keepNow_X9 l D g σ Z hZ0 M N R y g_y) (cwV 0 hts gX9_lasts_X9_keepNow rfl rfl rfl (by decide +kernel) ⟨Nat.le_of_ble_eq_true rfl, Nat.le_of_ble_eq_true rfl⟩) (h_preV hZ0 hK hE hI g_y (by decide) rfl) rfl rfl hl.1 rfl (lv_room (Nat.le_of_ble_eq_true rfl)) dX9_lasts_11 ⟨Nat.le_of_ble_eq_true rfl, Nat.le_of_ble_eq_true rfl⟩) (fun M11 N12 R13 H locs q14 z_M11 hI => ?_)
    obtain ⟨rfl, rfl, z15⟩ := q14
    have m16 : KK M11 R y := KK_of z15 hI.2.1 g_y m0_KV
    refine lv_aload_n hx hb dX9_lasts_14 rfl (lv_at hl 0 rfl) ?_
    refine lv_iload_n hx hb dX9_lasts_15 rfl (lv_at hl 1 rfl) ?_
    have m17 : CW M11 R y := (CW_ag hI.2.1 g_y m0_CW (hAd.ag z_M11 (by decide)))
    refine h_goi hI (by decide) (va_runV (As := [.int p1]) (rest := []) ⟨hx, hb, hml, hown, hts⟩ (h_outBehind_X9 l D g σ Z hZ0 M11 N R y g_y p1 i8 m16 m17) (cwV 1 hts gX9_lasts_X9_outBehind rfl rfl rfl (by decide +kernel) ⟨Nat.le_of_ble_eq_true rfl, Nat.le_of_ble_eq_true rfl⟩) (h_preV hZ0 hK hE hI g_y (by decide) rfl) rfl rfl hl.1 rfl (lv_room (Nat.le_of_ble_eq_true rfl)) dX9_lasts_16 ⟨Nat.le_of_ble_eq_true rfl, Nat.le_of_ble_eq_true rfl⟩) (fun r18 M19 N20 R21 H locs q22 z_M19 hI => ?_)
    obtain ⟨rfl, rfl, i_r18, z23⟩ := q22
    exact h_iret hQ hx hb hr hlocks rfl hK hI ⟨rfl, rfl, i_r18, z23⟩ dX9_lasts_19
  · have i24 : iv r1 0 0 := iv_eq1 c7 i_r1 kc_0
    refine lv_iconst (v := (-1)) hx hb dX9_lasts_8 (by decide) ?_
    exact h_iret hQ hx hb hr hlocks rfl hK hI ⟨rfl, rfl, (iv_w (lo' := (-1)) (hi' := 99) kc_m1 (by decide) (by decide)), m0_KV⟩ dX9_lasts_9
abbrev e_h_housed_X9 : List (Nat × Nat) := [(9, 41), (9, 42), (9, 43), (9, 44), (134, 999), (145, 999), (152, 999)]
set_option maxHeartbeats 4000000 in
set_option maxRecDepth 100000 in
theorem h_housed_X9 (l : Launch) (D : va_G) (g : Nat → ClassId) (σ : Nat → Option Nat) (Z : State → Heap → Prop) (hZ0 : hZ σ Z) (M : hM) (N : hN) (R : hR) (y : Nat) (g_y : σ y = some 9) (p1 : Int32) (m0_KV : KV M R y) (m0_CW : CW M R y) : Met l yX9_housed wsX9_housed ({ frames := 8, cells := 0, slots := 0, locals := 179 }) (va_Pc [.ref y, .int p1] (hPre D g σ Z M N R)) (hQi D g σ e_h_housed_X9 M (fun (r : Int32) (M1 : hM) (N1 : hN) (R1 : hR) => N = N1 ∧ R = R1 ∧ (KV M1 R y))) 0 0 (hA σ) := by
  refine h_head (cc := cX9_housed) (maxL := 2) (ret := (some .int)) (by decide) rfl (Nat.le_of_ble_eq_true rfl) e_h_housed_X9 ?_
  intro p e s m below meth c ls Q ar hQ hx hb hr hlocks hml hown hts hK hE H locs hI hl
  have hown : s.vm.findClass RX9 = some m.cls := hown
  have hl : lv_has ls 2 [(0, .ref y), (1, .int p1)] := hl
  refine lv_iload_n hx hb dX9_housed_0 rfl (lv_at hl 1 rfl) ?_
  refine h_goi hI (by decide) (va_runS (As := [.int p1]) (rest := []) ⟨hx, hb, hml, hown, hts⟩ (h_isAhead_X9 l D g σ Z hZ0 M N R p1) (va_cwS 1 hts gX9_housed_X9_isAhead rfl rfl rfl (by decide +kernel) ⟨Nat.le_of_ble_eq_true rfl, Nat.le_of_ble_eq_true rfl⟩) (h_preS hZ0 hK hE hI) rfl rfl hl.1 rfl (lv_room (Nat.le_of_ble_eq_true rfl)) dX9_housed_1 ⟨Nat.le_of_ble_eq_true rfl, Nat.le_of_ble_eq_true rfl⟩) (fun r1 M2 N3 R4 H locs q5 z_M2 hI => ?_)
  obtain ⟨rfl, rfl, rfl, i_r1, z6⟩ := q5
  refine lv_if_ne (tgt := 9) hx hb dX9_housed_4 (by decide) (fun c7 => ?_) (fun c7 => ?_)
  · have i8 : iv p1 0 60 := z6 c7
    have i9 : iv r1 1 1 := iv_neL c7 i_r1 (by decide) (by decide)
    refine lv_aload_n hx hb dX9_housed_9 rfl (lv_at hl 0 rfl) ?_
    refine h_gov hI (by decide) (va_runV (As := []) (rest := []) ⟨hx, hb, hml, hown, hts⟩ (h_keepNow_X9 l D g σ Z hZ0 M N R y g_y) (cwV 0 hts gX9_housed_X9_keepNow rfl rfl rfl (by decide +kernel) ⟨Nat.le_of_ble_eq_true rfl, Nat.le_of_ble_eq_true rfl⟩) (h_preV hZ0 hK hE hI g_y (by decide) rfl) rfl rfl hl.1 rfl (lv_room (Nat.le_of_ble_eq_true rfl)) dX9_housed_10 ⟨Nat.le_of_ble_eq_true rfl, Nat.le_of_ble_eq_true rfl⟩) (fun M11 N12 R13 H locs q14 z_M11 hI => ?_)
    obtain ⟨rfl, rfl, z15⟩ := q14
    have m16 : KK M11 R y := KK_of z15 hI.2.1 g_y m0_KV
    refine lv_aload_n hx hb dX9_housed_13 rfl (lv_at hl 0 rfl) ?_
    refine h_goi hI (by decide) (va_runV (As := []) (rest := []) ⟨hx, hb, hml, hown, hts⟩ (h_many_X9 l D g σ Z hZ0 M11 N R y g_y) (cwV 0 hts gX9_housed_X9_many rfl rfl rfl (by decide +kernel) ⟨Nat.le_of_ble_eq_true rfl, Nat.le_of_ble_eq_true rfl⟩) (h_preV hZ0 hK hE hI g_y (by decide) rfl) rfl rfl hl.1 rfl (lv_room (Nat.le_of_ble_eq_true rfl)) dX9_housed_14 ⟨Nat.le_of_ble_eq_true rfl, Nat.le_of_ble_eq_true rfl⟩) (fun r17 M18 N19 R20 H locs q21 z_M18 hI => ?_)
    obtain ⟨rfl, rfl, rfl, i_r17⟩ := q21
    refine lv_aload_n hx hb dX9_housed_17 rfl (lv_at hl 0 rfl) ?_
    refine lv_iload_n hx hb dX9_housed_18 rfl (lv_at hl 1 rfl) ?_
    have m22 : CW M11 R y := (CW_ag hI.2.1 g_y m0_CW (hAd.ag z_M11 (by decide)))
    refine h_goi hI (by decide) (va_runV (As := [.int p1]) (rest := [.int r17]) ⟨hx, hb, hml, hown, hts⟩ (h_outAfter_X9 l D g σ Z hZ0 M11 N R y g_y p1 i8 m16 m22) (cwV 1 hts gX9_housed_X9_outAfter rfl rfl rfl (by decide +kernel) ⟨Nat.le_of_ble_eq_true rfl, Nat.le_of_ble_eq_true rfl⟩) (h_preV hZ0 hK hE hI g_y (by decide) rfl) rfl rfl hl.1 rfl (lv_room (Nat.le_of_ble_eq_true rfl)) dX9_housed_19 ⟨Nat.le_of_ble_eq_true rfl, Nat.le_of_ble_eq_true rfl⟩) (fun r23 M24 N25 R26 H locs q27 z_M24 hI => ?_)
    obtain ⟨rfl, rfl, z28⟩ := q27
    refine lv_isub hx hb dX9_housed_22 ?_
    refine h_nm (lo := (-2147483648)) (hi := 2147483647) (iv_any _) (fun v29 e_v29 i_v29 => ?_)
    exact h_iret hQ hx hb hr hlocks rfl hK hI ⟨rfl, rfl, z28⟩ dX9_housed_23
  · have i30 : iv r1 0 0 := iv_eq1 c7 i_r1 kc_0
    refine lv_iconst (v := (-1)) hx hb dX9_housed_7 (by decide) ?_
    exact h_iret hQ hx hb hr hlocks rfl hK hI ⟨rfl, rfl, m0_KV⟩ dX9_housed_8
abbrev e_h_grief_X9 : List (Nat × Nat) := [(9, 41), (9, 42), (9, 43), (9, 44), (134, 999), (145, 999), (152, 999)]
set_option maxHeartbeats 4000000 in
set_option maxRecDepth 100000 in
theorem h_grief_X9 (l : Launch) (D : va_G) (g : Nat → ClassId) (σ : Nat → Option Nat) (Z : State → Heap → Prop) (hZ0 : hZ σ Z) (M : hM) (N : hN) (R : hR) (y : Nat) (g_y : σ y = some 9) (p1 : Int32) (p2 : Int32) (m0_KV : KV M R y) (m0_CW : CW M R y) (m0_HV : HV M R y) : Met l yX9_grief wsX9_grief ({ frames := 8, cells := 0, slots := 0, locals := 179 }) (va_Pc [.ref y, .int p1, .int p2] (hPre D g σ Z M N R)) (hQi D g σ e_h_grief_X9 M (fun (r : Int32) (M1 : hM) (N1 : hN) (R1 : hR) => N = N1 ∧ R = R1 ∧ (KV M1 R y))) 0 0 (hA σ) := by
  refine h_head (cc := cX9_grief) (maxL := 4) (ret := (some .int)) (by decide) rfl (Nat.le_of_ble_eq_true rfl) e_h_grief_X9 ?_
  intro p e s m below meth c ls Q ar hQ hx hb hr hlocks hml hown hts hK hE H locs hI hl
  have hown : s.vm.findClass RX9 = some m.cls := hown
  have hl : lv_has ls 4 [(0, .ref y), (1, .int p1), (2, .int p2)] := hl
  refine lv_aload_n hx hb dX9_grief_0 rfl (lv_at hl 0 rfl) ?_
  refine lv_iload_n hx hb dX9_grief_1 rfl (lv_at hl 1 rfl) ?_
  refine h_goi hI (by decide) (va_runV (As := [.int p1]) (rest := []) ⟨hx, hb, hml, hown, hts⟩ (h_isCat_X9 l D g σ Z hZ0 M N R y g_y p1) (cwV 1 hts gX9_grief_X9_isCat rfl rfl rfl (by decide +kernel) ⟨Nat.le_of_ble_eq_true rfl, Nat.le_of_ble_eq_true rfl⟩) (h_preV hZ0 hK hE hI g_y (by decide) rfl) rfl rfl hl.1 rfl (lv_room (Nat.le_of_ble_eq_true rfl)) dX9_grief_2 ⟨Nat.le_of_ble_eq_true rfl, Nat.le_of_ble_eq_true rfl⟩) (fun r1 M2 N3 R4 H locs q5 z_M2 hI => ?_)
  obtain ⟨rfl, rfl, rfl, i_r1, z6⟩ := q5
  refine lv_if_eq (tgt := 26) hx hb dX9_grief_5 (by decide) (fun c7 => ?_) (fun c7 => ?_)
  · have i8 : iv r1 0 0 := iv_eq1 c7 i_r1 kc_0
    refine lv_sipush (v := (-1000)) hx hb dX9_grief_26 (by decide) ?_
    exact h_iret hQ hx hb hr hlocks rfl hK hI ⟨rfl, rfl, m0_KV⟩ dX9_grief_29
  · have i9 : iv p1 0 5 := z6 c7
    have i10 : iv r1 1 1 := iv_neL c7 i_r1 (by decide) (by decide)
    refine lv_aload_n hx hb dX9_grief_8 rfl (lv_at hl 0 rfl) ?_
    refine lv_iload_n hx hb dX9_grief_9 rfl (lv_at hl 1 rfl) ?_
    refine h_goi hI (by decide) (va_runV (As := [.int p1]) (rest := []) ⟨hx, hb, hml, hown, hts⟩ (h_lives_X9 l D g σ Z hZ0 M N R y g_y p1) (cwV 1 hts gX9_grief_X9_lives rfl rfl rfl (by decide +kernel) ⟨Nat.le_of_ble_eq_true rfl, Nat.le_of_ble_eq_true rfl⟩) (h_preV hZ0 hK hE hI g_y (by decide) rfl) rfl rfl hl.1 rfl (lv_room (Nat.le_of_ble_eq_true rfl)) dX9_grief_10 ⟨Nat.le_of_ble_eq_true rfl, Nat.le_of_ble_eq_true rfl⟩) (fun r11 M12 N13 R14 H locs q15 z_M12 hI => ?_)
    obtain ⟨rfl, rfl, rfl, i_r11⟩ := q15
    refine lv_if_eq (tgt := 26) hx hb dX9_grief_13 (by decide) (fun c16 => ?_) (fun c16 => ?_)
    · have i17 : iv r11 0 0 := iv_eq1 c16 i_r11 kc_0
      refine lv_sipush (v := (-1000)) hx hb dX9_grief_26 (by decide) ?_
      exact h_iret hQ hx hb hr hlocks rfl hK hI ⟨rfl, rfl, m0_KV⟩ dX9_grief_29
    · have i18 : iv r11 1 1 := iv_neL c16 i_r11 (by decide) (by decide)
      refine lv_iload_n hx hb dX9_grief_16 rfl (lv_at hl 2 rfl) ?_
      refine lv_iconst (v := 0) hx hb dX9_grief_17 (by decide) ?_
      refine lv_bipush (v := 20) hx hb dX9_grief_18 (by decide) ?_
      refine h_goi hI (by decide) (va_runS (As := [.int p2, .int (0 : Int32), .int (20 : Int32)]) (rest := []) ⟨hx, hb, hml, hown, hts⟩ (h_isIn_X9 l D g σ Z hZ0 M N R p2 (0 : Int32) (20 : Int32)) (va_cwS 3 hts gX9_grief_X9_isIn rfl rfl rfl (by decide +kernel) ⟨Nat.le_of_ble_eq_true rfl, Nat.le_of_ble_eq_true rfl⟩) (h_preS hZ0 hK hE hI) rfl rfl hl.1 rfl (lv_room (Nat.le_of_ble_eq_true rfl)) dX9_grief_20 ⟨Nat.le_of_ble_eq_true rfl, Nat.le_of_ble_eq_true rfl⟩) (fun r19 M20 N21 R22 H locs q23 z_M20 hI => ?_)
      obtain ⟨rfl, rfl, rfl, i_r19, z24⟩ := q23
      refine lv_if_ne (tgt := 30) hx hb dX9_grief_23 (by decide) (fun c25 => ?_) (fun c25 => ?_)
      · have i26 : iv p2 0 20 := (fun h9 => iv_isin (z24 h9) kc_0 kc_20) c25
        have i27 : iv r19 1 1 := iv_neL c25 i_r19 (by decide) (by decide)
        refine lv_aload_n hx hb dX9_grief_30 rfl (lv_at hl 0 rfl) ?_
        refine h_gov hI (by decide) (va_runV (As := []) (rest := []) ⟨hx, hb, hml, hown, hts⟩ (h_keepNow_X9 l D g σ Z hZ0 M N R y g_y) (cwV 0 hts gX9_grief_X9_keepNow rfl rfl rfl (by decide +kernel) ⟨Nat.le_of_ble_eq_true rfl, Nat.le_of_ble_eq_true rfl⟩) (h_preV hZ0 hK hE hI g_y (by decide) rfl) rfl rfl hl.1 rfl (lv_room (Nat.le_of_ble_eq_true rfl)) dX9_grief_31 ⟨Nat.le_of_ble_eq_true rfl, Nat.le_of_ble_eq_true rfl⟩) (fun M29 N30 R31 H locs q32 z_M29 hI => ?_)
        obtain ⟨rfl, rfl, z33⟩ := q32
        have m34 : KK M29 R y := KK_of z33 hI.2.1 g_y m0_KV
        refine lv_aload_n hx hb dX9_grief_34 rfl (lv_at hl 0 rfl) ?_
        refine lv_iload_n hx hb dX9_grief_35 rfl (lv_at hl 2 rfl) ?_
        have m35 : CW M29 R y := (CW_ag hI.2.1 g_y m0_CW (hAd.ag z_M29 (by decide)))
        refine h_goi hI (by decide) (va_runV (As := [.int p2]) (rest := []) ⟨hx, hb, hml, hown, hts⟩ (h_outAfter_X9 l D g σ Z hZ0 M29 N R y g_y p2 (iv_w (lo' := 0) (hi' := 60) i26 (by decide) (by decide)) m34 m35) (cwV 1 hts gX9_grief_X9_outAfter rfl rfl rfl (by decide +kernel) ⟨Nat.le_of_ble_eq_true rfl, Nat.le_of_ble_eq_true rfl⟩) (h_preV hZ0 hK hE hI g_y (by decide) rfl) rfl rfl hl.1 rfl (lv_room (Nat.le_of_ble_eq_true rfl)) dX9_grief_36 ⟨Nat.le_of_ble_eq_true rfl, Nat.le_of_ble_eq_true rfl⟩) (fun r36 M37 N38 R39 H locs q40 z_M37 hI => ?_)
        obtain ⟨rfl, rfl, z41⟩ := q40
        refine lv_istore_n (lv' := [(3, .int r36), (0, .ref y), (1, .int p1), (2, .int p2)]) hx hb dX9_grief_39 rfl hl (by decide) rfl (fun ls hl => ?_)
        refine lv_aload_n hx hb dX9_grief_40 rfl (lv_at hl 1 rfl) ?_
        refine lv_iconst (v := 1) hx hb dX9_grief_41 (by decide) ?_
        refine lv_iload_n hx hb dX9_grief_42 rfl (lv_at hl 2 rfl) ?_
        refine lv_ishl hx hb dX9_grief_43 ?_
        refine h_nm (lo := 1) (hi := 32) (iv_shl1 5 i9 (by decide) (by decide) (by decide) (by decide) (by decide)) (fun v42 e_v42 i_v42 => ?_)
        have m43 : HV M37 R y := (HV_ag hI.2.1 g_y (HV_ag hI.2.1 g_y m0_HV (hAd.ag z_M29 (by decide))) (hAd.ag z_M37 (by decide)))
        refine h_gov hI (by decide) (va_runV (As := [.int v42]) (rest := []) ⟨hx, hb, hml, hown, hts⟩ (h_goDie_X9 l D g σ Z hZ0 M37 N R y g_y v42 z41 m43) (cwV 1 hts gX9_grief_X9_goDie rfl rfl rfl (by decide +kernel) ⟨Nat.le_of_ble_eq_true rfl, Nat.le_of_ble_eq_true rfl⟩) (h_preV hZ0 hK hE hI g_y (by decide) rfl) rfl rfl hl.1 rfl (lv_room (Nat.le_of_ble_eq_true rfl)) dX9_grief_44 ⟨Nat.le_of_ble_eq_true rfl, Nat.le_of_ble_eq_true rfl⟩) (fun M45 N46 R47 H locs q48 z_M45 hI => ?_)
        obtain ⟨rfl, rfl, m49⟩ := q48
        refine lv_aload_n hx hb dX9_grief_47 rfl (lv_at hl 1 rfl) ?_
        refine lv_iload_n hx hb dX9_grief_48 rfl (lv_at hl 3 rfl) ?_
        have m50 : KK M45 R y := (KK_ag hI.2.1 g_y (KK_ag hI.2.1 g_y m34 (hAd.ag z_M37 (by decide))) (hAd.ag z_M45 (by decide)))
        have m51 : CW M45 R y := (CW_ag hI.2.1 g_y (CW_ag hI.2.1 g_y m35 (hAd.ag z_M37 (by decide))) (hAd.ag z_M45 (by decide)))
        refine h_goi hI (by decide) (va_runV (As := [.int p2]) (rest := []) ⟨hx, hb, hml, hown, hts⟩ (h_outAfter_X9 l D g σ Z hZ0 M45 N R y g_y p2 (iv_w (lo' := 0) (hi' := 60) i26 (by decide) (by decide)) m50 m51) (cwV 1 hts gX9_grief_X9_outAfter rfl rfl rfl (by decide +kernel) ⟨Nat.le_of_ble_eq_true rfl, Nat.le_of_ble_eq_true rfl⟩) (h_preV hZ0 hK hE hI g_y (by decide) rfl) rfl rfl hl.1 rfl (lv_room (Nat.le_of_ble_eq_true rfl)) dX9_grief_49 ⟨Nat.le_of_ble_eq_true rfl, Nat.le_of_ble_eq_true rfl⟩) (fun r52 M53 N54 R55 H locs q56 z_M53 hI => ?_)
        obtain ⟨rfl, rfl, z57⟩ := q56
        refine lv_iload_n hx hb dX9_grief_52 rfl (lv_at hl 0 rfl) ?_
        refine lv_isub hx hb dX9_grief_53 ?_
        refine h_nm (lo := (-2147483648)) (hi := 2147483647) (iv_any _) (fun v58 e_v58 i_v58 => ?_)
        exact h_iret hQ hx hb hr hlocks rfl hK hI ⟨rfl, rfl, z57⟩ dX9_grief_54
      · have i59 : iv r19 0 0 := iv_eq1 c25 i_r19 kc_0
        refine lv_sipush (v := (-1000)) hx hb dX9_grief_26 (by decide) ?_
        exact h_iret hQ hx hb hr hlocks rfl hK hI ⟨rfl, rfl, m0_KV⟩ dX9_grief_29
abbrev e_h_haven_X9 : List (Nat × Nat) := [(9, 41), (9, 42), (9, 43), (9, 44), (134, 999), (145, 999), (152, 999)]
set_option maxHeartbeats 4000000 in
set_option maxRecDepth 100000 in
theorem h_haven_X9 (l : Launch) (D : va_G) (g : Nat → ClassId) (σ : Nat → Option Nat) (Z : State → Heap → Prop) (hZ0 : hZ σ Z) (M : hM) (N : hN) (R : hR) (y : Nat) (g_y : σ y = some 9) (p1 : Int32) (p2 : Int32) (m0_KV : KV M R y) (m0_CW : CW M R y) : Met l yX9_haven wsX9_haven ({ frames := 8, cells := 0, slots := 0, locals := 179 }) (va_Pc [.ref y, .int p1, .int p2] (hPre D g σ Z M N R)) (hQi D g σ e_h_haven_X9 M (fun (r : Int32) (M1 : hM) (N1 : hN) (R1 : hR) => N = N1 ∧ R = R1 ∧ iv r (-1) 99 ∧ (KV M1 R y))) 0 0 (hA σ) := by
  refine h_head (cc := cX9_haven) (maxL := 7) (ret := (some .int)) (by decide) rfl (Nat.le_of_ble_eq_true rfl) e_h_haven_X9 ?_
  intro p e s m below meth c ls Q ar hQ hx hb hr hlocks hml hown hts hK hE H locs hI hl
  have hown : s.vm.findClass RX9 = some m.cls := hown
  have hl : lv_has ls 7 [(0, .ref y), (1, .int p1), (2, .int p2)] := hl
  refine lv_aload_n hx hb dX9_haven_0 rfl (lv_at hl 0 rfl) ?_
  refine lv_iload_n hx hb dX9_haven_1 rfl (lv_at hl 1 rfl) ?_
  refine h_goi hI (by decide) (va_runV (As := [.int p1]) (rest := []) ⟨hx, hb, hml, hown, hts⟩ (h_isTenant_X9 l D g σ Z hZ0 M N R y g_y p1) (cwV 1 hts gX9_haven_X9_isTenant rfl rfl rfl (by decide +kernel) ⟨Nat.le_of_ble_eq_true rfl, Nat.le_of_ble_eq_true rfl⟩) (h_preV hZ0 hK hE hI g_y (by decide) rfl) rfl rfl hl.1 rfl (lv_room (Nat.le_of_ble_eq_true rfl)) dX9_haven_2 ⟨Nat.le_of_ble_eq_true rfl, Nat.le_of_ble_eq_true rfl⟩) (fun r1 M2 N3 R4 H locs q5 z_M2 hI => ?_)
  obtain ⟨rfl, rfl, rfl, i_r1, z6⟩ := q5
  refine lv_if_eq (tgt := 17) hx hb dX9_haven_5 (by decide) (fun c7 => ?_) (fun c7 => ?_)
  · have i8 : iv r1 0 0 := iv_eq1 c7 i_r1 kc_0
    refine lv_iconst (v := (-1)) hx hb dX9_haven_17 (by decide) ?_
    exact h_iret hQ hx hb hr hlocks rfl hK hI ⟨rfl, rfl, (iv_w (lo' := (-1)) (hi' := 99) kc_m1 (by decide) (by decide)), m0_KV⟩ dX9_haven_18
  · have i9 : iv p1 0 6 := z6 c7
    have i10 : iv r1 1 1 := iv_neL c7 i_r1 (by decide) (by decide)
    refine lv_iload_n hx hb dX9_haven_8 rfl (lv_at hl 2 rfl) ?_
    refine lv_iconst (v := 0) hx hb dX9_haven_9 (by decide) ?_
    refine lv_iconst (v := 1) hx hb dX9_haven_10 (by decide) ?_
    refine h_goi hI (by decide) (va_runS (As := [.int p2, .int (0 : Int32), .int (1 : Int32)]) (rest := []) ⟨hx, hb, hml, hown, hts⟩ (h_isIn_X9 l D g σ Z hZ0 M N R p2 (0 : Int32) (1 : Int32)) (va_cwS 3 hts gX9_haven_X9_isIn rfl rfl rfl (by decide +kernel) ⟨Nat.le_of_ble_eq_true rfl, Nat.le_of_ble_eq_true rfl⟩) (h_preS hZ0 hK hE hI) rfl rfl hl.1 rfl (lv_room (Nat.le_of_ble_eq_true rfl)) dX9_haven_11 ⟨Nat.le_of_ble_eq_true rfl, Nat.le_of_ble_eq_true rfl⟩) (fun r11 M12 N13 R14 H locs q15 z_M12 hI => ?_)
    obtain ⟨rfl, rfl, rfl, i_r11, z16⟩ := q15
    refine lv_if_ne (tgt := 19) hx hb dX9_haven_14 (by decide) (fun c17 => ?_) (fun c17 => ?_)
    · have i18 : iv p2 0 1 := (fun h9 => iv_isin (z16 h9) kc_0 kc_1) c17
      have i19 : iv r11 1 1 := iv_neL c17 i_r11 (by decide) (by decide)
      refine lv_iconst (v := (-1)) hx hb dX9_haven_19 (by decide) ?_
      refine lv_istore_n (lv' := [(3, .int (-1 : Int32)), (0, .ref y), (1, .int p1), (2, .int p2)]) hx hb dX9_haven_20 rfl hl (by decide) rfl (fun ls hl => ?_)
      refine lv_iconst (v := 0) hx hb dX9_haven_21 (by decide) ?_
      refine lv_istore (lv' := [(4, .int (0 : Int32)), (3, .int (-1 : Int32)), (0, .ref y), (1, .int p1), (2, .int p2)]) hx hb dX9_haven_22 hl (by decide) rfl (fun ls hl => ?_)
      refine lv_iconst (v := 0) hx hb dX9_haven_24 (by decide) ?_
      have J27 : ∀ (n : Nat) (M_27 : hM) (v3_27 : Int32) (v4_27 : Int32) (v5_27 : Int32) (H : Heap) (locs : List Loc) (ls : Array Slot), kI D g σ e_h_haven_X9 M s.heap M_27 N R H locs → lv_has ls 7 [(0, .ref y), (1, .int p1), (2, .int p2), (3, .int v3_27), (4, .int v4_27), (5, .int v5_27)] → KV M_27 R y → CW M_27 R y → iv v3_27 (-1) 7 → iv v4_27 0 99 → iv v5_27 0 8 → 9 ≤ v5_27.toInt + (n : Int) → W p l e (headSpec wsX9_haven ({ frames := 8, cells := 0, slots := 0, locals := 179 })).room s m ar below meth c H locs 0 0 Q (F0 m 27 ls []) := by
        intro n
        induction n with
        | zero => intro M_27 v3_27 v4_27 v5_27 H locs ls hI hl m_KV_27 m_CW_27 i_v3_27 i_v4_27 i_v5_27 hn; exfalso; have hz := i_v5_27; simp only [iv] at hz; omega
        | succ n ih27 =>
          intro M_27 v3_27 v4_27 v5_27 H locs ls hI hl m_KV_27 m_CW_27 i_v3_27 i_v4_27 i_v5_27 hn27
          refine lv_iload hx hb dX9_haven_27 (lv_at hl 5 rfl) ?_
          refine lv_aload_n hx hb dX9_haven_29 rfl (lv_at hl 0 rfl) ?_
          refine h_goi hI (by decide) (va_runV (As := []) (rest := [.int v5_27]) ⟨hx, hb, hml, hown, hts⟩ (h_chambers_X9 l D g σ Z hZ0 M_27 N R y g_y) (cwV 0 hts gX9_haven_X9_chambers rfl rfl rfl (by decide +kernel) ⟨Nat.le_of_ble_eq_true rfl, Nat.le_of_ble_eq_true rfl⟩) (h_preV hZ0 hK hE hI g_y (by decide) rfl) rfl rfl hl.1 rfl (lv_room (Nat.le_of_ble_eq_true rfl)) dX9_haven_30 ⟨Nat.le_of_ble_eq_true rfl, Nat.le_of_ble_eq_true rfl⟩) (fun r20 M21 N22 R23 H locs q24 z_M21 hI => ?_)
          obtain ⟨rfl, rfl, rfl, i_r20⟩ := q24
          refine lv_icmp_ge (tgt := 130) hx hb dX9_haven_33 (by decide) (fun c25 => ?_) (fun c25 => ?_)
          · refine lv_iload_n hx hb dX9_haven_130 rfl (lv_at hl 3 rfl) ?_
            refine lv_if_ge (tgt := 138) hx hb dX9_haven_131 (by decide) (fun c26 => ?_) (fun c26 => ?_)
            · have i27 : iv v3_27 0 7 := iv_le2 c26 kc_0 i_v3_27 (by decide)
              refine lv_iload_n hx hb dX9_haven_138 rfl (lv_at hl 2 rfl) ?_
              refine lv_if_ne (tgt := 146) hx hb dX9_haven_139 (by decide) (fun c28 => ?_) (fun c28 => ?_)
              · have i29 : iv p2 1 1 := iv_neL c28 i18 (by decide) (by decide)
                refine lv_iload hx hb dX9_haven_146 (lv_at hl 4 rfl) ?_
                exact h_iret hQ hx hb hr hlocks rfl hK hI ⟨rfl, rfl, (iv_w (lo' := (-1)) (hi' := 99) i_v4_27 (by decide) (by decide)), m_KV_27⟩ dX9_haven_148
              · have i30 : iv p2 0 0 := iv_eq1 c28 i18 kc_0
                refine lv_iload_n hx hb dX9_haven_142 rfl (lv_at hl 3 rfl) ?_
                refine lv_goto (tgt := 148) hx hb dX9_haven_143 (by decide) ?_
                exact h_iret hQ hx hb hr hlocks rfl hK hI ⟨rfl, rfl, (iv_w (lo' := (-1)) (hi' := 99) i27 (by decide) (by decide)), m_KV_27⟩ dX9_haven_148
            · have i31 : iv v3_27 (-1) (-1) := iv_nle2 c26 kc_0 i_v3_27 (by decide)
              refine lv_iconst (v := (-1)) hx hb dX9_haven_134 (by decide) ?_
              refine lv_goto (tgt := 148) hx hb dX9_haven_135 (by decide) ?_
              exact h_iret hQ hx hb hr hlocks rfl hK hI ⟨rfl, rfl, (iv_w (lo' := (-1)) (hi' := 99) kc_m1 (by decide) (by decide)), m_KV_27⟩ dX9_haven_148
          · have i32 : iv r20 1 8 := iv_nle1 c25 i_r20 i_v5_27 (by decide)
            have i33 : iv v5_27 0 7 := iv_nle2 c25 i_r20 i_v5_27 (by decide)
            refine lv_aload_n hx hb dX9_haven_36 rfl (lv_at hl 0 rfl) ?_
            refine lv_iload hx hb dX9_haven_37 (lv_at hl 5 rfl) ?_
            refine h_goi hI (by decide) (va_runV (As := [.int v5_27]) (rest := []) ⟨hx, hb, hml, hown, hts⟩ (h_whoIn_X9 l D g σ Z hZ0 M_27 N R y g_y v5_27) (cwV 1 hts gX9_haven_X9_whoIn rfl rfl rfl (by decide +kernel) ⟨Nat.le_of_ble_eq_true rfl, Nat.le_of_ble_eq_true rfl⟩) (h_preV hZ0 hK hE hI g_y (by decide) rfl) rfl rfl hl.1 rfl (lv_room (Nat.le_of_ble_eq_true rfl)) dX9_haven_39 ⟨Nat.le_of_ble_eq_true rfl, Nat.le_of_ble_eq_true rfl⟩) (fun r34 M35 N36 R37 H locs q38 z_M35 hI => ?_)
            obtain ⟨rfl, rfl, rfl, i_r34⟩ := q38
            have J124 : ∀ (M_124 : hM) (v3_124 : Int32) (v4_124 : Int32) (H : Heap) (locs : List Loc) (ls : Array Slot), kI D g σ e_h_haven_X9 M s.heap M_124 N R H locs → lv_has ls 7 [(0, .ref y), (1, .int p1), (2, .int p2), (3, .int v3_124), (4, .int v4_124), (5, .int v5_27)] → KV M_124 R y → CW M_124 R y → iv v3_124 (-1) 7 → iv v4_124 0 99 → W p l e (headSpec wsX9_haven ({ frames := 8, cells := 0, slots := 0, locals := 179 })).room s m ar below meth c H locs 0 0 Q (F0 m 124 ls []) := by
              intro M_124 v3_124 v4_124 H locs ls hI hl m_KV_124 m_CW_124 i_v3_124 i_v4_124
              obtain ⟨v39, e_v39⟩ : ∃ z : Int32, z = v5_27 + Int32.ofInt 1 := ⟨_, rfl⟩
              have i_v39 : iv v39 1 8 := by rw [e_v39]; exact iv_add i33 (ki_1) (by decide) (by decide) (by decide) (by decide)
              refine lv_iinc (v := v39) (lv' := [(5, .int v39), (0, .ref y), (1, .int p1), (2, .int p2), (3, .int v3_124), (4, .int v4_124)]) hx hb dX9_haven_124 hl (k := 5) rfl e_v39.symm (by decide) rfl (fun ls hl => ?_)
              refine lv_goto (tgt := 27) hx hb dX9_haven_127 (by decide) ?_
              exact ih27 M_124 v3_124 v4_124 v39 H locs ls hI (lv_sub hl [1, 2, 3, 4, 5, 0] rfl) m_KV_124 m_CW_124 i_v3_124 i_v4_124 (iv_w (lo' := 0) (hi' := 8) i_v39 (by decide) (by decide)) (by have h9 := (h_inc e_v39 i33 ki_1 (by decide) (by decide)); omega)
            have J58 : ∀ (H : Heap) (locs : List Loc) (ls : Array Slot), kI D g σ e_h_haven_X9 M s.heap M_27 N R H locs → lv_has ls 7 [(0, .ref y), (1, .int p1), (2, .int p2), (3, .int v3_27), (4, .int v4_27), (5, .int v5_27)] → W p l e (headSpec wsX9_haven ({ frames := 8, cells := 0, slots := 0, locals := 179 })).room s m ar below meth c H locs 0 0 Q (F0 m 58 ls []) := by
              intro H locs ls hI hl
              refine lv_aload_n hx hb dX9_haven_58 rfl (lv_at hl 0 rfl) ?_
              refine h_gov hI (by decide) (va_runV (As := []) (rest := []) ⟨hx, hb, hml, hown, hts⟩ (h_keepNow_X9 l D g σ Z hZ0 M_27 N R y g_y) (cwV 0 hts gX9_haven_X9_keepNow rfl rfl rfl (by decide +kernel) ⟨Nat.le_of_ble_eq_true rfl, Nat.le_of_ble_eq_true rfl⟩) (h_preV hZ0 hK hE hI g_y (by decide) rfl) rfl rfl hl.1 rfl (lv_room (Nat.le_of_ble_eq_true rfl)) dX9_haven_59 ⟨Nat.le_of_ble_eq_true rfl, Nat.le_of_ble_eq_true rfl⟩) (fun M41 N42 R43 H locs q44 z_M41 hI => ?_)
              obtain ⟨rfl, rfl, z45⟩ := q44
              have m46 : KK M41 R y := KK_of z45 hI.2.1 g_y m_KV_27
              refine lv_aload_n hx hb dX9_haven_62 rfl (lv_at hl 0 rfl) ?_
              refine h_getr hx hb hts iX9_haven_X9 hown hK hI g_y (by decide) rfl rfl 45 (by decide) rfl 145 rfl (hts (.fieldLink RX9 94 "CatLeasesModel" "all" "[I") (List.mem_of_getElem? (i := 1) rfl)) (fun _ h9 => h9) dX9_haven_63 (fun a47 e_a47 g_a47 => ?_)
              refine lv_iconst (v := 0) hx hb dX9_haven_66 (by decide) ?_
              refine lv_iload_n hx hb dX9_haven_67 rfl (lv_at hl 1 rfl) ?_
              refine lv_iadd hx hb dX9_haven_68 ?_
              refine k_top (v := p1) (Int32.zero_add _) ?_
              refine h_iald (j := p1.toNatClampNeg) (lo := (-1)) (hi := 7) hx hb hK hI g_a47 (by decide) rfl (iv_in (n := 39) i9 (by decide) (by decide)) rfl (hI.iv2 (n := 39) (c := 0) (d := 7) g_a47 rfl (in_lt (iv_in (n := 39) i9 (by decide) (by decide))) (iv_nat1 i9 (by decide)) (iv_nat2 i9 (by decide) (by decide)) (by decide)) dX9_haven_69 (fun v48 e_v48 i_v48 => ?_)
              refine lv_iload hx hb dX9_haven_70 (lv_at hl 5 rfl) ?_
              have J82 : ∀ (M_82 : hM) (H : Heap) (locs : List Loc) (ls : Array Slot), kI D g σ e_h_haven_X9 M s.heap M_82 N R H locs → lv_has ls 7 [(0, .ref y), (1, .int p1), (2, .int p2), (3, .int v3_27), (4, .int v4_27), (5, .int v5_27)] → KV M_82 R y → CW M_82 R y → KK M_82 R y → W p l e (headSpec wsX9_haven ({ frames := 8, cells := 0, slots := 0, locals := 179 })).room s m ar below meth c H locs 0 0 Q (F0 m 82 ls []) := by
                intro M_82 H locs ls hI hl m_KV_82 m_CW_82 m_KK_82
                refine lv_aload_n hx hb dX9_haven_82 rfl (lv_at hl 0 rfl) ?_
                refine lv_iload_n hx hb dX9_haven_83 rfl (lv_at hl 1 rfl) ?_
                refine h_goi hI (by decide) (va_runV (As := [.int p1]) (rest := []) ⟨hx, hb, hml, hown, hts⟩ (h_outBehind_X9 l D g σ Z hZ0 M_82 N R y g_y p1 i9 m_KK_82 m_CW_82) (cwV 1 hts gX9_haven_X9_outBehind rfl rfl rfl (by decide +kernel) ⟨Nat.le_of_ble_eq_true rfl, Nat.le_of_ble_eq_true rfl⟩) (h_preV hZ0 hK hE hI g_y (by decide) rfl) rfl rfl hl.1 rfl (lv_room (Nat.le_of_ble_eq_true rfl)) dX9_haven_84 ⟨Nat.le_of_ble_eq_true rfl, Nat.le_of_ble_eq_true rfl⟩) (fun r49 M50 N51 R52 H locs q53 z_M50 hI => ?_)
                obtain ⟨rfl, rfl, i_r49, z54⟩ := q53
                refine lv_istore (lv' := [(6, .int r49), (0, .ref y), (1, .int p1), (2, .int p2), (3, .int v3_27), (4, .int v4_27), (5, .int v5_27)]) hx hb dX9_haven_87 hl (by decide) rfl (fun ls hl => ?_)
                refine lv_iload hx hb dX9_haven_89 (lv_at hl 0 rfl) ?_
                have J101 : ∀ (t0_101 : Int32) (H : Heap) (locs : List Loc) (ls : Array Slot), kI D g σ e_h_haven_X9 M s.heap M50 N R H locs → lv_has ls 7 [(0, .ref y), (1, .int p1), (2, .int p2), (3, .int v3_27), (4, .int v4_27), (5, .int v5_27)] → iv t0_101 0 99 → W p l e (headSpec wsX9_haven ({ frames := 8, cells := 0, slots := 0, locals := 179 })).room s m ar below meth c H locs 0 0 Q (F0 m 101 ls [.int t0_101]) := by
                  intro t0_101 H locs ls hI hl i_t0_101
                  refine lv_istore (lv' := [(6, .int t0_101), (0, .ref y), (1, .int p1), (2, .int p2), (3, .int v3_27), (4, .int v4_27), (5, .int v5_27)]) hx hb dX9_haven_101 hl (by decide) rfl (fun ls hl => ?_)
                  refine lv_iload_n hx hb dX9_haven_103 rfl (lv_at hl 4 rfl) ?_
                  have J117 : ∀ (H : Heap) (locs : List Loc) (ls : Array Slot), kI D g σ e_h_haven_X9 M s.heap M50 N R H locs → lv_has ls 7 [(0, .ref y), (1, .int p1), (2, .int p2), (5, .int v5_27), (6, .int t0_101)] → W p l e (headSpec wsX9_haven ({ frames := 8, cells := 0, slots := 0, locals := 179 })).room s m ar below meth c H locs 0 0 Q (F0 m 117 ls []) := by
                    intro H locs ls hI hl
                    refine lv_iload hx hb dX9_haven_117 (lv_at hl 3 rfl) ?_
                    refine lv_istore_n (lv' := [(3, .int v5_27), (0, .ref y), (1, .int p1), (2, .int p2), (5, .int v5_27), (6, .int t0_101)]) hx hb dX9_haven_119 rfl hl (by decide) rfl (fun ls hl => ?_)
                    refine lv_iload hx hb dX9_haven_120 (lv_at hl 5 rfl) ?_
                    refine lv_istore (lv' := [(4, .int t0_101), (3, .int v5_27), (0, .ref y), (1, .int p1), (2, .int p2), (5, .int v5_27), (6, .int t0_101)]) hx hb dX9_haven_122 hl (by decide) rfl (fun ls hl => ?_)
                    have m55 : CW M50 R y := (CW_ag hI.2.1 g_y m_CW_82 (hAd.ag z_M50 (by decide)))
                    exact J124 M50 v5_27 t0_101 H locs ls hI (lv_sub hl [2, 3, 4, 1, 0, 5] rfl) z54 m55 (iv_w (lo' := (-1)) (hi' := 7) i33 (by decide) (by decide)) i_t0_101
                  refine lv_if_lt (tgt := 117) hx hb dX9_haven_104 (by decide) (fun c56 => ?_) (fun c56 => ?_)
                  · have i57 : iv v3_27 (-1) (-1) := iv_lt1 c56 i_v3_27 kc_0 (by decide)
                    exact J117 H locs ls hI (lv_sub hl [1, 2, 3, 6, 0] rfl)
                  · have i58 : iv v3_27 0 7 := iv_nlt1 c56 i_v3_27 kc_0 (by decide)
                    refine lv_iload hx hb dX9_haven_107 (lv_at hl 0 rfl) ?_
                    refine lv_iload hx hb dX9_haven_109 (lv_at hl 5 rfl) ?_
                    refine lv_icmp_gt (tgt := 117) hx hb dX9_haven_111 (by decide) (fun c59 => ?_) (fun c59 => ?_)
                    · have i60 : iv v4_27 0 98 := iv_lt1 c59 i_v4_27 i_t0_101 (by decide)
                      have i61 : iv t0_101 1 99 := iv_lt2 c59 i_v4_27 i_t0_101 (by decide)
                      exact J117 H locs ls hI (lv_sub hl [1, 2, 3, 6, 0] rfl)
                    · refine lv_goto (tgt := 124) hx hb dX9_haven_114 (by decide) ?_
                      have m62 : CW M50 R y := (CW_ag hI.2.1 g_y m_CW_82 (hAd.ag z_M50 (by decide)))
                      exact J124 M50 v3_27 v4_27 H locs ls hI (lv_sub hl [1, 2, 3, 4, 5, 6] rfl) z54 m62 (iv_w (lo' := (-1)) (hi' := 7) i58 (by decide) (by decide)) i_v4_27
                refine lv_if_ge (tgt := 99) hx hb dX9_haven_91 (by decide) (fun c63 => ?_) (fun c63 => ?_)
                · have i64 : iv r49 0 99 := iv_le2 c63 kc_0 i_r49 (by decide)
                  refine lv_iload hx hb dX9_haven_99 (lv_at hl 0 rfl) ?_
                  exact J101 r49 H locs ls hI (lv_sub hl [1, 2, 3, 4, 5, 6] rfl) i64
                · have i65 : iv r49 (-1) (-1) := iv_nle2 c63 kc_0 i_r49 (by decide)
                  refine lv_bipush (v := 99) hx hb dX9_haven_94 (by decide) ?_
                  refine lv_goto (tgt := 101) hx hb dX9_haven_96 (by decide) ?_
                  exact J101 (99 : Int32) H locs ls hI (lv_sub hl [1, 2, 3, 4, 5, 6] rfl) (iv_w (lo' := 0) (hi' := 99) kc_99 (by decide) (by decide))
              refine lv_icmp_eq (tgt := 82) hx hb dX9_haven_72 (by decide) (fun c66 => ?_) (fun c66 => ?_)
              · have i67 : iv v48 0 7 := iv_eq1 c66 i_v48 i33
                have m68 : KV M41 R y := (KV_ag hI.2.1 g_y m_KV_27 (hAd.ag z_M41 (by decide)))
                have m69 : CW M41 R y := (CW_ag hI.2.1 g_y m_CW_27 (hAd.ag z_M41 (by decide)))
                exact J82 M41 H locs ls hI hl m68 m69 m46
              · refine lv_aload_n hx hb dX9_haven_75 rfl (lv_at hl 0 rfl) ?_
                refine lv_iload_n hx hb dX9_haven_76 rfl (lv_at hl 1 rfl) ?_
                refine lv_iload hx hb dX9_haven_77 (lv_at hl 5 rfl) ?_
                refine h_gov hI (by decide) (va_runV (As := [.int p1, .int v5_27]) (rest := []) ⟨hx, hb, hml, hown, hts⟩ (h_goIn_X9 l D g σ Z hZ0 M41 N R y g_y p1 i9 v5_27 (iv_w (lo' := (-1)) (hi' := 7) i33 (by decide) (by decide))) (cwV 2 hts gX9_haven_X9_goIn rfl rfl rfl (by decide +kernel) ⟨Nat.le_of_ble_eq_true rfl, Nat.le_of_ble_eq_true rfl⟩) (h_preV hZ0 hK hE hI g_y (by decide) rfl) rfl rfl hl.1 rfl (lv_room (Nat.le_of_ble_eq_true rfl)) dX9_haven_79 ⟨Nat.le_of_ble_eq_true rfl, Nat.le_of_ble_eq_true rfl⟩) (fun M71 N72 R73 H locs q74 z_M71 hI => ?_)
                obtain ⟨rfl, rfl, m75⟩ := q74
                have m76 : KV M71 R y := (m75 (KV_ag hI.2.1 g_y m_KV_27 (hAd.ag z_M41 (by decide))))
                have m77 : CW M71 R y := (CW_ag hI.2.1 g_y (CW_ag hI.2.1 g_y m_CW_27 (hAd.ag z_M41 (by decide))) (hAd.ag z_M71 (by decide)))
                have m78 : KK M71 R y := (KK_ag hI.2.1 g_y m46 (hAd.ag z_M71 (by decide)))
                exact J82 M71 H locs ls hI hl m76 m77 m78
            refine lv_if_lt (tgt := 58) hx hb dX9_haven_42 (by decide) (fun c79 => ?_) (fun c79 => ?_)
            · have i80 : iv r34 (-1) (-1) := iv_lt1 c79 i_r34 kc_0 (by decide)
              exact J58 H locs ls hI hl
            · have i81 : iv r34 0 6 := iv_nlt1 c79 i_r34 kc_0 (by decide)
              refine lv_aload_n hx hb dX9_haven_45 rfl (lv_at hl 0 rfl) ?_
              refine lv_iload hx hb dX9_haven_46 (lv_at hl 5 rfl) ?_
              refine h_goi hI (by decide) (va_runV (As := [.int v5_27]) (rest := []) ⟨hx, hb, hml, hown, hts⟩ (h_whoIn_X9 l D g σ Z hZ0 M_27 N R y g_y v5_27) (cwV 1 hts gX9_haven_X9_whoIn rfl rfl rfl (by decide +kernel) ⟨Nat.le_of_ble_eq_true rfl, Nat.le_of_ble_eq_true rfl⟩) (h_preV hZ0 hK hE hI g_y (by decide) rfl) rfl rfl hl.1 rfl (lv_room (Nat.le_of_ble_eq_true rfl)) dX9_haven_48 ⟨Nat.le_of_ble_eq_true rfl, Nat.le_of_ble_eq_true rfl⟩) (fun r82 M83 N84 R85 H locs q86 z_M83 hI => ?_)
              obtain ⟨rfl, rfl, rfl, i_r82⟩ := q86
              refine lv_iload_n hx hb dX9_haven_51 rfl (lv_at hl 1 rfl) ?_
              refine lv_icmp_eq (tgt := 58) hx hb dX9_haven_52 (by decide) (fun c87 => ?_) (fun c87 => ?_)
              · have i88 : iv r82 0 6 := iv_eq1 c87 i_r82 i9
                exact J58 H locs ls hI hl
              · refine lv_goto (tgt := 124) hx hb dX9_haven_55 (by decide) ?_
                exact J124 M_27 v3_27 v4_27 H locs ls hI hl m_KV_27 m_CW_27 i_v3_27 i_v4_27
      refine lv_istore (lv' := [(5, .int (0 : Int32)), (4, .int (0 : Int32)), (3, .int (-1 : Int32)), (0, .ref y), (1, .int p1), (2, .int p2)]) hx hb dX9_haven_25 hl (by decide) rfl (fun ls hl => ?_)
      exact J27 9 M (-1 : Int32) (0 : Int32) (0 : Int32) H locs ls hI (lv_sub hl [3, 4, 5, 2, 1, 0] rfl) m0_KV m0_CW (iv_w (lo' := (-1)) (hi' := 7) kc_m1 (by decide) (by decide)) (iv_w (lo' := 0) (hi' := 99) kc_0 (by decide) (by decide)) (iv_w (lo' := 0) (hi' := 8) kc_0 (by decide) (by decide)) (by have h9 := kc_0; simp only [iv] at h9; omega)
    · have i89 : iv r11 0 0 := iv_eq1 c17 i_r11 kc_0
      refine lv_iconst (v := (-1)) hx hb dX9_haven_17 (by decide) ?_
      exact h_iret hQ hx hb hr hlocks rfl hK hI ⟨rfl, rfl, (iv_w (lo' := (-1)) (hi' := 99) kc_m1 (by decide) (by decide)), m0_KV⟩ dX9_haven_18
abbrev e_h_will_X9 : List (Nat × Nat) := [(9, 41), (9, 42), (9, 43), (9, 44), (134, 999), (145, 999), (152, 999)]
set_option maxHeartbeats 4000000 in
set_option maxRecDepth 100000 in
theorem h_will_X9 (l : Launch) (D : va_G) (g : Nat → ClassId) (σ : Nat → Option Nat) (Z : State → Heap → Prop) (hZ0 : hZ σ Z) (M : hM) (N : hN) (R : hR) (y : Nat) (g_y : σ y = some 9) (p1 : Int32) (p2 : Int32) (p3 : Int32) (m0_KV : KV M R y) (m0_CW : CW M R y) (m0_HV : HV M R y) : Met l yX9_will wsX9_will ({ frames := 8, cells := 0, slots := 0, locals := 179 }) (va_Pc [.ref y, .int p1, .int p2, .int p3] (hPre D g σ Z M N R)) (hQi D g σ e_h_will_X9 M (fun (r : Int32) (M1 : hM) (N1 : hN) (R1 : hR) => N = N1 ∧ R = R1 ∧ iv r (-2) 7 ∧ (KV M1 R y))) 0 0 (hA σ) := by
  refine h_head (cc := cX9_will) (maxL := 6) (ret := (some .int)) (by decide) rfl (Nat.le_of_ble_eq_true rfl) e_h_will_X9 ?_
  intro p e s m below meth c ls Q ar hQ hx hb hr hlocks hml hown hts hK hE H locs hI hl
  have hown : s.vm.findClass RX9 = some m.cls := hown
  have hl : lv_has ls 6 [(0, .ref y), (1, .int p1), (2, .int p2), (3, .int p3)] := hl
  refine lv_aload_n hx hb dX9_will_0 rfl (lv_at hl 0 rfl) ?_
  refine lv_iload_n hx hb dX9_will_1 rfl (lv_at hl 1 rfl) ?_
  refine h_goi hI (by decide) (va_runV (As := [.int p1]) (rest := []) ⟨hx, hb, hml, hown, hts⟩ (h_isTenant_X9 l D g σ Z hZ0 M N R y g_y p1) (cwV 1 hts gX9_will_X9_isTenant rfl rfl rfl (by decide +kernel) ⟨Nat.le_of_ble_eq_true rfl, Nat.le_of_ble_eq_true rfl⟩) (h_preV hZ0 hK hE hI g_y (by decide) rfl) rfl rfl hl.1 rfl (lv_room (Nat.le_of_ble_eq_true rfl)) dX9_will_2 ⟨Nat.le_of_ble_eq_true rfl, Nat.le_of_ble_eq_true rfl⟩) (fun r1 M2 N3 R4 H locs q5 z_M2 hI => ?_)
  obtain ⟨rfl, rfl, rfl, i_r1, z6⟩ := q5
  refine lv_if_eq (tgt := 24) hx hb dX9_will_5 (by decide) (fun c7 => ?_) (fun c7 => ?_)
  · have i8 : iv r1 0 0 := iv_eq1 c7 i_r1 kc_0
    refine lv_bipush (v := (-2)) hx hb dX9_will_24 (by decide) ?_
    exact h_iret hQ hx hb hr hlocks rfl hK hI ⟨rfl, rfl, (iv_w (lo' := (-2)) (hi' := 7) kc_m2 (by decide) (by decide)), m0_KV⟩ dX9_will_26
  · have i9 : iv p1 0 6 := z6 c7
    have i10 : iv r1 1 1 := iv_neL c7 i_r1 (by decide) (by decide)
    refine lv_iload_n hx hb dX9_will_8 rfl (lv_at hl 2 rfl) ?_
    refine h_goi hI (by decide) (va_runS (As := [.int p2]) (rest := []) ⟨hx, hb, hml, hown, hts⟩ (h_isAhead_X9 l D g σ Z hZ0 M N R p2) (va_cwS 1 hts gX9_will_X9_isAhead rfl rfl rfl (by decide +kernel) ⟨Nat.le_of_ble_eq_true rfl, Nat.le_of_ble_eq_true rfl⟩) (h_preS hZ0 hK hE hI) rfl rfl hl.1 rfl (lv_room (Nat.le_of_ble_eq_true rfl)) dX9_will_9 ⟨Nat.le_of_ble_eq_true rfl, Nat.le_of_ble_eq_true rfl⟩) (fun r11 M12 N13 R14 H locs q15 z_M12 hI => ?_)
    obtain ⟨rfl, rfl, rfl, i_r11, z16⟩ := q15
    refine lv_if_eq (tgt := 24) hx hb dX9_will_12 (by decide) (fun c17 => ?_) (fun c17 => ?_)
    · have i18 : iv r11 0 0 := iv_eq1 c17 i_r11 kc_0
      refine lv_bipush (v := (-2)) hx hb dX9_will_24 (by decide) ?_
      exact h_iret hQ hx hb hr hlocks rfl hK hI ⟨rfl, rfl, (iv_w (lo' := (-2)) (hi' := 7) kc_m2 (by decide) (by decide)), m0_KV⟩ dX9_will_26
    · have i19 : iv p2 0 60 := z16 c17
      have i20 : iv r11 1 1 := iv_neL c17 i_r11 (by decide) (by decide)
      refine lv_iload_n hx hb dX9_will_15 rfl (lv_at hl 3 rfl) ?_
      refine lv_iconst (v := 0) hx hb dX9_will_16 (by decide) ?_
      refine lv_iconst (v := 1) hx hb dX9_will_17 (by decide) ?_
      refine h_goi hI (by decide) (va_runS (As := [.int p3, .int (0 : Int32), .int (1 : Int32)]) (rest := []) ⟨hx, hb, hml, hown, hts⟩ (h_isIn_X9 l D g σ Z hZ0 M N R p3 (0 : Int32) (1 : Int32)) (va_cwS 3 hts gX9_will_X9_isIn rfl rfl rfl (by decide +kernel) ⟨Nat.le_of_ble_eq_true rfl, Nat.le_of_ble_eq_true rfl⟩) (h_preS hZ0 hK hE hI) rfl rfl hl.1 rfl (lv_room (Nat.le_of_ble_eq_true rfl)) dX9_will_18 ⟨Nat.le_of_ble_eq_true rfl, Nat.le_of_ble_eq_true rfl⟩) (fun r21 M22 N23 R24 H locs q25 z_M22 hI => ?_)
      obtain ⟨rfl, rfl, rfl, i_r21, z26⟩ := q25
      refine lv_if_ne (tgt := 27) hx hb dX9_will_21 (by decide) (fun c27 => ?_) (fun c27 => ?_)
      · have i28 : iv p3 0 1 := (fun h9 => iv_isin (z26 h9) kc_0 kc_1) c27
        have i29 : iv r21 1 1 := iv_neL c27 i_r21 (by decide) (by decide)
        refine lv_aload_n hx hb dX9_will_27 rfl (lv_at hl 0 rfl) ?_
        refine h_gov hI (by decide) (va_runV (As := []) (rest := []) ⟨hx, hb, hml, hown, hts⟩ (h_keepNow_X9 l D g σ Z hZ0 M N R y g_y) (cwV 0 hts gX9_will_X9_keepNow rfl rfl rfl (by decide +kernel) ⟨Nat.le_of_ble_eq_true rfl, Nat.le_of_ble_eq_true rfl⟩) (h_preV hZ0 hK hE hI g_y (by decide) rfl) rfl rfl hl.1 rfl (lv_room (Nat.le_of_ble_eq_true rfl)) dX9_will_28 ⟨Nat.le_of_ble_eq_true rfl, Nat.le_of_ble_eq_true rfl⟩) (fun M31 N32 R33 H locs q34 z_M31 hI => ?_)
        obtain ⟨rfl, rfl, z35⟩ := q34
        have m36 : KK M31 R y := KK_of z35 hI.2.1 g_y m0_KV
        refine lv_iconst (v := 0) hx hb dX9_will_31 (by decide) ?_
        refine lv_istore (lv' := [(4, .int (0 : Int32)), (0, .ref y), (1, .int p1), (2, .int p2), (3, .int p3)]) hx hb dX9_will_32 hl (by decide) rfl (fun ls hl => ?_)
        refine lv_iconst (v := 0) hx hb dX9_will_34 (by decide) ?_
        have J37 : ∀ (n : Nat) (M_37 : hM) (v5_37 : Int32) (H : Heap) (locs : List Loc) (ls : Array Slot), kI D g σ e_h_will_X9 M s.heap M_37 N R H locs → lv_has ls 6 [(0, .ref y), (1, .int p1), (2, .int p2), (3, .int p3), (5, .int v5_37)] → KV M_37 R y → CW M_37 R y → HV M_37 R y → KK M_37 R y → iv v5_37 0 60 → 61 ≤ v5_37.toInt + (n : Int) → W p l e (headSpec wsX9_will ({ frames := 8, cells := 0, slots := 0, locals := 179 })).room s m ar below meth c H locs 0 0 Q (F0 m 37 ls []) := by
          intro n
          induction n with
          | zero => intro M_37 v5_37 H locs ls hI hl m_KV_37 m_CW_37 m_HV_37 m_KK_37 i_v5_37 hn; exfalso; have hz := i_v5_37; simp only [iv] at hz; omega
          | succ n ih37 =>
            intro M_37 v5_37 H locs ls hI hl m_KV_37 m_CW_37 m_HV_37 m_KK_37 i_v5_37 hn37
            refine lv_iload hx hb dX9_will_37 (lv_at hl 4 rfl) ?_
            refine lv_iload_n hx hb dX9_will_39 rfl (lv_at hl 2 rfl) ?_
            refine lv_icmp_ge (tgt := 67) hx hb dX9_will_40 (by decide) (fun c37 => ?_) (fun c37 => ?_)
            · refine lv_aload_n hx hb dX9_will_67 rfl (lv_at hl 0 rfl) ?_
              refine h_getr hx hb hts iX9_will_X9 hown hK hI g_y (by decide) rfl rfl 45 (by decide) rfl 145 rfl (hts (.fieldLink RX9 94 "CatLeasesModel" "all" "[I") (List.mem_of_getElem? (i := 1) rfl)) (fun _ h9 => h9) dX9_will_68 (fun a38 e_a38 g_a38 => ?_)
              refine lv_iconst (v := 0) hx hb dX9_will_71 (by decide) ?_
              refine lv_iload_n hx hb dX9_will_72 rfl (lv_at hl 1 rfl) ?_
              refine lv_iadd hx hb dX9_will_73 ?_
              refine k_top (v := p1) (Int32.zero_add _) ?_
              refine h_iald (j := p1.toNatClampNeg) (lo := (-1)) (hi := 7) hx hb hK hI g_a38 (by decide) rfl (iv_in (n := 39) i9 (by decide) (by decide)) rfl (hI.iv2 (n := 39) (c := 0) (d := 7) g_a38 rfl (in_lt (iv_in (n := 39) i9 (by decide) (by decide))) (iv_nat1 i9 (by decide)) (iv_nat2 i9 (by decide) (by decide)) (by decide)) dX9_will_74 (fun v39 e_v39 i_v39 => ?_)
              refine lv_istore (lv' := [(5, .int v39), (0, .ref y), (1, .int p1), (2, .int p2), (3, .int p3)]) hx hb dX9_will_75 hl (by decide) rfl (fun ls hl => ?_)
              refine lv_aload_n hx hb dX9_will_77 rfl (lv_at hl 1 rfl) ?_
              refine h_gov hI (by decide) (va_runV (As := []) (rest := []) ⟨hx, hb, hml, hown, hts⟩ (h_bringBack_X9 l D g σ Z hZ0 M_37 N R y g_y) (cwV 0 hts gX9_will_X9_bringBack rfl rfl rfl (by decide +kernel) ⟨Nat.le_of_ble_eq_true rfl, Nat.le_of_ble_eq_true rfl⟩) (h_preV hZ0 hK hE hI g_y (by decide) rfl) rfl rfl hl.1 rfl (lv_room (Nat.le_of_ble_eq_true rfl)) dX9_will_78 ⟨Nat.le_of_ble_eq_true rfl, Nat.le_of_ble_eq_true rfl⟩) (fun M41 N42 R43 H locs q44 z_M41 hI => ?_)
              obtain ⟨rfl, rfl, z45⟩ := q44
              have m46 : KV M41 R y := KV_of z45 hI.2.1 g_y m_KK_37
              refine lv_iload hx hb dX9_will_81 (lv_at hl 0 rfl) ?_
              exact h_iret hQ hx hb hr hlocks rfl hK hI ⟨rfl, rfl, (iv_w (lo' := (-2)) (hi' := 7) i_v39 (by decide) (by decide)), m46⟩ dX9_will_83
            · have i47 : iv p2 1 60 := iv_nle1 c37 i19 i_v5_37 (by decide)
              have i48 : iv v5_37 0 59 := iv_nle2 c37 i19 i_v5_37 (by decide)
              refine lv_iload_n hx hb dX9_will_43 rfl (lv_at hl 3 rfl) ?_
              refine lv_iconst (v := 1) hx hb dX9_will_44 (by decide) ?_
              have J59 : ∀ (M_59 : hM) (t0_59 : Int32) (H : Heap) (locs : List Loc) (ls : Array Slot), kI D g σ e_h_will_X9 M s.heap M_59 N R H locs → lv_has ls 6 [(0, .ref y), (1, .int p1), (2, .int p2), (3, .int p3), (5, .int v5_37)] → KV M_59 R y → CW M_59 R y → HV M_59 R y → KK M_59 R y → iv t0_59 0 127 → W p l e (headSpec wsX9_will ({ frames := 8, cells := 0, slots := 0, locals := 179 })).room s m ar below meth c H locs 0 0 Q (F0 m 59 ls [.int t0_59]) := by
                intro M_59 t0_59 H locs ls hI hl m_KV_59 m_CW_59 m_HV_59 m_KK_59 i_t0_59
                refine lv_istore (lv' := [(4, .int t0_59), (0, .ref y), (1, .int p1), (2, .int p2), (3, .int p3), (5, .int v5_37)]) hx hb dX9_will_59 hl (by decide) rfl (fun ls hl => ?_)
                obtain ⟨v49, e_v49⟩ : ∃ z : Int32, z = v5_37 + Int32.ofInt 1 := ⟨_, rfl⟩
                have i_v49 : iv v49 1 60 := by rw [e_v49]; exact iv_add i48 (ki_1) (by decide) (by decide) (by decide) (by decide)
                refine lv_iinc (v := v49) (lv' := [(5, .int v49), (4, .int t0_59), (0, .ref y), (1, .int p1), (2, .int p2), (3, .int p3)]) hx hb dX9_will_61 hl (k := 5) rfl e_v49.symm (by decide) rfl (fun ls hl => ?_)
                refine lv_goto (tgt := 37) hx hb dX9_will_64 (by decide) ?_
                exact ih37 M_59 v49 H locs ls hI (lv_sub hl [2, 3, 4, 5, 0] rfl) m_KV_59 m_CW_59 m_HV_59 m_KK_59 (iv_w (lo' := 0) (hi' := 60) i_v49 (by decide) (by decide)) (by have h9 := (h_inc e_v49 i48 ki_1 (by decide) (by decide)); omega)
              refine lv_icmp_ne (tgt := 55) hx hb dX9_will_45 (by decide) (fun c50 => ?_) (fun c50 => ?_)
              · have i51 : iv p3 0 0 := iv_neH c50 i28 (by decide) (by decide)
                refine lv_aload_n hx hb dX9_will_55 rfl (lv_at hl 0 rfl) ?_
                refine h_goi hI (by decide) (va_runV (As := []) (rest := []) ⟨hx, hb, hml, hown, hts⟩ (h_goQuarter_X9 l D g σ Z hZ0 M_37 N R y g_y m_CW_37) (cwV 0 hts gX9_will_X9_goQuarter rfl rfl rfl (by decide +kernel) ⟨Nat.le_of_ble_eq_true rfl, Nat.le_of_ble_eq_true rfl⟩) (h_preV hZ0 hK hE hI g_y (by decide) rfl) rfl rfl hl.1 rfl (lv_room (Nat.le_of_ble_eq_true rfl)) dX9_will_56 ⟨Nat.le_of_ble_eq_true rfl, Nat.le_of_ble_eq_true rfl⟩) (fun r52 M53 N54 R55 H locs q56 z_M53 hI => ?_)
                obtain ⟨rfl, rfl, i_r52, m57⟩ := q56
                have m58 : KV M53 R y := (m57 m_KV_37)
                have m59 : CW M53 R y := (CW_ag hI.2.1 g_y m_CW_37 (hAd.ag z_M53 (by decide)))
                have m60 : HV M53 R y := (HV_ag hI.2.1 g_y m_HV_37 (hAd.ag z_M53 (by decide)))
                have m61 : KK M53 R y := (KK_ag hI.2.1 g_y m_KK_37 (hAd.ag z_M53 (by decide)))
                exact J59 M53 r52 H locs ls hI hl m58 m59 m60 m61 i_r52
              · have i62 : iv p3 1 1 := iv_eq1 c50 i28 kc_1
                refine lv_aload_n hx hb dX9_will_48 rfl (lv_at hl 0 rfl) ?_
                refine h_goi hI (by decide) (va_runV (As := []) (rest := []) ⟨hx, hb, hml, hown, hts⟩ (h_goInEarnest_X9 l D g σ Z hZ0 M_37 N R y g_y m_KV_37 m_HV_37 m_CW_37) (cwV 0 hts gX9_will_X9_goInEarnest rfl rfl rfl (by decide +kernel) ⟨Nat.le_of_ble_eq_true rfl, Nat.le_of_ble_eq_true rfl⟩) (h_preV hZ0 hK hE hI g_y (by decide) rfl) rfl rfl hl.1 rfl (lv_room (Nat.le_of_ble_eq_true rfl)) dX9_will_49 ⟨Nat.le_of_ble_eq_true rfl, Nat.le_of_ble_eq_true rfl⟩) (fun r63 M64 N65 R66 H locs q67 z_M64 hI => ?_)
                obtain ⟨rfl, rfl, i_r63, m68⟩ := q67
                refine lv_goto (tgt := 59) hx hb dX9_will_52 (by decide) ?_
                have m69 : CW M64 R y := (CW_ag hI.2.1 g_y m_CW_37 (hAd.ag z_M64 (by decide)))
                have m70 : HV M64 R y := (HV_ag hI.2.1 g_y m_HV_37 (hAd.ag z_M64 (by decide)))
                have m71 : KK M64 R y := (KK_ag hI.2.1 g_y m_KK_37 (hAd.ag z_M64 (by decide)))
                exact J59 M64 r63 H locs ls hI hl m68 m69 m70 m71 i_r63
        refine lv_istore (lv' := [(5, .int (0 : Int32)), (4, .int (0 : Int32)), (0, .ref y), (1, .int p1), (2, .int p2), (3, .int p3)]) hx hb dX9_will_35 hl (by decide) rfl (fun ls hl => ?_)
        have m72 : KV M31 R y := (KV_ag hI.2.1 g_y m0_KV (hAd.ag z_M31 (by decide)))
        have m73 : CW M31 R y := (CW_ag hI.2.1 g_y m0_CW (hAd.ag z_M31 (by decide)))
        have m74 : HV M31 R y := (HV_ag hI.2.1 g_y m0_HV (hAd.ag z_M31 (by decide)))
        exact J37 61 M31 (0 : Int32) H locs ls hI (lv_sub hl [2, 3, 4, 5, 0] rfl) m72 m73 m74 m36 (iv_w (lo' := 0) (hi' := 60) kc_0 (by decide) (by decide)) (by have h9 := kc_0; simp only [iv] at h9; omega)
      · have i75 : iv r21 0 0 := iv_eq1 c27 i_r21 kc_0
        refine lv_bipush (v := (-2)) hx hb dX9_will_24 (by decide) ?_
        exact h_iret hQ hx hb hr hlocks rfl hK hI ⟨rfl, rfl, (iv_w (lo' := (-2)) (hi' := 7) kc_m2 (by decide) (by decide)), m0_KV⟩ dX9_will_26
abbrev e_h_keepAct_X9 : List (Nat × Nat) := [(9, 50), (9, 51), (149, 999)]
set_option maxHeartbeats 4000000 in
set_option maxRecDepth 100000 in
theorem h_keepAct_X9 (l : Launch) (D : va_G) (g : Nat → ClassId) (σ : Nat → Option Nat) (Z : State → Heap → Prop) (hZ0 : hZ σ Z) (M : hM) (N : hN) (R : hR) (y : Nat) (g_y : σ y = some 9) (m0_KV : KV M R y) (m0_WV : WV M R y) : Met l yX9_keepAct wsX9_keepAct ({ frames := 0, cells := 0, slots := 0, locals := 0 }) (va_Pc [.ref y] (hPre D g σ Z M N R)) (hQv D g σ e_h_keepAct_X9 M (fun (M1 : hM) (N1 : hN) (R1 : hR) => N = N1 ∧ R = R1 ∧ (WV M1 R y))) 0 0 (hA σ) := by
  refine h_head (cc := cX9_keepAct) (maxL := 2) (ret := none) (by decide) rfl (Nat.le_of_ble_eq_true rfl) e_h_keepAct_X9 ?_
  intro p e s m below meth c ls Q ar hQ hx hb hr hlocks hml hown hts hK hE H locs hI hl
  have hown : s.vm.findClass RX9 = some m.cls := hown
  have hl : lv_has ls 2 [(0, .ref y)] := hl
  refine lv_aload_n hx hb dX9_keepAct_0 rfl (lv_at hl 0 rfl) ?_
  refine h_geti (lo := 0) (hi := 40) hx hb hts iX9_keepAct_X9 hown hK hI g_y (by decide) rfl rfl 50 (by decide) rfl rfl (hts (.fieldLink RX9 398 "CatLeasesModel" "acts" "I") (List.mem_of_getElem? (i := 1) rfl)) (fun _ h9 => h9) dX9_keepAct_1 (fun v1 e_v1 i_v1 => ?_)
  refine lv_bipush (v := 40) hx hb dX9_keepAct_4 (by decide) ?_
  have J49 : ∀ (M_49 : hM) (u50_49 : Int32) (H : Heap) (locs : List Loc) (ls : Array Slot), kI D g σ e_h_keepAct_X9 M s.heap M_49 N R H locs → lv_has ls 2 [(0, .ref y)] → KV M_49 R y → u50_49 = M_49 y 50 → iv u50_49 0 39 → WVa M_49 R y u50_49.toInt → W p l e (headSpec wsX9_keepAct ({ frames := 0, cells := 0, slots := 0, locals := 0 })).room s m ar below meth c H locs 0 0 Q (F0 m 49 ls []) := by
    intro M_49 u50_49 H locs ls hI hl m_KV_49 e_u50_49 i_u50_49 hw_49
    refine lv_iconst (v := 0) hx hb dX9_keepAct_49 (by decide) ?_
    have J51 : ∀ (n : Nat) (M_51 : hM) (v1_51 : Int32) (H : Heap) (locs : List Loc) (ls : Array Slot), kI D g σ e_h_keepAct_X9 M s.heap M_51 N R H locs → lv_has ls 2 [(0, .ref y), (1, .int v1_51)] → u50_49 = M_51 y 50 → KV M_51 R y → iv v1_51 0 39 → CPI M_49 M_51 (R y 49) (39 * u50_49.toNatClampNeg) (R y 45) 0 v1_51.toNatClampNeg → 40 ≤ v1_51.toInt + (n : Int) → W p l e (headSpec wsX9_keepAct ({ frames := 0, cells := 0, slots := 0, locals := 0 })).room s m ar below meth c H locs 0 0 Q (F0 m 51 ls []) := by
      intro n
      induction n with
      | zero => intro M_51 v1_51 H locs ls hI hl k0_51 m_KV_51 i_v1_51 hcp_51 hn; exfalso; have hz := i_v1_51; simp only [iv] at hz; omega
      | succ n ih51 =>
        intro M_51 v1_51 H locs ls hI hl k0_51 m_KV_51 i_v1_51 hcp_51 hn51
        refine lv_iload_n hx hb dX9_keepAct_51 rfl (lv_at hl 1 rfl) ?_
        refine lv_bipush (v := 39) hx hb dX9_keepAct_52 (by decide) ?_
        refine lv_icmp_ge (tgt := 83) hx hb dX9_keepAct_54 (by decide) (fun c2 => ?_) (fun c2 => ?_)
        · have i3 : iv v1_51 39 39 := iv_le2 c2 kc_39 i_v1_51 (by decide)
          refine lv_aload_n hx hb dX9_keepAct_83 rfl (lv_at hl 0 rfl) ?_
          refine lv_dup hx hb dX9_keepAct_84 rfl ?_
          refine h_geti (lo := 0) (hi := 40) hx hb hts iX9_keepAct_X9 hown hK hI g_y (by decide) rfl rfl 50 (by decide) rfl rfl (hts (.fieldLink RX9 398 "CatLeasesModel" "acts" "I") (List.mem_of_getElem? (i := 1) rfl)) (fun _ h9 => h9) dX9_keepAct_85 (fun v4 e_v4 i_v4 => ?_)
          have q5 : u50_49 = v4 := (k0_51).trans e_v4.symm
          subst q5
          refine lv_iconst (v := 1) hx hb dX9_keepAct_88 (by decide) ?_
          refine lv_iadd hx hb dX9_keepAct_89 ?_
          refine h_nm (lo := 1) (hi := 40) (iv_add i_u50_49 kc_1 (by decide) (by decide) (by decide) (by decide)) (fun v6 e_v6 i_v6 => ?_)
          refine h_puti hx hb hts iX9_keepAct_X9 tyX9 tyX9_ok nmX9 hown hK hI g_y (by decide) rfl rfl 50 (by decide) rfl (hts (.fieldLink RX9 398 "CatLeasesModel" "acts" "I") (List.mem_of_getElem? (i := 1) rfl)) (fun _ h9 => h9) rfl .int (by decide +kernel) rfl rfl (iv_w (lo' := 0) (hi' := 40) i_v6 (by decide) (by decide)) rfl dX9_keepAct_90 (fun M7 H locs e_M7 hI => ?_)
          refine lv_aload_n hx hb dX9_keepAct_93 rfl (lv_at hl 0 rfl) ?_
          refine lv_iconst (v := 0) hx hb dX9_keepAct_94 (by decide) ?_
          refine h_puti hx hb hts iX9_keepAct_X9 tyX9 tyX9_ok nmX9 hown hK hI g_y (by decide) rfl rfl 51 (by decide) rfl (hts (.fieldLink RX9 401 "CatLeasesModel" "undone" "I") (List.mem_of_getElem? (i := 4) rfl)) (fun _ h9 => h9) rfl .int (by decide +kernel) rfl rfl (iv_w (lo' := 0) (hi' := 40) kc_0 (by decide) (by decide)) rfl dX9_keepAct_95 (fun M8 H locs e_M8 hI => ?_)
          exact h_vret hQ hx hb hr hlocks hK hI ⟨rfl, rfl, (WV_end (WVa_ag hI.2.1 g_y (WVa_ag hI.2.1 g_y (WV_push (cp_end hcp_51 i3) hI.2.1 g_y hw_49 (iv_nN i_u50_49 (by decide)).symm m_KV_49) (hAd.put e_M7 g_y rfl)) (hAd.put e_M8 g_y rfl)) e_M7 e_M8 rfl (h_inc e_v6 i_u50_49 kc_1 (by decide) (by decide)) i_u50_49)⟩ dX9_keepAct_98
        · have i9 : iv v1_51 0 38 := iv_nle2 c2 kc_39 i_v1_51 (by decide)
          refine lv_aload_n hx hb dX9_keepAct_57 rfl (lv_at hl 0 rfl) ?_
          refine h_getr hx hb hts iX9_keepAct_X9 hown hK hI g_y (by decide) rfl rfl 49 (by decide) rfl 149 rfl (hts (.fieldLink RX9 106 "CatLeasesModel" "was" "[I") (List.mem_of_getElem? (i := 2) rfl)) (fun _ h9 => h9) dX9_keepAct_58 (fun a10 e_a10 g_a10 => ?_)
          refine lv_bipush (v := 39) hx hb dX9_keepAct_61 (by decide) ?_
          refine lv_aload_n hx hb dX9_keepAct_63 rfl (lv_at hl 0 rfl) ?_
          refine h_geti (lo := 0) (hi := 40) hx hb hts iX9_keepAct_X9 hown hK hI g_y (by decide) rfl rfl 50 (by decide) rfl rfl (hts (.fieldLink RX9 398 "CatLeasesModel" "acts" "I") (List.mem_of_getElem? (i := 1) rfl)) (fun _ h9 => h9) dX9_keepAct_64 (fun v11 e_v11 i_v11 => ?_)
          have q12 : u50_49 = v11 := (k0_51).trans e_v11.symm
          subst q12
          refine lv_imul hx hb dX9_keepAct_67 ?_
          refine h_nm (lo := 0) (hi := 1521) (iv_mul kc_39 i_u50_49 (by decide) (by decide) (by decide) (by decide) (by decide)) (fun v13 e_v13 i_v13 => ?_)
          refine lv_iload_n hx hb dX9_keepAct_68 rfl (lv_at hl 1 rfl) ?_
          refine lv_iadd hx hb dX9_keepAct_69 ?_
          refine h_nm (lo := 0) (hi := 1559) (iv_add i_v13 i9 (by decide) (by decide) (by decide) (by decide)) (fun v14 e_v14 i_v14 => ?_)
          refine lv_aload_n hx hb dX9_keepAct_70 rfl (lv_at hl 0 rfl) ?_
          refine h_getr hx hb hts iX9_keepAct_X9 hown hK hI g_y (by decide) rfl rfl 45 (by decide) rfl 145 rfl (hts (.fieldLink RX9 94 "CatLeasesModel" "all" "[I") (List.mem_of_getElem? (i := 3) rfl)) (fun _ h9 => h9) dX9_keepAct_71 (fun a15 e_a15 g_a15 => ?_)
          refine lv_iload_n hx hb dX9_keepAct_74 rfl (lv_at hl 1 rfl) ?_
          refine h_iald (j := v1_51.toNatClampNeg) (lo := (-2147483648)) (hi := 2147483647) hx hb hK hI g_a15 (by decide) rfl (iv_in (n := 39) i9 (by decide) (by decide)) rfl (iv_any _) dX9_keepAct_75 (fun v16 e_v16 i_v16 => ?_)
          refine h_iast (j := v14.toNatClampNeg) hx hb hK hI g_a10 (by decide) rfl (iv_in (n := 1599) i_v14 (by decide) (by decide)) rfl (iv_cp (s := 145) (s1 := 149) hI.2.1 g_a15 (in_lt (iv_in (n := 39) i9 (by decide) (by decide))) e_v16 (by decide) (by decide) (by have h9 := mul_at (n := 39) (m := 39) (hi := 38) (by decide) i_u50_49 e_v13 e_v14 i9 (by decide) (by decide) (by decide) (by decide); omega)) rfl dX9_keepAct_76 (fun M17 H locs e_M17 hI => ?_)
          obtain ⟨v18, e_v18⟩ : ∃ z : Int32, z = v1_51 + Int32.ofInt 1 := ⟨_, rfl⟩
          have i_v18 : iv v18 1 39 := by rw [e_v18]; exact iv_add i9 (ki_1) (by decide) (by decide) (by decide) (by decide)
          refine lv_iinc (v := v18) (lv' := [(1, .int v18), (0, .ref y)]) hx hb dX9_keepAct_77 hl (k := 1) rfl e_v18.symm (by decide) rfl (fun ls hl => ?_)
          refine lv_goto (tgt := 51) hx hb dX9_keepAct_80 (by decide) ?_
          have m19 : KV M17 R y := (KV_ag hI.2.1 g_y m_KV_51 (hAd.put e_M17 g_a10 rfl))
          exact ih51 M17 v18 H locs ls hI (lv_sub hl [1, 0] rfl) ((k0_51).trans (u2_st (a := y) (k := 50) e_M17 (u2_a (so_ne g_y g_a10 (by decide)))).symm) m19 (iv_w (lo' := 0) (hi' := 39) i_v18 (by decide) (by decide)) (CPI_step (v := v16) (ix := v14.toNatClampNeg) (iy := v1_51.toNatClampNeg) hcp_51 (by rw [e_M17, e_a10]) (by rw [e_v16, e_a15]) (by have h9 := mul_at (n := 39) (m := 39) (hi := 38) (by decide) i_u50_49 e_v13 e_v14 i9 (by decide) (by decide) (by decide) (by decide); omega) (Nat.zero_add _).symm (k_inc1 e_v18 i9 (by decide)) (fun q => so_ne (hI.2.1.r1 g_y 45 145 (by decide) rfl) (hI.2.1.r1 g_y 49 149 (by decide) rfl) (by decide) q.1)) (by have h9 := (h_inc e_v18 i9 ki_1 (by decide) (by decide)); omega)
    refine lv_istore_n (lv' := [(1, .int (0 : Int32)), (0, .ref y)]) hx hb dX9_keepAct_50 rfl hl (by decide) rfl (fun ls hl => ?_)
    exact J51 40 M_49 (0 : Int32) H locs ls hI (lv_sub hl [1, 0] rfl) (e_u50_49) m_KV_49 (iv_w (lo' := 0) (hi' := 39) kc_0 (by decide) (by decide)) CPI_0 (by have h9 := kc_0; simp only [iv] at h9; omega)
  refine lv_icmp_ne (tgt := 49) hx hb dX9_keepAct_6 (by decide) (fun c20 => ?_) (fun c20 => ?_)
  · have i21 : iv v1 0 39 := iv_neH c20 i_v1 (by decide) (by decide)
    have un9 := hI.iv1 (a := y) (j := 51) (lo := 0) (hi := 40) (n := 67) g_y rfl (by decide) rfl
    exact J49 M v1 H locs ls hI hl m0_KV (e_v1) i21 (WVa_le m0_WV.1 (by rw [(e_v1)]; have h9 := un9.1; omega))
  · have i22 : iv v1 40 40 := iv_eq1 c20 i_v1 kc_40
    have un40 : (40 : Int) ≤ (M y 50).toInt + (M y 51).toInt := by have h8 := i22; have h7 := (hI.iv1 (a := y) (j := 51) (lo := 0) (hi := 40) (n := 67) g_y rfl (by decide) rfl).1; have h6 := (e_v1); rw [h6] at h8; simp only [iv] at h8; omega
    refine lv_iconst (v := 0) hx hb dX9_keepAct_9 (by decide) ?_
    have J11 : ∀ (n : Nat) (M_11 : hM) (v1_11 : Int32) (H : Heap) (locs : List Loc) (ls : Array Slot), kI D g σ e_h_keepAct_X9 M s.heap M_11 N R H locs → lv_has ls 2 [(0, .ref y), (1, .int v1_11)] → v1 = M_11 y 50 → KV M_11 R y → iv v1_11 0 1560 → CPI M M_11 (R y 49) 0 (R y 49) 39 v1_11.toNatClampNeg → 1561 ≤ v1_11.toInt + (n : Int) → W p l e (headSpec wsX9_keepAct ({ frames := 0, cells := 0, slots := 0, locals := 0 })).room s m ar below meth c H locs 0 0 Q (F0 m 11 ls []) := by
      intro n
      induction n with
      | zero => intro M_11 v1_11 H locs ls hI hl k0_11 m_KV_11 i_v1_11 hcp_11 hn; exfalso; have hz := i_v1_11; simp only [iv] at hz; omega
      | succ n ih11 =>
        intro M_11 v1_11 H locs ls hI hl k0_11 m_KV_11 i_v1_11 hcp_11 hn11
        refine lv_iload_n hx hb dX9_keepAct_11 rfl (lv_at hl 1 rfl) ?_
        refine lv_sipush (v := 1560) hx hb dX9_keepAct_12 (by decide) ?_
        refine lv_icmp_ge (tgt := 39) hx hb dX9_keepAct_15 (by decide) (fun c23 => ?_) (fun c23 => ?_)
        · have i24 : iv v1_11 1560 1560 := iv_le2 c23 kc_1560 i_v1_11 (by decide)
          refine lv_aload_n hx hb dX9_keepAct_39 rfl (lv_at hl 0 rfl) ?_
          refine lv_dup hx hb dX9_keepAct_40 rfl ?_
          refine h_geti (lo := 0) (hi := 40) hx hb hts iX9_keepAct_X9 hown hK hI g_y (by decide) rfl rfl 50 (by decide) rfl rfl (hts (.fieldLink RX9 398 "CatLeasesModel" "acts" "I") (List.mem_of_getElem? (i := 1) rfl)) (fun _ h9 => h9) dX9_keepAct_41 (fun v25 e_v25 i_v25 => ?_)
          have q26 : v1 = v25 := (k0_11).trans e_v25.symm
          subst q26
          refine lv_iconst (v := 1) hx hb dX9_keepAct_44 (by decide) ?_
          refine lv_isub hx hb dX9_keepAct_45 ?_
          refine h_nm (lo := 39) (hi := 39) (iv_sub i22 kc_1 (by decide) (by decide) (by decide) (by decide)) (fun v27 e_v27 i_v27 => ?_)
          refine h_puti hx hb hts iX9_keepAct_X9 tyX9 tyX9_ok nmX9 hown hK hI g_y (by decide) rfl rfl 50 (by decide) rfl (hts (.fieldLink RX9 398 "CatLeasesModel" "acts" "I") (List.mem_of_getElem? (i := 1) rfl)) (fun _ h9 => h9) rfl .int (by decide +kernel) rfl rfl (iv_w (lo' := 0) (hi' := 40) i_v27 (by decide) (by decide)) rfl dX9_keepAct_46 (fun M28 H locs e_M28 hI => ?_)
          have m29 : KV M28 R y := (KV_ag hI.2.1 g_y m_KV_11 (hAd.put e_M28 g_y rfl))
          exact J49 M28 v27 H locs ls hI (lv_sub hl [0] rfl) m29 ((u2_wr e_M28)) (iv_w (lo' := 0) (hi' := 39) i_v27 (by decide) (by decide)) (by have h9 := WVa_ag hI.2.1 g_y (WV_shift (cp_endn (n := 1560) hcp_11 i24) hI.2.1 g_y (show WVa M R y 40 from WVa_le m0_WV.1 (by have h9 := un40; omega))) (hAd.put e_M28 g_y rfl); exact WVa_le h9 (by have h8 := i_v27; simp only [iv] at h8; omega))
        · have i30 : iv v1_11 0 1559 := iv_nle2 c23 kc_1560 i_v1_11 (by decide)
          refine lv_aload_n hx hb dX9_keepAct_18 rfl (lv_at hl 0 rfl) ?_
          refine h_getr hx hb hts iX9_keepAct_X9 hown hK hI g_y (by decide) rfl rfl 49 (by decide) rfl 149 rfl (hts (.fieldLink RX9 106 "CatLeasesModel" "was" "[I") (List.mem_of_getElem? (i := 2) rfl)) (fun _ h9 => h9) dX9_keepAct_19 (fun a31 e_a31 g_a31 => ?_)
          refine lv_iload_n hx hb dX9_keepAct_22 rfl (lv_at hl 1 rfl) ?_
          refine lv_aload_n hx hb dX9_keepAct_23 rfl (lv_at hl 0 rfl) ?_
          refine h_getr hx hb hts iX9_keepAct_X9 hown hK hI g_y (by decide) rfl rfl 49 (by decide) rfl 149 rfl (hts (.fieldLink RX9 106 "CatLeasesModel" "was" "[I") (List.mem_of_getElem? (i := 2) rfl)) (fun _ h9 => h9) dX9_keepAct_24 (fun a32 e_a32 g_a32 => ?_)
          have q33 : a31 = a32 := (e_a31).trans e_a32.symm
          subst q33
          refine lv_iload_n hx hb dX9_keepAct_27 rfl (lv_at hl 1 rfl) ?_
          refine lv_bipush (v := 39) hx hb dX9_keepAct_28 (by decide) ?_
          refine lv_iadd hx hb dX9_keepAct_30 ?_
          refine h_nm (lo := 39) (hi := 1598) (iv_add i30 kc_39 (by decide) (by decide) (by decide) (by decide)) (fun v34 e_v34 i_v34 => ?_)
          refine h_iald (j := v34.toNatClampNeg) (lo := (-2147483648)) (hi := 2147483647) hx hb hK hI g_a31 (by decide) rfl (iv_in (n := 1599) i_v34 (by decide) (by decide)) rfl (iv_any _) dX9_keepAct_31 (fun v35 e_v35 i_v35 => ?_)
          refine h_iast (j := v1_11.toNatClampNeg) hx hb hK hI g_a31 (by decide) rfl (iv_in (n := 1599) i30 (by decide) (by decide)) rfl (iv_cp (s := 149) (s1 := 149) hI.2.1 g_a31 (in_lt (iv_in (n := 1599) i_v34 (by decide) (by decide))) e_v35 (by decide) (by decide) (by have h9 := add_at (n := 39) e_v34 i30 kc_39 (by decide); omega)) rfl dX9_keepAct_32 (fun M36 H locs e_M36 hI => ?_)
          obtain ⟨v37, e_v37⟩ : ∃ z : Int32, z = v1_11 + Int32.ofInt 1 := ⟨_, rfl⟩
          have i_v37 : iv v37 1 1560 := by rw [e_v37]; exact iv_add i30 (ki_1) (by decide) (by decide) (by decide) (by decide)
          refine lv_iinc (v := v37) (lv' := [(1, .int v37), (0, .ref y)]) hx hb dX9_keepAct_33 hl (k := 1) rfl e_v37.symm (by decide) rfl (fun ls hl => ?_)
          refine lv_goto (tgt := 11) hx hb dX9_keepAct_36 (by decide) ?_
          have m38 : KV M36 R y := (KV_ag hI.2.1 g_y m_KV_11 (hAd.put e_M36 g_a31 rfl))
          exact ih11 M36 v37 H locs ls hI (lv_sub hl [1, 0] rfl) ((k0_11).trans (u2_st (a := y) (k := 50) e_M36 (u2_a (so_ne g_y g_a31 (by decide)))).symm) m38 (iv_w (lo' := 0) (hi' := 1560) i_v37 (by decide) (by decide)) (CPI_step (v := v35) (ix := v1_11.toNatClampNeg) (iy := v34.toNatClampNeg) hcp_11 (by rw [e_M36, e_a31]) (by rw [e_v35, e_a31]) (Nat.zero_add _).symm (add_at (n := 39) e_v34 i30 kc_39 (by decide)) (k_inc1 e_v37 i30 (by decide)) (fun q => by omega)) (by have h9 := (h_inc e_v37 i30 ki_1 (by decide) (by decide)); omega)
    refine lv_istore_n (lv' := [(1, .int (0 : Int32)), (0, .ref y)]) hx hb dX9_keepAct_10 rfl hl (by decide) rfl (fun ls hl => ?_)
    exact J11 1561 M (0 : Int32) H locs ls hI (lv_sub hl [1, 0] rfl) (e_v1) m0_KV (iv_w (lo' := 0) (hi' := 1560) kc_0 (by decide) (by decide)) CPI_0 (by have h9 := kc_0; simp only [iv] at h9; omega)
