abbrev e_h_isLiving_X7 : List (Nat × Nat) := []
set_option maxHeartbeats 4000000 in
set_option maxRecDepth 100000 in
theorem h_isLiving_X7 (l : Launch) (D : va_G) (g : Nat → ClassId) (σ : Nat → Option Nat) (Z : State → Heap → Prop) (hZ0 : hZ σ Z) (M : hM) (N : hN) (R : hR) (a : Nat) (g_a : σ a = some 7) (p1 : Int32) : Met l yX7_isLiving wsX7_isLiving ({ frames := 0, cells := 0, slots := 0, locals := 0 }) (va_Pc [.ref a, .int p1] (hPre D g σ Z M N R)) (hQi D g σ e_h_isLiving_X7 M (fun (r : Int32) (M1 : hM) (N1 : hN) (R1 : hR) => M = M1 ∧ N = N1 ∧ R = R1 ∧ iv r 0 1)) 0 0 (hA σ) := by
  refine h_head (cc := cX7_isLiving) (maxL := 2) (ret := (some .boolean)) (by decide) rfl (Nat.le_of_ble_eq_true rfl) e_h_isLiving_X7 ?_
  intro p e s m below meth c ls Q ar hQ hx hb hr hlocks hml hown hts hK hE H locs hI hl
  have hown : s.vm.findClass RX7 = some m.cls := hown
  have hl : lv_has ls 2 [(0, .ref a), (1, .int p1)] := hl
  refine lv_aload_n hx hb dX7_isLiving_0 rfl (lv_at hl 0 rfl) ?_
  refine h_geti (lo := (-2147483648)) (hi := 2147483647) hx hb hts iX7_isLiving_X7 hown hK hI g_a (by decide) rfl rfl 5 (by decide) rfl rfl (hts (.fieldLink RX7 27 "CatLeases$State" "living" "I") (List.mem_of_getElem? (i := 1) rfl)) (fun _ h9 => h9) dX7_isLiving_1 (fun v1 e_v1 i_v1 => ?_)
  refine lv_iload_n hx hb dX7_isLiving_4 rfl (lv_at hl 1 rfl) ?_
  refine lv_ishr hx hb dX7_isLiving_5 ?_
  refine h_nm (lo := (-2147483648)) (hi := 2147483647) (iv_any _) (fun v2 e_v2 i_v2 => ?_)
  refine lv_iconst (v := 1) hx hb dX7_isLiving_6 (by decide) ?_
  refine lv_iand hx hb dX7_isLiving_7 ?_
  refine h_nm (lo := 0) (hi := 1) (iv_and 1 (by decide) (by decide) (by decide)) (fun v3 e_v3 i_v3 => ?_)
  refine lv_if_eq (tgt := 15) hx hb dX7_isLiving_8 (by decide) (fun c4 => ?_) (fun c4 => ?_)
  · have i5 : iv v3 0 0 := iv_eq1 c4 i_v3 kc_0
    refine lv_iconst (v := 0) hx hb dX7_isLiving_15 (by decide) ?_
    exact h_iret hQ hx hb hr hlocks rfl hK hI ⟨rfl, rfl, rfl, (iv_w (lo' := 0) (hi' := 1) kc_0 (by decide) (by decide))⟩ dX7_isLiving_16
  · have i6 : iv v3 1 1 := iv_neL c4 i_v3 (by decide) (by decide)
    refine lv_iconst (v := 1) hx hb dX7_isLiving_11 (by decide) ?_
    refine lv_goto (tgt := 16) hx hb dX7_isLiving_12 (by decide) ?_
    exact h_iret hQ hx hb hr hlocks rfl hK hI ⟨rfl, rfl, rfl, (iv_w (lo' := 0) (hi' := 1) kc_1 (by decide) (by decide))⟩ dX7_isLiving_16
abbrev e_h_isKept_X7 : List (Nat × Nat) := []
set_option maxHeartbeats 4000000 in
set_option maxRecDepth 100000 in
theorem h_isKept_X7 (l : Launch) (D : va_G) (g : Nat → ClassId) (σ : Nat → Option Nat) (Z : State → Heap → Prop) (hZ0 : hZ σ Z) (M : hM) (N : hN) (R : hR) (a : Nat) (g_a : σ a = some 7) (p1 : Int32) : Met l yX7_isKept wsX7_isKept ({ frames := 0, cells := 0, slots := 0, locals := 0 }) (va_Pc [.ref a, .int p1] (hPre D g σ Z M N R)) (hQi D g σ e_h_isKept_X7 M (fun (r : Int32) (M1 : hM) (N1 : hN) (R1 : hR) => M = M1 ∧ N = N1 ∧ R = R1 ∧ iv r 0 1 ∧ (¬ r = 0 → iv p1 0 7) ∧ (¬ r = 0 → iv (M (R a 0) p1.toNatClampNeg) 0 5))) 0 0 (hA σ) := by
  refine h_head (cc := cX7_isKept) (maxL := 2) (ret := (some .boolean)) (by decide) rfl (Nat.le_of_ble_eq_true rfl) e_h_isKept_X7 ?_
  intro p e s m below meth c ls Q ar hQ hx hb hr hlocks hml hown hts hK hE H locs hI hl
  have hown : s.vm.findClass RX7 = some m.cls := hown
  have hl : lv_has ls 2 [(0, .ref a), (1, .int p1)] := hl
  refine lv_iload_n hx hb dX7_isKept_0 rfl (lv_at hl 1 rfl) ?_
  refine lv_if_lt (tgt := 27) hx hb dX7_isKept_1 (by decide) (fun c1 => ?_) (fun c1 => ?_)
  · have i2 : iv p1 (-2147483648) (-1) := iv_lt1 c1 (iv_any p1) kc_0 (by decide)
    refine lv_iconst (v := 0) hx hb dX7_isKept_27 (by decide) ?_
    exact h_iret hQ hx hb hr hlocks rfl hK hI ⟨rfl, rfl, rfl, (iv_w (lo' := 0) (hi' := 1) kc_0 (by decide) (by decide)), (fun h9 => absurd rfl h9), (fun h9 => absurd rfl h9)⟩ dX7_isKept_28
  · have i3 : iv p1 0 2147483647 := iv_nlt1 c1 (iv_any p1) kc_0 (by decide)
    refine lv_iload_n hx hb dX7_isKept_4 rfl (lv_at hl 1 rfl) ?_
    refine lv_aload_n hx hb dX7_isKept_5 rfl (lv_at hl 0 rfl) ?_
    refine h_getr hx hb hts iX7_isKept_X7 hown hK hI g_a (by decide) rfl rfl 0 (by decide) rfl 12 rfl (hts (.fieldLink RX7 9 "CatLeases$State" "keepers" "[I") (List.mem_of_getElem? (i := 1) rfl)) (fun _ h9 => h9) dX7_isKept_6 (fun a4 e_a4 g_a4 => ?_)
    refine h_alen (v := 8) hx hb hK hI g_a4 (by decide) rfl (by decide) (by decide) dX7_isKept_9 ?_
    refine lv_icmp_ge (tgt := 27) hx hb dX7_isKept_10 (by decide) (fun c5 => ?_) (fun c5 => ?_)
    · have i6 : iv p1 8 2147483647 := iv_le2 c5 kc_8 i3 (by decide)
      refine lv_iconst (v := 0) hx hb dX7_isKept_27 (by decide) ?_
      exact h_iret hQ hx hb hr hlocks rfl hK hI ⟨rfl, rfl, rfl, (iv_w (lo' := 0) (hi' := 1) kc_0 (by decide) (by decide)), (fun h9 => absurd rfl h9), (fun h9 => absurd rfl h9)⟩ dX7_isKept_28
    · have i7 : iv p1 0 7 := iv_nle2 c5 kc_8 i3 (by decide)
      refine lv_aload_n hx hb dX7_isKept_13 rfl (lv_at hl 0 rfl) ?_
      refine h_getr hx hb hts iX7_isKept_X7 hown hK hI g_a (by decide) rfl rfl 0 (by decide) rfl 12 rfl (hts (.fieldLink RX7 9 "CatLeases$State" "keepers" "[I") (List.mem_of_getElem? (i := 1) rfl)) (fun _ h9 => h9) dX7_isKept_14 (fun a8 e_a8 g_a8 => ?_)
      have q9 : a4 = a8 := (e_a4).trans e_a8.symm
      subst q9
      refine lv_iload_n hx hb dX7_isKept_17 rfl (lv_at hl 1 rfl) ?_
      refine h_iald (j := p1.toNatClampNeg) (lo := (-1)) (hi := 5) hx hb hK hI g_a4 (by decide) rfl (iv_in (n := 8) i7 (by decide) (by decide)) rfl (hI.iv1 (n := 8) g_a4 rfl (in_lt (iv_in (n := 8) i7 (by decide) (by decide))) rfl) dX7_isKept_18 (fun v10 e_v10 i_v10 => ?_)
      refine lv_iconst (v := (-1)) hx hb dX7_isKept_19 (by decide) ?_
      refine lv_icmp_eq (tgt := 27) hx hb dX7_isKept_20 (by decide) (fun c11 => ?_) (fun c11 => ?_)
      · have i12 : iv v10 (-1) (-1) := iv_eq1 c11 i_v10 kc_m1
        refine lv_iconst (v := 0) hx hb dX7_isKept_27 (by decide) ?_
        exact h_iret hQ hx hb hr hlocks rfl hK hI ⟨rfl, rfl, rfl, (iv_w (lo' := 0) (hi' := 1) kc_0 (by decide) (by decide)), (fun h9 => absurd rfl h9), (fun h9 => absurd rfl h9)⟩ dX7_isKept_28
      · have i13 : iv v10 0 5 := iv_neL c11 i_v10 (by decide) (by decide)
        refine lv_iconst (v := 1) hx hb dX7_isKept_23 (by decide) ?_
        refine lv_goto (tgt := 28) hx hb dX7_isKept_24 (by decide) ?_
        exact h_iret hQ hx hb hr hlocks rfl hK hI ⟨rfl, rfl, rfl, (iv_w (lo' := 0) (hi' := 1) kc_1 (by decide) (by decide)), (fun _ => i7), (fun _ => by rw [← e_a4, ← e_v10]; exact i13)⟩ dX7_isKept_28
abbrev e_h_roomCount_X7 : List (Nat × Nat) := []
set_option maxHeartbeats 4000000 in
set_option maxRecDepth 100000 in
theorem h_roomCount_X7 (l : Launch) (D : va_G) (g : Nat → ClassId) (σ : Nat → Option Nat) (Z : State → Heap → Prop) (hZ0 : hZ σ Z) (M : hM) (N : hN) (R : hR) (a : Nat) (g_a : σ a = some 7) (p1 : Int32) : Met l yX7_roomCount wsX7_roomCount ({ frames := 0, cells := 0, slots := 0, locals := 0 }) (va_Pc [.ref a, .int p1] (hPre D g σ Z M N R)) (hQi D g σ e_h_roomCount_X7 M (fun (r : Int32) (M1 : hM) (N1 : hN) (R1 : hR) => M = M1 ∧ N = N1 ∧ R = R1)) 0 0 (hA σ) := by
  refine h_head (cc := cX7_roomCount) (maxL := 4) (ret := (some .int)) (by decide) rfl (Nat.le_of_ble_eq_true rfl) e_h_roomCount_X7 ?_
  intro p e s m below meth c ls Q ar hQ hx hb hr hlocks hml hown hts hK hE H locs hI hl
  have hown : s.vm.findClass RX7 = some m.cls := hown
  have hl : lv_has ls 4 [(0, .ref a), (1, .int p1)] := hl
  refine lv_iconst (v := 0) hx hb dX7_roomCount_0 (by decide) ?_
  refine lv_istore_n (lv' := [(2, .int (0 : Int32)), (0, .ref a), (1, .int p1)]) hx hb dX7_roomCount_1 rfl hl (by decide) rfl (fun ls hl => ?_)
  refine lv_iconst (v := 0) hx hb dX7_roomCount_2 (by decide) ?_
  have J4 : ∀ (n : Nat) (v2_4 : Int32) (v3_4 : Int32) (H : Heap) (locs : List Loc) (ls : Array Slot), kI D g σ e_h_roomCount_X7 M s.heap M N R H locs → lv_has ls 4 [(0, .ref a), (1, .int p1), (2, .int v2_4), (3, .int v3_4)] → iv v3_4 0 8 → 9 ≤ v3_4.toInt + (n : Int) → W p l e (headSpec wsX7_roomCount ({ frames := 0, cells := 0, slots := 0, locals := 0 })).room s m ar below meth c H locs 0 0 Q (F0 m 4 ls []) := by
    intro n
    induction n with
    | zero => intro v2_4 v3_4 H locs ls hI hl i_v3_4 hn; exfalso; have hz := i_v3_4; simp only [iv] at hz; omega
    | succ n ih4 =>
      intro v2_4 v3_4 H locs ls hI hl i_v3_4 hn4
      refine lv_iload_n hx hb dX7_roomCount_4 rfl (lv_at hl 3 rfl) ?_
      refine lv_aload_n hx hb dX7_roomCount_5 rfl (lv_at hl 0 rfl) ?_
      refine h_getr hx hb hts iX7_roomCount_X7 hown hK hI g_a (by decide) rfl rfl 0 (by decide) rfl 12 rfl (hts (.fieldLink RX7 9 "CatLeases$State" "keepers" "[I") (List.mem_of_getElem? (i := 1) rfl)) (fun _ h9 => h9) dX7_roomCount_6 (fun a1 e_a1 g_a1 => ?_)
      refine h_alen (v := 8) hx hb hK hI g_a1 (by decide) rfl (by decide) (by decide) dX7_roomCount_9 ?_
      refine lv_icmp_ge (tgt := 32) hx hb dX7_roomCount_10 (by decide) (fun c2 => ?_) (fun c2 => ?_)
      · have i3 : iv v3_4 8 8 := iv_le2 c2 kc_8 i_v3_4 (by decide)
        refine lv_iload_n hx hb dX7_roomCount_32 rfl (lv_at hl 2 rfl) ?_
        exact h_iret hQ hx hb hr hlocks rfl hK hI ⟨rfl, rfl, rfl⟩ dX7_roomCount_33
      · have i4 : iv v3_4 0 7 := iv_nle2 c2 kc_8 i_v3_4 (by decide)
        refine lv_aload_n hx hb dX7_roomCount_13 rfl (lv_at hl 0 rfl) ?_
        refine h_getr hx hb hts iX7_roomCount_X7 hown hK hI g_a (by decide) rfl rfl 0 (by decide) rfl 12 rfl (hts (.fieldLink RX7 9 "CatLeases$State" "keepers" "[I") (List.mem_of_getElem? (i := 1) rfl)) (fun _ h9 => h9) dX7_roomCount_14 (fun a5 e_a5 g_a5 => ?_)
        have q6 : a1 = a5 := (e_a1).trans e_a5.symm
        subst q6
        refine lv_iload_n hx hb dX7_roomCount_17 rfl (lv_at hl 3 rfl) ?_
        refine h_iald (j := v3_4.toNatClampNeg) (lo := (-1)) (hi := 5) hx hb hK hI g_a1 (by decide) rfl (iv_in (n := 8) i4 (by decide) (by decide)) rfl (hI.iv1 (n := 8) g_a1 rfl (in_lt (iv_in (n := 8) i4 (by decide) (by decide))) rfl) dX7_roomCount_18 (fun v7 e_v7 i_v7 => ?_)
        refine lv_iload_n hx hb dX7_roomCount_19 rfl (lv_at hl 1 rfl) ?_
        have J26 : ∀ (v2_26 : Int32) (H : Heap) (locs : List Loc) (ls : Array Slot), kI D g σ e_h_roomCount_X7 M s.heap M N R H locs → lv_has ls 4 [(0, .ref a), (1, .int p1), (2, .int v2_26), (3, .int v3_4)] → W p l e (headSpec wsX7_roomCount ({ frames := 0, cells := 0, slots := 0, locals := 0 })).room s m ar below meth c H locs 0 0 Q (F0 m 26 ls []) := by
          intro v2_26 H locs ls hI hl
          obtain ⟨v8, e_v8⟩ : ∃ z : Int32, z = v3_4 + Int32.ofInt 1 := ⟨_, rfl⟩
          have i_v8 : iv v8 1 8 := by rw [e_v8]; exact iv_add i4 (ki_1) (by decide) (by decide) (by decide) (by decide)
          refine lv_iinc (v := v8) (lv' := [(3, .int v8), (0, .ref a), (1, .int p1), (2, .int v2_26)]) hx hb dX7_roomCount_26 hl (k := 3) rfl e_v8.symm (by decide) rfl (fun ls hl => ?_)
          refine lv_goto (tgt := 4) hx hb dX7_roomCount_29 (by decide) ?_
          exact ih4 v2_26 v8 H locs ls hI (lv_sub hl [1, 2, 3, 0] rfl) (iv_w (lo' := 0) (hi' := 8) i_v8 (by decide) (by decide)) (by have h9 := (h_inc e_v8 i4 ki_1 (by decide) (by decide)); omega)
        refine lv_icmp_ne (tgt := 26) hx hb dX7_roomCount_20 (by decide) (fun c9 => ?_) (fun c9 => ?_)
        · exact J26 v2_4 H locs ls hI hl
        · have i10 : iv p1 (-1) 5 := iv_eq2 c9 i_v7 (iv_any p1)
          obtain ⟨v11, e_v11⟩ : ∃ z : Int32, z = v2_4 + Int32.ofInt 1 := ⟨_, rfl⟩
          refine lv_iinc (v := v11) (lv' := [(2, .int v11), (0, .ref a), (1, .int p1), (3, .int v3_4)]) hx hb dX7_roomCount_23 hl (k := 2) rfl e_v11.symm (by decide) rfl (fun ls hl => ?_)
          exact J26 v11 H locs ls hI (lv_sub hl [1, 2, 0, 3] rfl)
  refine lv_istore_n (lv' := [(3, .int (0 : Int32)), (2, .int (0 : Int32)), (0, .ref a), (1, .int p1)]) hx hb dX7_roomCount_3 rfl hl (by decide) rfl (fun ls hl => ?_)
  exact J4 9 (0 : Int32) (0 : Int32) H locs ls hI (lv_sub hl [2, 3, 1, 0] rfl) (iv_w (lo' := 0) (hi' := 8) kc_0 (by decide) (by decide)) (by have h9 := kc_0; simp only [iv] at h9; omega)
abbrev e_h_place_X7 : List (Nat × Nat) := [(13, 999), (14, 999)]
set_option maxHeartbeats 4000000 in
set_option maxRecDepth 100000 in
theorem h_place_X7 (l : Launch) (D : va_G) (g : Nat → ClassId) (σ : Nat → Option Nat) (Z : State → Heap → Prop) (hZ0 : hZ σ Z) (M : hM) (N : hN) (R : hR) (a : Nat) (g_a : σ a = some 7) (p1 : Int32) (p2 : Int32) (h_p2 : iv p2 (-1) 7) : Met l yX7_place wsX7_place ({ frames := 0, cells := 0, slots := 0, locals := 0 }) (va_Pc [.ref a, .int p1, .int p2] (hPre D g σ Z M N R)) (hQv D g σ e_h_place_X7 M (fun (M1 : hM) (N1 : hN) (R1 : hR) => N = N1 ∧ R = R1)) 0 0 (hA σ) := by
  refine h_head (cc := cX7_place) (maxL := 3) (ret := none) (by decide) rfl (Nat.le_of_ble_eq_true rfl) e_h_place_X7 ?_
  intro p e s m below meth c ls Q ar hQ hx hb hr hlocks hml hown hts hK hE H locs hI hl
  have hown : s.vm.findClass RX7 = some m.cls := hown
  have hl : lv_has ls 3 [(0, .ref a), (1, .int p1), (2, .int p2)] := hl
  refine lv_iload_n hx hb dX7_place_0 rfl (lv_at hl 1 rfl) ?_
  refine lv_if_lt (tgt := 27) hx hb dX7_place_1 (by decide) (fun c1 => ?_) (fun c1 => ?_)
  · have i2 : iv p1 (-2147483648) (-1) := iv_lt1 c1 (iv_any p1) kc_0 (by decide)
    exact h_vret hQ hx hb hr hlocks hK hI ⟨rfl, rfl⟩ dX7_place_27
  · have i3 : iv p1 0 2147483647 := iv_nlt1 c1 (iv_any p1) kc_0 (by decide)
    refine lv_iload_n hx hb dX7_place_4 rfl (lv_at hl 1 rfl) ?_
    refine lv_aload_n hx hb dX7_place_5 rfl (lv_at hl 0 rfl) ?_
    refine h_getr hx hb hts iX7_place_X7 hown hK hI g_a (by decide) rfl rfl 1 (by decide) rfl 13 rfl (hts (.fieldLink RX7 15 "CatLeases$State" "places" "[I") (List.mem_of_getElem? (i := 1) rfl)) (fun _ h9 => h9) dX7_place_6 (fun a4 e_a4 g_a4 => ?_)
    refine h_alen (v := 7) hx hb hK hI g_a4 (by decide) rfl (by decide) (by decide) dX7_place_9 ?_
    refine lv_icmp_ge (tgt := 27) hx hb dX7_place_10 (by decide) (fun c5 => ?_) (fun c5 => ?_)
    · have i6 : iv p1 7 2147483647 := iv_le2 c5 kc_7 i3 (by decide)
      exact h_vret hQ hx hb hr hlocks hK hI ⟨rfl, rfl⟩ dX7_place_27
    · have i7 : iv p1 0 6 := iv_nle2 c5 kc_7 i3 (by decide)
      refine lv_aload_n hx hb dX7_place_13 rfl (lv_at hl 0 rfl) ?_
      refine h_getr hx hb hts iX7_place_X7 hown hK hI g_a (by decide) rfl rfl 1 (by decide) rfl 13 rfl (hts (.fieldLink RX7 15 "CatLeases$State" "places" "[I") (List.mem_of_getElem? (i := 1) rfl)) (fun _ h9 => h9) dX7_place_14 (fun a8 e_a8 g_a8 => ?_)
      have q9 : a4 = a8 := (e_a4).trans e_a8.symm
      subst q9
      refine lv_iload_n hx hb dX7_place_17 rfl (lv_at hl 1 rfl) ?_
      refine lv_iload_n hx hb dX7_place_18 rfl (lv_at hl 2 rfl) ?_
      refine h_iast (j := p1.toNatClampNeg) hx hb hK hI g_a4 (by decide) rfl (iv_in (n := 7) i7 (by decide) (by decide)) rfl h_p2 rfl dX7_place_19 (fun M10 H locs e_M10 hI => ?_)
      refine lv_aload_n hx hb dX7_place_20 rfl (lv_at hl 0 rfl) ?_
      refine h_getr hx hb hts iX7_place_X7 hown hK hI g_a (by decide) rfl rfl 2 (by decide) rfl 14 rfl (hts (.fieldLink RX7 18 "CatLeases$State" "stays" "[I") (List.mem_of_getElem? (i := 2) rfl)) (fun _ h9 => h9) dX7_place_21 (fun a11 e_a11 g_a11 => ?_)
      refine lv_iload_n hx hb dX7_place_24 rfl (lv_at hl 1 rfl) ?_
      refine lv_iconst (v := 0) hx hb dX7_place_25 (by decide) ?_
      refine h_iast (j := p1.toNatClampNeg) hx hb hK hI g_a11 (by decide) rfl (iv_in (n := 7) i7 (by decide) (by decide)) rfl (iv_any _) rfl dX7_place_26 (fun M12 H locs e_M12 hI => ?_)
      exact h_vret hQ hx hb hr hlocks hK hI ⟨rfl, rfl⟩ dX7_place_27
abbrev e_h_copyOf_X7 : List (Nat × Nat) := [(7, 5), (7, 6), (7, 7), (12, 999), (13, 999), (14, 999)]
set_option maxHeartbeats 4000000 in
set_option maxRecDepth 100000 in
theorem h_copyOf_X7 (l : Launch) (D : va_G) (g : Nat → ClassId) (σ : Nat → Option Nat) (Z : State → Heap → Prop) (hZ0 : hZ σ Z) (M : hM) (N : hN) (R : hR) (a : Nat) (g_a : σ a = some 7) (b : Nat) (g_b : σ b = some 7) : Met l yX7_copyOf wsX7_copyOf ({ frames := 1, cells := 0, slots := 0, locals := 40 }) (va_Pc [.ref a, .ref b] (hPre D g σ Z M N R)) (hQv D g σ e_h_copyOf_X7 M (fun (M1 : hM) (N1 : hN) (R1 : hR) => N = N1 ∧ R = R1)) 0 0 (hA σ) := by
  refine h_head (cc := cX7_copyOf) (maxL := 2) (ret := none) (by decide) rfl (Nat.le_of_ble_eq_true rfl) e_h_copyOf_X7 ?_
  intro p e s m below meth c ls Q ar hQ hx hb hr hlocks hml hown hts hK hE H locs hI hl
  have hown : s.vm.findClass RX7 = some m.cls := hown
  have hl : lv_has ls 2 [(0, .ref a), (1, .ref b)] := hl
  refine lv_aload_n hx hb dX7_copyOf_0 rfl (lv_at hl 1 rfl) ?_
  refine h_getr hx hb hts iX7_copyOf_X7 hown hK hI g_b (by decide) rfl rfl 0 (by decide) rfl 12 rfl (hts (.fieldLink RX7 9 "CatLeases$State" "keepers" "[I") (List.mem_of_getElem? (i := 1) rfl)) (fun _ h9 => h9) dX7_copyOf_1 (fun a1 e_a1 g_a1 => ?_)
  refine lv_iconst (v := 0) hx hb dX7_copyOf_4 (by decide) ?_
  refine lv_aload_n hx hb dX7_copyOf_5 rfl (lv_at hl 0 rfl) ?_
  refine h_getr hx hb hts iX7_copyOf_X7 hown hK hI g_a (by decide) rfl rfl 0 (by decide) rfl 12 rfl (hts (.fieldLink RX7 9 "CatLeases$State" "keepers" "[I") (List.mem_of_getElem? (i := 1) rfl)) (fun _ h9 => h9) dX7_copyOf_6 (fun a2 e_a2 g_a2 => ?_)
  refine lv_iconst (v := 0) hx hb dX7_copyOf_9 (by decide) ?_
  refine lv_bipush (v := 8) hx hb dX7_copyOf_10 (by decide) ?_
  refine h_copy hx hb (hml.trans hl.1.symm) hown (hts (.methodLink RX7 43 arraycopyName) (List.mem_of_getElem? (i := 2) rfl)) (hts (.native arraycopyName) (List.mem_of_getElem? (i := 3) rfl)) (hts (.static arraycopyName) (List.mem_of_getElem? (i := 4) rfl)) (hts (.initialized "java/lang/System") (List.mem_of_getElem? (i := 5) rfl)) hK hI g_a1 g_a2 (by decide) rfl rfl rfl (by decide) (by decide) (fun _ _ => rfl) (Nat.le_of_ble_eq_true rfl) (Nat.le_of_ble_eq_true rfl) dX7_copyOf_12 (fun M3 H locs e_M3 hI => ?_)
  refine lv_aload_n hx hb dX7_copyOf_15 rfl (lv_at hl 1 rfl) ?_
  refine h_getr hx hb hts iX7_copyOf_X7 hown hK hI g_b (by decide) rfl rfl 1 (by decide) rfl 13 rfl (hts (.fieldLink RX7 15 "CatLeases$State" "places" "[I") (List.mem_of_getElem? (i := 6) rfl)) (fun _ h9 => h9) dX7_copyOf_16 (fun a4 e_a4 g_a4 => ?_)
  refine lv_iconst (v := 0) hx hb dX7_copyOf_19 (by decide) ?_
  refine lv_aload_n hx hb dX7_copyOf_20 rfl (lv_at hl 0 rfl) ?_
  refine h_getr hx hb hts iX7_copyOf_X7 hown hK hI g_a (by decide) rfl rfl 1 (by decide) rfl 13 rfl (hts (.fieldLink RX7 15 "CatLeases$State" "places" "[I") (List.mem_of_getElem? (i := 6) rfl)) (fun _ h9 => h9) dX7_copyOf_21 (fun a5 e_a5 g_a5 => ?_)
  refine lv_iconst (v := 0) hx hb dX7_copyOf_24 (by decide) ?_
  refine lv_bipush (v := 7) hx hb dX7_copyOf_25 (by decide) ?_
  refine h_copy hx hb (hml.trans hl.1.symm) hown (hts (.methodLink RX7 43 arraycopyName) (List.mem_of_getElem? (i := 2) rfl)) (hts (.native arraycopyName) (List.mem_of_getElem? (i := 3) rfl)) (hts (.static arraycopyName) (List.mem_of_getElem? (i := 4) rfl)) (hts (.initialized "java/lang/System") (List.mem_of_getElem? (i := 5) rfl)) hK hI g_a4 g_a5 (by decide) rfl rfl rfl (by decide) (by decide) (fun _ _ => rfl) (Nat.le_of_ble_eq_true rfl) (Nat.le_of_ble_eq_true rfl) dX7_copyOf_27 (fun M6 H locs e_M6 hI => ?_)
  refine lv_aload_n hx hb dX7_copyOf_30 rfl (lv_at hl 1 rfl) ?_
  refine h_getr hx hb hts iX7_copyOf_X7 hown hK hI g_b (by decide) rfl rfl 2 (by decide) rfl 14 rfl (hts (.fieldLink RX7 18 "CatLeases$State" "stays" "[I") (List.mem_of_getElem? (i := 7) rfl)) (fun _ h9 => h9) dX7_copyOf_31 (fun a7 e_a7 g_a7 => ?_)
  refine lv_iconst (v := 0) hx hb dX7_copyOf_34 (by decide) ?_
  refine lv_aload_n hx hb dX7_copyOf_35 rfl (lv_at hl 0 rfl) ?_
  refine h_getr hx hb hts iX7_copyOf_X7 hown hK hI g_a (by decide) rfl rfl 2 (by decide) rfl 14 rfl (hts (.fieldLink RX7 18 "CatLeases$State" "stays" "[I") (List.mem_of_getElem? (i := 7) rfl)) (fun _ h9 => h9) dX7_copyOf_36 (fun a8 e_a8 g_a8 => ?_)
  refine lv_iconst (v := 0) hx hb dX7_copyOf_39 (by decide) ?_
  refine lv_bipush (v := 7) hx hb dX7_copyOf_40 (by decide) ?_
  refine h_copy hx hb (hml.trans hl.1.symm) hown (hts (.methodLink RX7 43 arraycopyName) (List.mem_of_getElem? (i := 2) rfl)) (hts (.native arraycopyName) (List.mem_of_getElem? (i := 3) rfl)) (hts (.static arraycopyName) (List.mem_of_getElem? (i := 4) rfl)) (hts (.initialized "java/lang/System") (List.mem_of_getElem? (i := 5) rfl)) hK hI g_a7 g_a8 (by decide) rfl rfl rfl (by decide) (by decide) (fun _ _ => rfl) (Nat.le_of_ble_eq_true rfl) (Nat.le_of_ble_eq_true rfl) dX7_copyOf_42 (fun M9 H locs e_M9 hI => ?_)
  refine lv_aload_n hx hb dX7_copyOf_45 rfl (lv_at hl 1 rfl) ?_
  refine h_getr hx hb hts iX7_copyOf_X7 hown hK hI g_b (by decide) rfl rfl 3 (by decide) rfl 14 rfl (hts (.fieldLink RX7 21 "CatLeases$State" "hours" "[I") (List.mem_of_getElem? (i := 8) rfl)) (fun _ h9 => h9) dX7_copyOf_46 (fun a10 e_a10 g_a10 => ?_)
  refine lv_iconst (v := 0) hx hb dX7_copyOf_49 (by decide) ?_
  refine lv_aload_n hx hb dX7_copyOf_50 rfl (lv_at hl 0 rfl) ?_
  refine h_getr hx hb hts iX7_copyOf_X7 hown hK hI g_a (by decide) rfl rfl 3 (by decide) rfl 14 rfl (hts (.fieldLink RX7 21 "CatLeases$State" "hours" "[I") (List.mem_of_getElem? (i := 8) rfl)) (fun _ h9 => h9) dX7_copyOf_51 (fun a11 e_a11 g_a11 => ?_)
  refine lv_iconst (v := 0) hx hb dX7_copyOf_54 (by decide) ?_
  refine lv_bipush (v := 7) hx hb dX7_copyOf_55 (by decide) ?_
  refine h_copy hx hb (hml.trans hl.1.symm) hown (hts (.methodLink RX7 43 arraycopyName) (List.mem_of_getElem? (i := 2) rfl)) (hts (.native arraycopyName) (List.mem_of_getElem? (i := 3) rfl)) (hts (.static arraycopyName) (List.mem_of_getElem? (i := 4) rfl)) (hts (.initialized "java/lang/System") (List.mem_of_getElem? (i := 5) rfl)) hK hI g_a10 g_a11 (by decide) rfl rfl rfl (by decide) (by decide) (fun _ _ => rfl) (Nat.le_of_ble_eq_true rfl) (Nat.le_of_ble_eq_true rfl) dX7_copyOf_57 (fun M12 H locs e_M12 hI => ?_)
  refine lv_aload_n hx hb dX7_copyOf_60 rfl (lv_at hl 1 rfl) ?_
  refine h_getr hx hb hts iX7_copyOf_X7 hown hK hI g_b (by decide) rfl rfl 4 (by decide) rfl 14 rfl (hts (.fieldLink RX7 24 "CatLeases$State" "fidgets" "[I") (List.mem_of_getElem? (i := 9) rfl)) (fun _ h9 => h9) dX7_copyOf_61 (fun a13 e_a13 g_a13 => ?_)
  refine lv_iconst (v := 0) hx hb dX7_copyOf_64 (by decide) ?_
  refine lv_aload_n hx hb dX7_copyOf_65 rfl (lv_at hl 0 rfl) ?_
  refine h_getr hx hb hts iX7_copyOf_X7 hown hK hI g_a (by decide) rfl rfl 4 (by decide) rfl 14 rfl (hts (.fieldLink RX7 24 "CatLeases$State" "fidgets" "[I") (List.mem_of_getElem? (i := 9) rfl)) (fun _ h9 => h9) dX7_copyOf_66 (fun a14 e_a14 g_a14 => ?_)
  refine lv_iconst (v := 0) hx hb dX7_copyOf_69 (by decide) ?_
  refine lv_bipush (v := 7) hx hb dX7_copyOf_70 (by decide) ?_
  refine h_copy hx hb (hml.trans hl.1.symm) hown (hts (.methodLink RX7 43 arraycopyName) (List.mem_of_getElem? (i := 2) rfl)) (hts (.native arraycopyName) (List.mem_of_getElem? (i := 3) rfl)) (hts (.static arraycopyName) (List.mem_of_getElem? (i := 4) rfl)) (hts (.initialized "java/lang/System") (List.mem_of_getElem? (i := 5) rfl)) hK hI g_a13 g_a14 (by decide) rfl rfl rfl (by decide) (by decide) (fun _ _ => rfl) (Nat.le_of_ble_eq_true rfl) (Nat.le_of_ble_eq_true rfl) dX7_copyOf_72 (fun M15 H locs e_M15 hI => ?_)
  refine lv_aload_n hx hb dX7_copyOf_75 rfl (lv_at hl 0 rfl) ?_
  refine lv_aload_n hx hb dX7_copyOf_76 rfl (lv_at hl 1 rfl) ?_
  refine h_geti (lo := (-2147483648)) (hi := 2147483647) hx hb hts iX7_copyOf_X7 hown hK hI g_b (by decide) rfl rfl 5 (by decide) rfl rfl (hts (.fieldLink RX7 27 "CatLeases$State" "living" "I") (List.mem_of_getElem? (i := 10) rfl)) (fun _ h9 => h9) dX7_copyOf_77 (fun v16 e_v16 i_v16 => ?_)
  refine h_puti hx hb hts iX7_copyOf_X7 tyX7 tyX7_ok nmX7 hown hK hI g_a (by decide) rfl rfl 5 (by decide) rfl (hts (.fieldLink RX7 27 "CatLeases$State" "living" "I") (List.mem_of_getElem? (i := 10) rfl)) (fun _ h9 => h9) rfl .int (by decide +kernel) rfl rfl i_v16 rfl dX7_copyOf_80 (fun M17 H locs e_M17 hI => ?_)
  refine lv_aload_n hx hb dX7_copyOf_83 rfl (lv_at hl 0 rfl) ?_
  refine lv_aload_n hx hb dX7_copyOf_84 rfl (lv_at hl 1 rfl) ?_
  refine h_geti (lo := (-2147483648)) (hi := 2147483647) hx hb hts iX7_copyOf_X7 hown hK hI g_b (by decide) rfl rfl 6 (by decide) rfl rfl (hts (.fieldLink RX7 31 "CatLeases$State" "quarters" "I") (List.mem_of_getElem? (i := 11) rfl)) (fun _ h9 => h9) dX7_copyOf_85 (fun v18 e_v18 i_v18 => ?_)
  refine h_puti hx hb hts iX7_copyOf_X7 tyX7 tyX7_ok nmX7 hown hK hI g_a (by decide) rfl rfl 6 (by decide) rfl (hts (.fieldLink RX7 31 "CatLeases$State" "quarters" "I") (List.mem_of_getElem? (i := 11) rfl)) (fun _ h9 => h9) rfl .int (by decide +kernel) rfl rfl i_v18 rfl dX7_copyOf_88 (fun M19 H locs e_M19 hI => ?_)
  refine lv_aload_n hx hb dX7_copyOf_91 rfl (lv_at hl 0 rfl) ?_
  refine lv_aload_n hx hb dX7_copyOf_92 rfl (lv_at hl 1 rfl) ?_
  refine h_geti (lo := (-2147483648)) (hi := 2147483647) hx hb hts iX7_copyOf_X7 hown hK hI g_b (by decide) rfl rfl 7 (by decide) rfl rfl (hts (.fieldLink RX7 34 "CatLeases$State" "seed" "I") (List.mem_of_getElem? (i := 12) rfl)) (fun _ h9 => h9) dX7_copyOf_93 (fun v20 e_v20 i_v20 => ?_)
  refine h_puti hx hb hts iX7_copyOf_X7 tyX7 tyX7_ok nmX7 hown hK hI g_a (by decide) rfl rfl 7 (by decide) rfl (hts (.fieldLink RX7 34 "CatLeases$State" "seed" "I") (List.mem_of_getElem? (i := 12) rfl)) (fun _ h9 => h9) rfl .int (by decide +kernel) rfl rfl i_v20 rfl dX7_copyOf_96 (fun M21 H locs e_M21 hI => ?_)
  exact h_vret hQ hx hb hr hlocks hK hI ⟨rfl, rfl⟩ dX7_copyOf_99
abbrev e_h_current_X0 : List (Nat × Nat) := []
set_option maxHeartbeats 4000000 in
set_option maxRecDepth 100000 in
theorem h_current_X0 (l : Launch) (D : va_G) (g : Nat → ClassId) (σ : Nat → Option Nat) (Z : State → Heap → Prop) (hZ0 : hZ σ Z) (M : hM) (N : hN) (R : hR) (a : Nat) (g_a : σ a = some 0) : Met l yX0_current wsX0_current ({ frames := 0, cells := 0, slots := 0, locals := 0 }) (va_Pc [.ref a] (hPre D g σ Z M N R)) (hQr D g σ e_h_current_X0 M (fun (r : Nat) (M1 : hM) (N1 : hN) (R1 : hR) => M = M1 ∧ N = N1 ∧ R = R1 ∧ σ r = some 7)) 0 0 (hA σ) := by
  refine h_head (cc := cX0_current) (maxL := 1) (ret := (some (.object "CatLeases$State"))) (by decide) rfl (Nat.le_of_ble_eq_true rfl) e_h_current_X0 ?_
  intro p e s m below meth c ls Q ar hQ hx hb hr hlocks hml hown hts hK hE H locs hI hl
  have hown : s.vm.findClass RX0 = some m.cls := hown
  have hl : lv_has ls 1 [(0, .ref a)] := hl
  refine lv_aload_n hx hb dX0_current_0 rfl (lv_at hl 0 rfl) ?_
  refine h_getr hx hb hts iX0_current_X0 hown hK hI g_a (by decide) rfl rfl 2 (by decide) rfl 26 rfl (hts (.fieldLink RX0 20 "CatLeases$Acts" "states" "[LCatLeases$State;") (List.mem_of_getElem? (i := 1) rfl)) (fun _ h9 => h9) dX0_current_1 (fun a1 e_a1 g_a1 => ?_)
  refine lv_aload_n hx hb dX0_current_4 rfl (lv_at hl 0 rfl) ?_
  refine h_geti (lo := 0) (hi := 40) hx hb hts iX0_current_X0 hown hK hI g_a (by decide) rfl rfl 3 (by decide) rfl rfl (hts (.fieldLink RX0 24 "CatLeases$Acts" "index" "I") (List.mem_of_getElem? (i := 2) rfl)) (fun _ h9 => h9) dX0_current_5 (fun v2 e_v2 i_v2 => ?_)
  refine h_aald (j := v2.toNatClampNeg) hx hb hK hI g_a1 (by decide) rfl rfl rfl (iv_in (n := 41) i_v2 (by decide) (by decide)) rfl dX0_current_8 (fun a3 e_a3 g_a3 => ?_)
  exact h_aret hQ hx hb hr (Or.inl ⟨_, rfl⟩) hlocks hK hI ⟨rfl, rfl, rfl, g_a3⟩ dX0_current_9
abbrev e_h_begin_X0 : List (Nat × Nat) := [(0, 0), (0, 1), (0, 3), (7, 5), (7, 6), (7, 7), (12, 999), (13, 999), (14, 999)]
set_option maxHeartbeats 4000000 in
set_option maxRecDepth 100000 in
theorem h_begin_X0 (l : Launch) (D : va_G) (g : Nat → ClassId) (σ : Nat → Option Nat) (Z : State → Heap → Prop) (hZ0 : hZ σ Z) (M : hM) (N : hN) (R : hR) (a : Nat) (g_a : σ a = some 0) : Met l yX0_begin wsX0_begin ({ frames := 2, cells := 0, slots := 0, locals := 61 }) (va_Pc [.ref a] (hPre D g σ Z M N R)) (hQr D g σ e_h_begin_X0 M (fun (r : Nat) (M1 : hM) (N1 : hN) (R1 : hR) => N = N1 ∧ R = R1 ∧ σ r = some 7)) 0 0 (hA σ) := by
  refine h_head (cc := cX0_begin) (maxL := 2) (ret := (some (.object "CatLeases$State"))) (by decide) rfl (Nat.le_of_ble_eq_true rfl) e_h_begin_X0 ?_
  intro p e s m below meth c ls Q ar hQ hx hb hr hlocks hml hown hts hK hE H locs hI hl
  have hown : s.vm.findClass RX0 = some m.cls := hown
  have hl : lv_has ls 2 [(0, .ref a)] := hl
  refine lv_aload_n hx hb dX0_begin_0 rfl (lv_at hl 0 rfl) ?_
  refine h_getr hx hb hts iX0_begin_X0 hown hK hI g_a (by decide) rfl rfl 2 (by decide) rfl 26 rfl (hts (.fieldLink RX0 20 "CatLeases$Acts" "states" "[LCatLeases$State;") (List.mem_of_getElem? (i := 1) rfl)) (fun _ h9 => h9) dX0_begin_1 (fun a1 e_a1 g_a1 => ?_)
  refine lv_aload_n hx hb dX0_begin_4 rfl (lv_at hl 0 rfl) ?_
  refine h_geti (lo := 0) (hi := 40) hx hb hts iX0_begin_X0 hown hK hI g_a (by decide) rfl rfl 3 (by decide) rfl rfl (hts (.fieldLink RX0 24 "CatLeases$Acts" "index" "I") (List.mem_of_getElem? (i := 2) rfl)) (fun _ h9 => h9) dX0_begin_5 (fun v2 e_v2 i_v2 => ?_)
  refine h_aald (j := v2.toNatClampNeg) hx hb hK hI g_a1 (by decide) rfl rfl rfl (iv_in (n := 41) i_v2 (by decide) (by decide)) rfl dX0_begin_8 (fun a3 e_a3 g_a3 => ?_)
  refine lv_astore_n (lv' := [(1, .ref a3), (0, .ref a)]) hx hb dX0_begin_9 rfl hl (by decide) rfl (fun ls hl => ?_)
  refine lv_aload_n hx hb dX0_begin_10 rfl (lv_at hl 1 rfl) ?_
  refine lv_aload_n hx hb dX0_begin_11 rfl (lv_at hl 1 rfl) ?_
  refine h_geti (lo := 0) (hi := 40) hx hb hts iX0_begin_X0 hown hK hI g_a (by decide) rfl rfl 3 (by decide) rfl rfl (hts (.fieldLink RX0 24 "CatLeases$Acts" "index" "I") (List.mem_of_getElem? (i := 2) rfl)) (fun _ h9 => h9) dX0_begin_12 (fun v4 e_v4 i_v4 => ?_)
  have q5 : v2 = v4 := (e_v2).trans e_v4.symm
  subst q5
  refine lv_iconst (v := 1) hx hb dX0_begin_15 (by decide) ?_
  refine lv_iadd hx hb dX0_begin_16 ?_
  refine h_nm (lo := 1) (hi := 41) (iv_add i_v2 kc_1 (by decide) (by decide) (by decide) (by decide)) (fun v6 e_v6 i_v6 => ?_)
  refine lv_bipush (v := 41) hx hb dX0_begin_17 (by decide) ?_
  refine lv_irem hx hb dX0_begin_19 (by decide) ?_
  refine h_nm (lo := 0) (hi := 40) (iv_rem i_v6 kc_41 (by decide) (by decide) (by decide)) (fun v7 e_v7 i_v7 => ?_)
  refine h_puti hx hb hts iX0_begin_X0 tyX0 tyX0_ok nmX0 hown hK hI g_a (by decide) rfl rfl 3 (by decide) rfl (hts (.fieldLink RX0 24 "CatLeases$Acts" "index" "I") (List.mem_of_getElem? (i := 2) rfl)) (fun _ h9 => h9) rfl .int (by decide +kernel) rfl rfl i_v7 rfl dX0_begin_20 (fun M8 H locs e_M8 hI => ?_)
  refine lv_aload_n hx hb dX0_begin_23 rfl (lv_at hl 1 rfl) ?_
  refine h_getr hx hb hts iX0_begin_X0 hown hK hI g_a (by decide) rfl rfl 2 (by decide) rfl 26 rfl (hts (.fieldLink RX0 20 "CatLeases$Acts" "states" "[LCatLeases$State;") (List.mem_of_getElem? (i := 1) rfl)) (fun _ h9 => h9) dX0_begin_24 (fun a9 e_a9 g_a9 => ?_)
  have q10 : a1 = a9 := (e_a1).trans e_a9.symm
  subst q10
  refine lv_aload_n hx hb dX0_begin_27 rfl (lv_at hl 1 rfl) ?_
  refine h_geti (lo := 0) (hi := 40) hx hb hts iX0_begin_X0 hown hK hI g_a (by decide) rfl rfl 3 (by decide) rfl rfl (hts (.fieldLink RX0 24 "CatLeases$Acts" "index" "I") (List.mem_of_getElem? (i := 2) rfl)) (fun _ h9 => h9) dX0_begin_28 (fun v11 e_v11 i_v11 => ?_)
  have q12 : v7 = v11 := ((u2_wr e_M8)).trans e_v11.symm
  subst q12
  refine h_aald (j := v7.toNatClampNeg) hx hb hK hI g_a1 (by decide) rfl rfl rfl (iv_in (n := 41) i_v7 (by decide) (by decide)) rfl dX0_begin_31 (fun a13 e_a13 g_a13 => ?_)
  refine lv_aload_n hx hb dX0_begin_32 rfl (lv_at hl 0 rfl) ?_
  refine h_gov hI (by decide) (va_runV (As := [.ref a3]) (rest := []) ⟨hx, hb, hml, hown, hts⟩ (h_copyOf_X7 l D g σ Z hZ0 M8 N R a13 g_a13 a3 g_a3) (cwV 1 hts gX0_begin_X7_copyOf rfl rfl rfl (by decide +kernel) ⟨Nat.le_of_ble_eq_true rfl, Nat.le_of_ble_eq_true rfl⟩) (h_preV hZ0 hK hE hI g_a13 (by decide) rfl) rfl rfl hl.1 rfl (lv_room (Nat.le_of_ble_eq_true rfl)) dX0_begin_33 ⟨Nat.le_of_ble_eq_true rfl, Nat.le_of_ble_eq_true rfl⟩) (fun M15 N16 R17 H locs q18 z_M15 hI => ?_)
  obtain ⟨rfl, rfl⟩ := q18
  refine lv_aload_n hx hb dX0_begin_36 rfl (lv_at hl 1 rfl) ?_
  refine lv_bipush (v := 40) hx hb dX0_begin_37 (by decide) ?_
  refine lv_aload_n hx hb dX0_begin_39 rfl (lv_at hl 1 rfl) ?_
  refine h_geti (lo := (-2147483648)) (hi := 2147483647) hx hb hts iX0_begin_X0 hown hK hI g_a (by decide) rfl rfl 0 (by decide) rfl rfl (hts (.fieldLink RX0 9 "CatLeases$Acts" "undoable" "I") (List.mem_of_getElem? (i := 3) rfl)) (fun _ h9 => h9) dX0_begin_40 (fun v19 e_v19 i_v19 => ?_)
  refine lv_iconst (v := 1) hx hb dX0_begin_43 (by decide) ?_
  refine lv_iadd hx hb dX0_begin_44 ?_
  refine h_nm (lo := (-2147483648)) (hi := 2147483647) (iv_any _) (fun v20 e_v20 i_v20 => ?_)
  refine va_mmin hx hb (hml.trans hl.1.symm) hown (hts (.methodLink RX0 32 Lib.Math.min.name) (List.mem_of_getElem? (i := 4) rfl)) (hts (.static Lib.Math.min.name) (List.mem_of_getElem? (i := 5) rfl)) (hts (.initialized "java/lang/Math") (List.mem_of_getElem? (i := 6) rfl)) (hts (.code Lib.Math.min.name Lib.Math.min.code 2 (some .int)) (List.mem_of_getElem? (i := 7) rfl)) (Nat.le_of_ble_eq_true rfl) (Nat.le_of_ble_eq_true rfl) (Nat.le_of_ble_eq_true rfl) (Nat.le_of_ble_eq_true rfl) dX0_begin_45 ?_
  refine h_nm (lo := (-2147483648)) (hi := 40) (iv_min kc_40 i_v20 (by decide) (by decide) (by decide)) (fun v21 e_v21 i_v21 => ?_)
  refine h_puti hx hb hts iX0_begin_X0 tyX0 tyX0_ok nmX0 hown hK hI g_a (by decide) rfl rfl 0 (by decide) rfl (hts (.fieldLink RX0 9 "CatLeases$Acts" "undoable" "I") (List.mem_of_getElem? (i := 3) rfl)) (fun _ h9 => h9) rfl .int (by decide +kernel) rfl rfl (iv_w (lo' := (-2147483648)) (hi' := 2147483647) i_v21 (by decide) (by decide)) rfl dX0_begin_48 (fun M22 H locs e_M22 hI => ?_)
  refine lv_aload_n hx hb dX0_begin_51 rfl (lv_at hl 1 rfl) ?_
  refine lv_iconst (v := 0) hx hb dX0_begin_52 (by decide) ?_
  refine h_puti hx hb hts iX0_begin_X0 tyX0 tyX0_ok nmX0 hown hK hI g_a (by decide) rfl rfl 1 (by decide) rfl (hts (.fieldLink RX0 15 "CatLeases$Acts" "redoable" "I") (List.mem_of_getElem? (i := 8) rfl)) (fun _ h9 => h9) rfl .int (by decide +kernel) rfl rfl (iv_w (lo' := (-2147483648)) (hi' := 2147483647) kc_0 (by decide) (by decide)) rfl dX0_begin_53 (fun M23 H locs e_M23 hI => ?_)
  refine lv_aload_n hx hb dX0_begin_56 rfl (lv_at hl 1 rfl) ?_
  refine h_getr hx hb hts iX0_begin_X0 hown hK hI g_a (by decide) rfl rfl 2 (by decide) rfl 26 rfl (hts (.fieldLink RX0 20 "CatLeases$Acts" "states" "[LCatLeases$State;") (List.mem_of_getElem? (i := 1) rfl)) (fun _ h9 => h9) dX0_begin_57 (fun a24 e_a24 g_a24 => ?_)
  have q25 : a1 = a24 := (e_a1).trans e_a24.symm
  subst q25
  refine lv_aload_n hx hb dX0_begin_60 rfl (lv_at hl 1 rfl) ?_
  refine h_geti (lo := 0) (hi := 40) hx hb hts iX0_begin_X0 hown hK hI g_a (by decide) rfl rfl 3 (by decide) rfl rfl (hts (.fieldLink RX0 24 "CatLeases$Acts" "index" "I") (List.mem_of_getElem? (i := 2) rfl)) (fun _ h9 => h9) dX0_begin_61 (fun v26 e_v26 i_v26 => ?_)
  have q27 : v7 = v26 := (((((u2_wr e_M8)).trans (z_M15 a 0 3 g_a rfl).symm).trans (u2_st (a := a) (k := 3) e_M22 (u2_k (by decide))).symm).trans (u2_st (a := a) (k := 3) e_M23 (u2_k (by decide))).symm).trans e_v26.symm
  subst q27
  refine h_aald (j := v7.toNatClampNeg) hx hb hK hI g_a1 (by decide) rfl rfl rfl (iv_in (n := 41) i_v7 (by decide) (by decide)) rfl dX0_begin_64 (fun a28 e_a28 g_a28 => ?_)
  have q29 : a13 = a28 := (e_a13).trans e_a28.symm
  subst q29
  exact h_aret hQ hx hb hr (Or.inl ⟨_, rfl⟩) hlocks hK hI ⟨rfl, rfl, g_a13⟩ dX0_begin_65
abbrev e_h_stepBack_X0 : List (Nat × Nat) := [(0, 0), (0, 1), (0, 3)]
set_option maxHeartbeats 4000000 in
set_option maxRecDepth 100000 in
theorem h_stepBack_X0 (l : Launch) (D : va_G) (g : Nat → ClassId) (σ : Nat → Option Nat) (Z : State → Heap → Prop) (hZ0 : hZ σ Z) (M : hM) (N : hN) (R : hR) (a : Nat) (g_a : σ a = some 0) : Met l yX0_stepBack wsX0_stepBack ({ frames := 0, cells := 0, slots := 0, locals := 0 }) (va_Pc [.ref a] (hPre D g σ Z M N R)) (hQi D g σ e_h_stepBack_X0 M (fun (r : Int32) (M1 : hM) (N1 : hN) (R1 : hR) => N = N1 ∧ R = R1 ∧ iv r 0 1)) 0 0 (hA σ) := by
  refine h_head (cc := cX0_stepBack) (maxL := 1) (ret := (some .boolean)) (by decide) rfl (Nat.le_of_ble_eq_true rfl) e_h_stepBack_X0 ?_
  intro p e s m below meth c ls Q ar hQ hx hb hr hlocks hml hown hts hK hE H locs hI hl
  have hown : s.vm.findClass RX0 = some m.cls := hown
  have hl : lv_has ls 1 [(0, .ref a)] := hl
  refine lv_aload_n hx hb dX0_stepBack_0 rfl (lv_at hl 0 rfl) ?_
  refine h_geti (lo := (-2147483648)) (hi := 2147483647) hx hb hts iX0_stepBack_X0 hown hK hI g_a (by decide) rfl rfl 0 (by decide) rfl rfl (hts (.fieldLink RX0 9 "CatLeases$Acts" "undoable" "I") (List.mem_of_getElem? (i := 1) rfl)) (fun _ h9 => h9) dX0_stepBack_1 (fun v1 e_v1 i_v1 => ?_)
  refine lv_if_ne (tgt := 9) hx hb dX0_stepBack_4 (by decide) (fun c2 => ?_) (fun c2 => ?_)
  · refine lv_aload_n hx hb dX0_stepBack_9 rfl (lv_at hl 0 rfl) ?_
    refine lv_aload_n hx hb dX0_stepBack_10 rfl (lv_at hl 0 rfl) ?_
    refine h_geti (lo := 0) (hi := 40) hx hb hts iX0_stepBack_X0 hown hK hI g_a (by decide) rfl rfl 3 (by decide) rfl rfl (hts (.fieldLink RX0 24 "CatLeases$Acts" "index" "I") (List.mem_of_getElem? (i := 2) rfl)) (fun _ h9 => h9) dX0_stepBack_11 (fun v3 e_v3 i_v3 => ?_)
    refine lv_bipush (v := 41) hx hb dX0_stepBack_14 (by decide) ?_
    refine lv_iadd hx hb dX0_stepBack_16 ?_
    refine h_nm (lo := 41) (hi := 81) (iv_add i_v3 kc_41 (by decide) (by decide) (by decide) (by decide)) (fun v4 e_v4 i_v4 => ?_)
    refine lv_iconst (v := 1) hx hb dX0_stepBack_17 (by decide) ?_
    refine lv_isub hx hb dX0_stepBack_18 ?_
    refine h_nm (lo := 40) (hi := 80) (iv_sub i_v4 kc_1 (by decide) (by decide) (by decide) (by decide)) (fun v5 e_v5 i_v5 => ?_)
    refine lv_bipush (v := 41) hx hb dX0_stepBack_19 (by decide) ?_
    refine lv_irem hx hb dX0_stepBack_21 (by decide) ?_
    refine h_nm (lo := 0) (hi := 40) (iv_rem i_v5 kc_41 (by decide) (by decide) (by decide)) (fun v6 e_v6 i_v6 => ?_)
    refine h_puti hx hb hts iX0_stepBack_X0 tyX0 tyX0_ok nmX0 hown hK hI g_a (by decide) rfl rfl 3 (by decide) rfl (hts (.fieldLink RX0 24 "CatLeases$Acts" "index" "I") (List.mem_of_getElem? (i := 2) rfl)) (fun _ h9 => h9) rfl .int (by decide +kernel) rfl rfl i_v6 rfl dX0_stepBack_22 (fun M7 H locs e_M7 hI => ?_)
    refine lv_aload_n hx hb dX0_stepBack_25 rfl (lv_at hl 0 rfl) ?_
    refine lv_dup hx hb dX0_stepBack_26 rfl ?_
    refine h_geti (lo := (-2147483648)) (hi := 2147483647) hx hb hts iX0_stepBack_X0 hown hK hI g_a (by decide) rfl rfl 0 (by decide) rfl rfl (hts (.fieldLink RX0 9 "CatLeases$Acts" "undoable" "I") (List.mem_of_getElem? (i := 1) rfl)) (fun _ h9 => h9) dX0_stepBack_27 (fun v8 e_v8 i_v8 => ?_)
    have q9 : v1 = v8 := ((e_v1).trans (u2_st (a := a) (k := 0) e_M7 (u2_k (by decide))).symm).trans e_v8.symm
    subst q9
    refine lv_iconst (v := 1) hx hb dX0_stepBack_30 (by decide) ?_
    refine lv_isub hx hb dX0_stepBack_31 ?_
    refine h_nm (lo := (-2147483648)) (hi := 2147483647) (iv_any _) (fun v10 e_v10 i_v10 => ?_)
    refine h_puti hx hb hts iX0_stepBack_X0 tyX0 tyX0_ok nmX0 hown hK hI g_a (by decide) rfl rfl 0 (by decide) rfl (hts (.fieldLink RX0 9 "CatLeases$Acts" "undoable" "I") (List.mem_of_getElem? (i := 1) rfl)) (fun _ h9 => h9) rfl .int (by decide +kernel) rfl rfl i_v10 rfl dX0_stepBack_32 (fun M11 H locs e_M11 hI => ?_)
    refine lv_aload_n hx hb dX0_stepBack_35 rfl (lv_at hl 0 rfl) ?_
    refine lv_dup hx hb dX0_stepBack_36 rfl ?_
    refine h_geti (lo := (-2147483648)) (hi := 2147483647) hx hb hts iX0_stepBack_X0 hown hK hI g_a (by decide) rfl rfl 1 (by decide) rfl rfl (hts (.fieldLink RX0 15 "CatLeases$Acts" "redoable" "I") (List.mem_of_getElem? (i := 3) rfl)) (fun _ h9 => h9) dX0_stepBack_37 (fun v12 e_v12 i_v12 => ?_)
    refine lv_iconst (v := 1) hx hb dX0_stepBack_40 (by decide) ?_
    refine lv_iadd hx hb dX0_stepBack_41 ?_
    refine h_nm (lo := (-2147483648)) (hi := 2147483647) (iv_any _) (fun v13 e_v13 i_v13 => ?_)
    refine h_puti hx hb hts iX0_stepBack_X0 tyX0 tyX0_ok nmX0 hown hK hI g_a (by decide) rfl rfl 1 (by decide) rfl (hts (.fieldLink RX0 15 "CatLeases$Acts" "redoable" "I") (List.mem_of_getElem? (i := 3) rfl)) (fun _ h9 => h9) rfl .int (by decide +kernel) rfl rfl i_v13 rfl dX0_stepBack_42 (fun M14 H locs e_M14 hI => ?_)
    refine lv_iconst (v := 1) hx hb dX0_stepBack_45 (by decide) ?_
    exact h_iret hQ hx hb hr hlocks rfl hK hI ⟨rfl, rfl, (iv_w (lo' := 0) (hi' := 1) kc_1 (by decide) (by decide))⟩ dX0_stepBack_46
  · have i15 : iv v1 0 0 := iv_eq1 c2 i_v1 kc_0
    refine lv_iconst (v := 0) hx hb dX0_stepBack_7 (by decide) ?_
    exact h_iret hQ hx hb hr hlocks rfl hK hI ⟨rfl, rfl, (iv_w (lo' := 0) (hi' := 1) kc_0 (by decide) (by decide))⟩ dX0_stepBack_8
abbrev e_h_stepForth_X0 : List (Nat × Nat) := [(0, 0), (0, 1), (0, 3)]
set_option maxHeartbeats 4000000 in
set_option maxRecDepth 100000 in
theorem h_stepForth_X0 (l : Launch) (D : va_G) (g : Nat → ClassId) (σ : Nat → Option Nat) (Z : State → Heap → Prop) (hZ0 : hZ σ Z) (M : hM) (N : hN) (R : hR) (a : Nat) (g_a : σ a = some 0) : Met l yX0_stepForth wsX0_stepForth ({ frames := 0, cells := 0, slots := 0, locals := 0 }) (va_Pc [.ref a] (hPre D g σ Z M N R)) (hQi D g σ e_h_stepForth_X0 M (fun (r : Int32) (M1 : hM) (N1 : hN) (R1 : hR) => N = N1 ∧ R = R1 ∧ iv r 0 1)) 0 0 (hA σ) := by
  refine h_head (cc := cX0_stepForth) (maxL := 1) (ret := (some .boolean)) (by decide) rfl (Nat.le_of_ble_eq_true rfl) e_h_stepForth_X0 ?_
  intro p e s m below meth c ls Q ar hQ hx hb hr hlocks hml hown hts hK hE H locs hI hl
  have hown : s.vm.findClass RX0 = some m.cls := hown
  have hl : lv_has ls 1 [(0, .ref a)] := hl
  refine lv_aload_n hx hb dX0_stepForth_0 rfl (lv_at hl 0 rfl) ?_
  refine h_geti (lo := (-2147483648)) (hi := 2147483647) hx hb hts iX0_stepForth_X0 hown hK hI g_a (by decide) rfl rfl 1 (by decide) rfl rfl (hts (.fieldLink RX0 15 "CatLeases$Acts" "redoable" "I") (List.mem_of_getElem? (i := 1) rfl)) (fun _ h9 => h9) dX0_stepForth_1 (fun v1 e_v1 i_v1 => ?_)
  refine lv_if_ne (tgt := 9) hx hb dX0_stepForth_4 (by decide) (fun c2 => ?_) (fun c2 => ?_)
  · refine lv_aload_n hx hb dX0_stepForth_9 rfl (lv_at hl 0 rfl) ?_
    refine lv_aload_n hx hb dX0_stepForth_10 rfl (lv_at hl 0 rfl) ?_
    refine h_geti (lo := 0) (hi := 40) hx hb hts iX0_stepForth_X0 hown hK hI g_a (by decide) rfl rfl 3 (by decide) rfl rfl (hts (.fieldLink RX0 24 "CatLeases$Acts" "index" "I") (List.mem_of_getElem? (i := 2) rfl)) (fun _ h9 => h9) dX0_stepForth_11 (fun v3 e_v3 i_v3 => ?_)
    refine lv_iconst (v := 1) hx hb dX0_stepForth_14 (by decide) ?_
    refine lv_iadd hx hb dX0_stepForth_15 ?_
    refine h_nm (lo := 1) (hi := 41) (iv_add i_v3 kc_1 (by decide) (by decide) (by decide) (by decide)) (fun v4 e_v4 i_v4 => ?_)
    refine lv_bipush (v := 41) hx hb dX0_stepForth_16 (by decide) ?_
    refine lv_irem hx hb dX0_stepForth_18 (by decide) ?_
    refine h_nm (lo := 0) (hi := 40) (iv_rem i_v4 kc_41 (by decide) (by decide) (by decide)) (fun v5 e_v5 i_v5 => ?_)
    refine h_puti hx hb hts iX0_stepForth_X0 tyX0 tyX0_ok nmX0 hown hK hI g_a (by decide) rfl rfl 3 (by decide) rfl (hts (.fieldLink RX0 24 "CatLeases$Acts" "index" "I") (List.mem_of_getElem? (i := 2) rfl)) (fun _ h9 => h9) rfl .int (by decide +kernel) rfl rfl i_v5 rfl dX0_stepForth_19 (fun M6 H locs e_M6 hI => ?_)
    refine lv_aload_n hx hb dX0_stepForth_22 rfl (lv_at hl 0 rfl) ?_
    refine lv_dup hx hb dX0_stepForth_23 rfl ?_
    refine h_geti (lo := (-2147483648)) (hi := 2147483647) hx hb hts iX0_stepForth_X0 hown hK hI g_a (by decide) rfl rfl 0 (by decide) rfl rfl (hts (.fieldLink RX0 9 "CatLeases$Acts" "undoable" "I") (List.mem_of_getElem? (i := 3) rfl)) (fun _ h9 => h9) dX0_stepForth_24 (fun v7 e_v7 i_v7 => ?_)
    refine lv_iconst (v := 1) hx hb dX0_stepForth_27 (by decide) ?_
    refine lv_iadd hx hb dX0_stepForth_28 ?_
    refine h_nm (lo := (-2147483648)) (hi := 2147483647) (iv_any _) (fun v8 e_v8 i_v8 => ?_)
    refine h_puti hx hb hts iX0_stepForth_X0 tyX0 tyX0_ok nmX0 hown hK hI g_a (by decide) rfl rfl 0 (by decide) rfl (hts (.fieldLink RX0 9 "CatLeases$Acts" "undoable" "I") (List.mem_of_getElem? (i := 3) rfl)) (fun _ h9 => h9) rfl .int (by decide +kernel) rfl rfl i_v8 rfl dX0_stepForth_29 (fun M9 H locs e_M9 hI => ?_)
    refine lv_aload_n hx hb dX0_stepForth_32 rfl (lv_at hl 0 rfl) ?_
    refine lv_dup hx hb dX0_stepForth_33 rfl ?_
    refine h_geti (lo := (-2147483648)) (hi := 2147483647) hx hb hts iX0_stepForth_X0 hown hK hI g_a (by decide) rfl rfl 1 (by decide) rfl rfl (hts (.fieldLink RX0 15 "CatLeases$Acts" "redoable" "I") (List.mem_of_getElem? (i := 1) rfl)) (fun _ h9 => h9) dX0_stepForth_34 (fun v10 e_v10 i_v10 => ?_)
    have q11 : v1 = v10 := (((e_v1).trans (u2_st (a := a) (k := 1) e_M6 (u2_k (by decide))).symm).trans (u2_st (a := a) (k := 1) e_M9 (u2_k (by decide))).symm).trans e_v10.symm
    subst q11
    refine lv_iconst (v := 1) hx hb dX0_stepForth_37 (by decide) ?_
    refine lv_isub hx hb dX0_stepForth_38 ?_
    refine h_nm (lo := (-2147483648)) (hi := 2147483647) (iv_any _) (fun v12 e_v12 i_v12 => ?_)
    refine h_puti hx hb hts iX0_stepForth_X0 tyX0 tyX0_ok nmX0 hown hK hI g_a (by decide) rfl rfl 1 (by decide) rfl (hts (.fieldLink RX0 15 "CatLeases$Acts" "redoable" "I") (List.mem_of_getElem? (i := 1) rfl)) (fun _ h9 => h9) rfl .int (by decide +kernel) rfl rfl i_v12 rfl dX0_stepForth_39 (fun M13 H locs e_M13 hI => ?_)
    refine lv_iconst (v := 1) hx hb dX0_stepForth_42 (by decide) ?_
    exact h_iret hQ hx hb hr hlocks rfl hK hI ⟨rfl, rfl, (iv_w (lo' := 0) (hi' := 1) kc_1 (by decide) (by decide))⟩ dX0_stepForth_43
  · have i14 : iv v1 0 0 := iv_eq1 c2 i_v1 kc_0
    refine lv_iconst (v := 0) hx hb dX0_stepForth_7 (by decide) ?_
    exact h_iret hQ hx hb hr hlocks rfl hK hI ⟨rfl, rfl, (iv_w (lo' := 0) (hi' := 1) kc_0 (by decide) (by decide))⟩ dX0_stepForth_8
abbrev e_h_startFrom_X0 : List (Nat × Nat) := [(0, 0), (0, 1), (7, 5), (7, 6), (7, 7), (12, 999), (13, 999), (14, 999)]
set_option maxHeartbeats 4000000 in
set_option maxRecDepth 100000 in
theorem h_startFrom_X0 (l : Launch) (D : va_G) (g : Nat → ClassId) (σ : Nat → Option Nat) (Z : State → Heap → Prop) (hZ0 : hZ σ Z) (M : hM) (N : hN) (R : hR) (a : Nat) (g_a : σ a = some 0) (b : Nat) (g_b : σ b = some 7) : Met l yX0_startFrom wsX0_startFrom ({ frames := 2, cells := 0, slots := 0, locals := 61 }) (va_Pc [.ref a, .ref b] (hPre D g σ Z M N R)) (hQv D g σ e_h_startFrom_X0 M (fun (M1 : hM) (N1 : hN) (R1 : hR) => N = N1 ∧ R = R1)) 0 0 (hA σ) := by
  refine h_head (cc := cX0_startFrom) (maxL := 2) (ret := none) (by decide) rfl (Nat.le_of_ble_eq_true rfl) e_h_startFrom_X0 ?_
  intro p e s m below meth c ls Q ar hQ hx hb hr hlocks hml hown hts hK hE H locs hI hl
  have hown : s.vm.findClass RX0 = some m.cls := hown
  have hl : lv_has ls 2 [(0, .ref a), (1, .ref b)] := hl
  refine lv_aload_n hx hb dX0_startFrom_0 rfl (lv_at hl 0 rfl) ?_
  refine h_getr hx hb hts iX0_startFrom_X0 hown hK hI g_a (by decide) rfl rfl 2 (by decide) rfl 26 rfl (hts (.fieldLink RX0 20 "CatLeases$Acts" "states" "[LCatLeases$State;") (List.mem_of_getElem? (i := 1) rfl)) (fun _ h9 => h9) dX0_startFrom_1 (fun a1 e_a1 g_a1 => ?_)
  refine lv_aload_n hx hb dX0_startFrom_4 rfl (lv_at hl 0 rfl) ?_
  refine h_geti (lo := 0) (hi := 40) hx hb hts iX0_startFrom_X0 hown hK hI g_a (by decide) rfl rfl 3 (by decide) rfl rfl (hts (.fieldLink RX0 24 "CatLeases$Acts" "index" "I") (List.mem_of_getElem? (i := 2) rfl)) (fun _ h9 => h9) dX0_startFrom_5 (fun v2 e_v2 i_v2 => ?_)
  refine h_aald (j := v2.toNatClampNeg) hx hb hK hI g_a1 (by decide) rfl rfl rfl (iv_in (n := 41) i_v2 (by decide) (by decide)) rfl dX0_startFrom_8 (fun a3 e_a3 g_a3 => ?_)
  refine lv_aload_n hx hb dX0_startFrom_9 rfl (lv_at hl 1 rfl) ?_
  refine h_gov hI (by decide) (va_runV (As := [.ref b]) (rest := []) ⟨hx, hb, hml, hown, hts⟩ (h_copyOf_X7 l D g σ Z hZ0 M N R a3 g_a3 b g_b) (cwV 1 hts gX0_startFrom_X7_copyOf rfl rfl rfl (by decide +kernel) ⟨Nat.le_of_ble_eq_true rfl, Nat.le_of_ble_eq_true rfl⟩) (h_preV hZ0 hK hE hI g_a3 (by decide) rfl) rfl rfl hl.1 rfl (lv_room (Nat.le_of_ble_eq_true rfl)) dX0_startFrom_10 ⟨Nat.le_of_ble_eq_true rfl, Nat.le_of_ble_eq_true rfl⟩) (fun M5 N6 R7 H locs q8 z_M5 hI => ?_)
  obtain ⟨rfl, rfl⟩ := q8
  refine lv_aload_n hx hb dX0_startFrom_13 rfl (lv_at hl 0 rfl) ?_
  refine lv_iconst (v := 0) hx hb dX0_startFrom_14 (by decide) ?_
  refine h_puti hx hb hts iX0_startFrom_X0 tyX0 tyX0_ok nmX0 hown hK hI g_a (by decide) rfl rfl 0 (by decide) rfl (hts (.fieldLink RX0 9 "CatLeases$Acts" "undoable" "I") (List.mem_of_getElem? (i := 3) rfl)) (fun _ h9 => h9) rfl .int (by decide +kernel) rfl rfl (iv_w (lo' := (-2147483648)) (hi' := 2147483647) kc_0 (by decide) (by decide)) rfl dX0_startFrom_15 (fun M9 H locs e_M9 hI => ?_)
  refine lv_aload_n hx hb dX0_startFrom_18 rfl (lv_at hl 0 rfl) ?_
  refine lv_iconst (v := 0) hx hb dX0_startFrom_19 (by decide) ?_
  refine h_puti hx hb hts iX0_startFrom_X0 tyX0 tyX0_ok nmX0 hown hK hI g_a (by decide) rfl rfl 1 (by decide) rfl (hts (.fieldLink RX0 15 "CatLeases$Acts" "redoable" "I") (List.mem_of_getElem? (i := 4) rfl)) (fun _ h9 => h9) rfl .int (by decide +kernel) rfl rfl (iv_w (lo' := (-2147483648)) (hi' := 2147483647) kc_0 (by decide) (by decide)) rfl dX0_startFrom_20 (fun M10 H locs e_M10 hI => ?_)
  exact h_vret hQ hx hb hr hlocks hK hI ⟨rfl, rfl⟩ dX0_startFrom_23
abbrev e_h_empty_X2 : List (Nat × Nat) := [(2, 2)]
set_option maxHeartbeats 4000000 in
set_option maxRecDepth 100000 in
theorem h_empty_X2 (l : Launch) (D : va_G) (g : Nat → ClassId) (σ : Nat → Option Nat) (Z : State → Heap → Prop) (hZ0 : hZ σ Z) (M : hM) (N : hN) (R : hR) (a : Nat) (g_a : σ a = some 2) : Met l yX2_empty wsX2_empty ({ frames := 0, cells := 0, slots := 0, locals := 0 }) (va_Pc [.ref a] (hPre D g σ Z M N R)) (hQv D g σ e_h_empty_X2 M (fun (M1 : hM) (N1 : hN) (R1 : hR) => N = N1 ∧ R = R1)) 0 0 (hA σ) := by
  refine h_head (cc := cX2_empty) (maxL := 1) (ret := none) (by decide) rfl (Nat.le_of_ble_eq_true rfl) e_h_empty_X2 ?_
  intro p e s m below meth c ls Q ar hQ hx hb hr hlocks hml hown hts hK hE H locs hI hl
  have hown : s.vm.findClass RX2 = some m.cls := hown
  have hl : lv_has ls 1 [(0, .ref a)] := hl
  refine lv_aload_n hx hb dX2_empty_0 rfl (lv_at hl 0 rfl) ?_
  refine lv_iconst (v := 0) hx hb dX2_empty_1 (by decide) ?_
  refine h_puti hx hb hts iX2_empty_X2 tyX2 tyX2_ok nmX2 hown hK hI g_a (by decide) rfl rfl 2 (by decide) rfl (hts (.fieldLink RX2 16 "CatLeases$Formula" "length" "I") (List.mem_of_getElem? (i := 1) rfl)) (fun _ h9 => h9) rfl .int (by decide +kernel) rfl rfl (iv_w (lo' := 0) (hi' := 270) kc_0 (by decide) (by decide)) rfl dX2_empty_2 (fun M1 H locs e_M1 hI => ?_)
  exact h_vret hQ hx hb hr hlocks hK hI ⟨rfl, rfl⟩ dX2_empty_5
abbrev e_h_addStep_X2 : List (Nat × Nat) := [(2, 2), (17, 999)]
set_option maxHeartbeats 4000000 in
set_option maxRecDepth 100000 in
theorem h_addStep_X2 (l : Launch) (D : va_G) (g : Nat → ClassId) (σ : Nat → Option Nat) (Z : State → Heap → Prop) (hZ0 : hZ σ Z) (M : hM) (N : hN) (R : hR) (a : Nat) (g_a : σ a = some 2) (p1 : Int32) : Met l yX2_addStep wsX2_addStep ({ frames := 0, cells := 0, slots := 0, locals := 0 }) (va_Pc [.ref a, .int p1] (hPre D g σ Z M N R)) (hQv D g σ e_h_addStep_X2 M (fun (M1 : hM) (N1 : hN) (R1 : hR) => N = N1 ∧ R = R1)) 0 0 (hA σ) := by
  refine h_head (cc := cX2_addStep) (maxL := 2) (ret := none) (by decide) rfl (Nat.le_of_ble_eq_true rfl) e_h_addStep_X2 ?_
  intro p e s m below meth c ls Q ar hQ hx hb hr hlocks hml hown hts hK hE H locs hI hl
  have hown : s.vm.findClass RX2 = some m.cls := hown
  have hl : lv_has ls 2 [(0, .ref a), (1, .int p1)] := hl
  refine lv_aload_n hx hb dX2_addStep_0 rfl (lv_at hl 0 rfl) ?_
  refine h_geti (lo := 0) (hi := 270) hx hb hts iX2_addStep_X2 hown hK hI g_a (by decide) rfl rfl 2 (by decide) rfl rfl (hts (.fieldLink RX2 16 "CatLeases$Formula" "length" "I") (List.mem_of_getElem? (i := 1) rfl)) (fun _ h9 => h9) dX2_addStep_1 (fun v1 e_v1 i_v1 => ?_)
  refine lv_aload_n hx hb dX2_addStep_4 rfl (lv_at hl 0 rfl) ?_
  refine h_getr hx hb hts iX2_addStep_X2 hown hK hI g_a (by decide) rfl rfl 0 (by decide) rfl 17 rfl (hts (.fieldLink RX2 9 "CatLeases$Formula" "steps" "[I") (List.mem_of_getElem? (i := 2) rfl)) (fun _ h9 => h9) dX2_addStep_5 (fun a2 e_a2 g_a2 => ?_)
  refine h_alen (v := 270) hx hb hK hI g_a2 (by decide) rfl (by decide) (by decide) dX2_addStep_8 ?_
  refine lv_icmp_ge (tgt := 32) hx hb dX2_addStep_9 (by decide) (fun c3 => ?_) (fun c3 => ?_)
  · have i4 : iv v1 270 270 := iv_le2 c3 kc_270 i_v1 (by decide)
    exact h_vret hQ hx hb hr hlocks hK hI ⟨rfl, rfl⟩ dX2_addStep_32
  · have i5 : iv v1 0 269 := iv_nle2 c3 kc_270 i_v1 (by decide)
    refine lv_aload_n hx hb dX2_addStep_12 rfl (lv_at hl 0 rfl) ?_
    refine h_getr hx hb hts iX2_addStep_X2 hown hK hI g_a (by decide) rfl rfl 0 (by decide) rfl 17 rfl (hts (.fieldLink RX2 9 "CatLeases$Formula" "steps" "[I") (List.mem_of_getElem? (i := 2) rfl)) (fun _ h9 => h9) dX2_addStep_13 (fun a6 e_a6 g_a6 => ?_)
    have q7 : a2 = a6 := (e_a2).trans e_a6.symm
    subst q7
    refine lv_aload_n hx hb dX2_addStep_16 rfl (lv_at hl 0 rfl) ?_
    refine h_geti (lo := 0) (hi := 270) hx hb hts iX2_addStep_X2 hown hK hI g_a (by decide) rfl rfl 2 (by decide) rfl rfl (hts (.fieldLink RX2 16 "CatLeases$Formula" "length" "I") (List.mem_of_getElem? (i := 1) rfl)) (fun _ h9 => h9) dX2_addStep_17 (fun v8 e_v8 i_v8 => ?_)
    have q9 : v1 = v8 := (e_v1).trans e_v8.symm
    subst q9
    refine lv_iload_n hx hb dX2_addStep_20 rfl (lv_at hl 1 rfl) ?_
    refine h_iast (j := v1.toNatClampNeg) hx hb hK hI g_a2 (by decide) rfl (iv_in (n := 270) i5 (by decide) (by decide)) rfl (iv_any _) rfl dX2_addStep_21 (fun M10 H locs e_M10 hI => ?_)
    refine lv_aload_n hx hb dX2_addStep_22 rfl (lv_at hl 0 rfl) ?_
    refine lv_dup hx hb dX2_addStep_23 rfl ?_
    refine h_geti (lo := 0) (hi := 270) hx hb hts iX2_addStep_X2 hown hK hI g_a (by decide) rfl rfl 2 (by decide) rfl rfl (hts (.fieldLink RX2 16 "CatLeases$Formula" "length" "I") (List.mem_of_getElem? (i := 1) rfl)) (fun _ h9 => h9) dX2_addStep_24 (fun v11 e_v11 i_v11 => ?_)
    have q12 : v1 = v11 := ((e_v1).trans (u2_st (a := a) (k := 2) e_M10 (u2_a (so_ne g_a g_a2 (by decide)))).symm).trans e_v11.symm
    subst q12
    refine lv_iconst (v := 1) hx hb dX2_addStep_27 (by decide) ?_
    refine lv_iadd hx hb dX2_addStep_28 ?_
    refine h_nm (lo := 1) (hi := 270) (iv_add i5 kc_1 (by decide) (by decide) (by decide) (by decide)) (fun v13 e_v13 i_v13 => ?_)
    refine h_puti hx hb hts iX2_addStep_X2 tyX2 tyX2_ok nmX2 hown hK hI g_a (by decide) rfl rfl 2 (by decide) rfl (hts (.fieldLink RX2 16 "CatLeases$Formula" "length" "I") (List.mem_of_getElem? (i := 1) rfl)) (fun _ h9 => h9) rfl .int (by decide +kernel) rfl rfl (iv_w (lo' := 0) (hi' := 270) i_v13 (by decide) (by decide)) rfl dX2_addStep_29 (fun M14 H locs e_M14 hI => ?_)
    exact h_vret hQ hx hb hr hlocks hK hI ⟨rfl, rfl⟩ dX2_addStep_32
abbrev e_h_addNumber_X2 : List (Nat × Nat) := [(2, 2), (17, 999)]
set_option maxHeartbeats 4000000 in
set_option maxRecDepth 100000 in
theorem h_addNumber_X2 (l : Launch) (D : va_G) (g : Nat → ClassId) (σ : Nat → Option Nat) (Z : State → Heap → Prop) (hZ0 : hZ σ Z) (M : hM) (N : hN) (R : hR) (a : Nat) (g_a : σ a = some 2) (p1 : Int32) : Met l yX2_addNumber wsX2_addNumber ({ frames := 1, cells := 0, slots := 0, locals := 21 }) (va_Pc [.ref a, .int p1] (hPre D g σ Z M N R)) (hQv D g σ e_h_addNumber_X2 M (fun (M1 : hM) (N1 : hN) (R1 : hR) => N = N1 ∧ R = R1)) 0 0 (hA σ) := by
  refine h_head (cc := cX2_addNumber) (maxL := 2) (ret := none) (by decide) rfl (Nat.le_of_ble_eq_true rfl) e_h_addNumber_X2 ?_
  intro p e s m below meth c ls Q ar hQ hx hb hr hlocks hml hown hts hK hE H locs hI hl
  have hown : s.vm.findClass RX2 = some m.cls := hown
  have hl : lv_has ls 2 [(0, .ref a), (1, .int p1)] := hl
  refine lv_aload_n hx hb dX2_addNumber_0 rfl (lv_at hl 0 rfl) ?_
  refine lv_iload_n hx hb dX2_addNumber_1 rfl (lv_at hl 1 rfl) ?_
  refine h_gov hI (by decide) (va_runV (As := [.int p1]) (rest := []) ⟨hx, hb, hml, hown, hts⟩ (h_addStep_X2 l D g σ Z hZ0 M N R a g_a p1) (cwV 1 hts gX2_addNumber_X2_addStep rfl rfl rfl (by decide +kernel) ⟨Nat.le_of_ble_eq_true rfl, Nat.le_of_ble_eq_true rfl⟩) (h_preV hZ0 hK hE hI g_a (by decide) rfl) rfl rfl hl.1 rfl (lv_room (Nat.le_of_ble_eq_true rfl)) dX2_addNumber_2 ⟨Nat.le_of_ble_eq_true rfl, Nat.le_of_ble_eq_true rfl⟩) (fun M2 N3 R4 H locs q5 z_M2 hI => ?_)
  obtain ⟨rfl, rfl⟩ := q5
  exact h_vret hQ hx hb hr hlocks hK hI ⟨rfl, rfl⟩ dX2_addNumber_5
abbrev e_h_addTerm_X2 : List (Nat × Nat) := [(2, 2), (17, 999)]
set_option maxHeartbeats 4000000 in
set_option maxRecDepth 100000 in
theorem h_addTerm_X2 (l : Launch) (D : va_G) (g : Nat → ClassId) (σ : Nat → Option Nat) (Z : State → Heap → Prop) (hZ0 : hZ σ Z) (M : hM) (N : hN) (R : hR) (a : Nat) (g_a : σ a = some 2) (p1 : Int32) : Met l yX2_addTerm wsX2_addTerm ({ frames := 1, cells := 0, slots := 0, locals := 21 }) (va_Pc [.ref a, .int p1] (hPre D g σ Z M N R)) (hQv D g σ e_h_addTerm_X2 M (fun (M1 : hM) (N1 : hN) (R1 : hR) => N = N1 ∧ R = R1)) 0 0 (hA σ) := by
  refine h_head (cc := cX2_addTerm) (maxL := 2) (ret := none) (by decide) rfl (Nat.le_of_ble_eq_true rfl) e_h_addTerm_X2 ?_
  intro p e s m below meth c ls Q ar hQ hx hb hr hlocks hml hown hts hK hE H locs hI hl
  have hown : s.vm.findClass RX2 = some m.cls := hown
  have hl : lv_has ls 2 [(0, .ref a), (1, .int p1)] := hl
  refine lv_aload_n hx hb dX2_addTerm_0 rfl (lv_at hl 0 rfl) ?_
  refine lv_iconst (v := (-1)) hx hb dX2_addTerm_1 (by decide) ?_
  refine lv_iload_n hx hb dX2_addTerm_2 rfl (lv_at hl 1 rfl) ?_
  refine lv_isub hx hb dX2_addTerm_3 ?_
  refine h_nm (lo := (-2147483648)) (hi := 2147483647) (iv_any _) (fun v1 e_v1 i_v1 => ?_)
  refine h_gov hI (by decide) (va_runV (As := [.int v1]) (rest := []) ⟨hx, hb, hml, hown, hts⟩ (h_addStep_X2 l D g σ Z hZ0 M N R a g_a v1) (cwV 1 hts gX2_addTerm_X2_addStep rfl rfl rfl (by decide +kernel) ⟨Nat.le_of_ble_eq_true rfl, Nat.le_of_ble_eq_true rfl⟩) (h_preV hZ0 hK hE hI g_a (by decide) rfl) rfl rfl hl.1 rfl (lv_room (Nat.le_of_ble_eq_true rfl)) dX2_addTerm_4 ⟨Nat.le_of_ble_eq_true rfl, Nat.le_of_ble_eq_true rfl⟩) (fun M3 N4 R5 H locs q6 z_M3 hI => ?_)
  obtain ⟨rfl, rfl⟩ := q6
  exact h_vret hQ hx hb hr hlocks hK hI ⟨rfl, rfl⟩ dX2_addTerm_7
abbrev e_h_addUntold_X2 : List (Nat × Nat) := [(2, 2), (17, 999)]
set_option maxHeartbeats 4000000 in
set_option maxRecDepth 100000 in
theorem h_addUntold_X2 (l : Launch) (D : va_G) (g : Nat → ClassId) (σ : Nat → Option Nat) (Z : State → Heap → Prop) (hZ0 : hZ σ Z) (M : hM) (N : hN) (R : hR) (a : Nat) (g_a : σ a = some 2) : Met l yX2_addUntold wsX2_addUntold ({ frames := 2, cells := 0, slots := 0, locals := 42 }) (va_Pc [.ref a] (hPre D g σ Z M N R)) (hQv D g σ e_h_addUntold_X2 M (fun (M1 : hM) (N1 : hN) (R1 : hR) => N = N1 ∧ R = R1)) 0 0 (hA σ) := by
  refine h_head (cc := cX2_addUntold) (maxL := 1) (ret := none) (by decide) rfl (Nat.le_of_ble_eq_true rfl) e_h_addUntold_X2 ?_
  intro p e s m below meth c ls Q ar hQ hx hb hr hlocks hml hown hts hK hE H locs hI hl
  have hown : s.vm.findClass RX2 = some m.cls := hown
  have hl : lv_has ls 1 [(0, .ref a)] := hl
  refine lv_aload_n hx hb dX2_addUntold_0 rfl (lv_at hl 0 rfl) ?_
  refine lv_iconst (v := 0) hx hb dX2_addUntold_1 (by decide) ?_
  refine h_gov hI (by decide) (va_runV (As := [.int (0 : Int32)]) (rest := []) ⟨hx, hb, hml, hown, hts⟩ (h_addTerm_X2 l D g σ Z hZ0 M N R a g_a (0 : Int32)) (cwV 1 hts gX2_addUntold_X2_addTerm rfl rfl rfl (by decide +kernel) ⟨Nat.le_of_ble_eq_true rfl, Nat.le_of_ble_eq_true rfl⟩) (h_preV hZ0 hK hE hI g_a (by decide) rfl) rfl rfl hl.1 rfl (lv_room (Nat.le_of_ble_eq_true rfl)) dX2_addUntold_2 ⟨Nat.le_of_ble_eq_true rfl, Nat.le_of_ble_eq_true rfl⟩) (fun M2 N3 R4 H locs q5 z_M2 hI => ?_)
  obtain ⟨rfl, rfl⟩ := q5
  refine lv_aload_n hx hb dX2_addUntold_5 rfl (lv_at hl 0 rfl) ?_
  refine lv_iconst (v := 1) hx hb dX2_addUntold_6 (by decide) ?_
  refine h_gov hI (by decide) (va_runV (As := [.int (1 : Int32)]) (rest := []) ⟨hx, hb, hml, hown, hts⟩ (h_addTerm_X2 l D g σ Z hZ0 M2 N R a g_a (1 : Int32)) (cwV 1 hts gX2_addUntold_X2_addTerm rfl rfl rfl (by decide +kernel) ⟨Nat.le_of_ble_eq_true rfl, Nat.le_of_ble_eq_true rfl⟩) (h_preV hZ0 hK hE hI g_a (by decide) rfl) rfl rfl hl.1 rfl (lv_room (Nat.le_of_ble_eq_true rfl)) dX2_addUntold_7 ⟨Nat.le_of_ble_eq_true rfl, Nat.le_of_ble_eq_true rfl⟩) (fun M7 N8 R9 H locs q10 z_M7 hI => ?_)
  obtain ⟨rfl, rfl⟩ := q10
  refine lv_aload_n hx hb dX2_addUntold_10 rfl (lv_at hl 0 rfl) ?_
  refine lv_bipush (v := (-27)) hx hb dX2_addUntold_11 (by decide) ?_
  refine h_gov hI (by decide) (va_runV (As := [.int (-27 : Int32)]) (rest := []) ⟨hx, hb, hml, hown, hts⟩ (h_addStep_X2 l D g σ Z hZ0 M7 N R a g_a (-27 : Int32)) (cwV 1 hts gX2_addUntold_X2_addStep rfl rfl rfl (by decide +kernel) ⟨Nat.le_of_ble_eq_true rfl, Nat.le_of_ble_eq_true rfl⟩) (h_preV hZ0 hK hE hI g_a (by decide) rfl) rfl rfl hl.1 rfl (lv_room (Nat.le_of_ble_eq_true rfl)) dX2_addUntold_13 ⟨Nat.le_of_ble_eq_true rfl, Nat.le_of_ble_eq_true rfl⟩) (fun M12 N13 R14 H locs q15 z_M12 hI => ?_)
  obtain ⟨rfl, rfl⟩ := q15
  refine lv_aload_n hx hb dX2_addUntold_16 rfl (lv_at hl 0 rfl) ?_
  refine lv_iconst (v := 2) hx hb dX2_addUntold_17 (by decide) ?_
  refine h_gov hI (by decide) (va_runV (As := [.int (2 : Int32)]) (rest := []) ⟨hx, hb, hml, hown, hts⟩ (h_addTerm_X2 l D g σ Z hZ0 M12 N R a g_a (2 : Int32)) (cwV 1 hts gX2_addUntold_X2_addTerm rfl rfl rfl (by decide +kernel) ⟨Nat.le_of_ble_eq_true rfl, Nat.le_of_ble_eq_true rfl⟩) (h_preV hZ0 hK hE hI g_a (by decide) rfl) rfl rfl hl.1 rfl (lv_room (Nat.le_of_ble_eq_true rfl)) dX2_addUntold_18 ⟨Nat.le_of_ble_eq_true rfl, Nat.le_of_ble_eq_true rfl⟩) (fun M17 N18 R19 H locs q20 z_M17 hI => ?_)
  obtain ⟨rfl, rfl⟩ := q20
  refine lv_aload_n hx hb dX2_addUntold_21 rfl (lv_at hl 0 rfl) ?_
  refine lv_iconst (v := 3) hx hb dX2_addUntold_22 (by decide) ?_
  refine h_gov hI (by decide) (va_runV (As := [.int (3 : Int32)]) (rest := []) ⟨hx, hb, hml, hown, hts⟩ (h_addNumber_X2 l D g σ Z hZ0 M17 N R a g_a (3 : Int32)) (cwV 1 hts gX2_addUntold_X2_addNumber rfl rfl rfl (by decide +kernel) ⟨Nat.le_of_ble_eq_true rfl, Nat.le_of_ble_eq_true rfl⟩) (h_preV hZ0 hK hE hI g_a (by decide) rfl) rfl rfl hl.1 rfl (lv_room (Nat.le_of_ble_eq_true rfl)) dX2_addUntold_23 ⟨Nat.le_of_ble_eq_true rfl, Nat.le_of_ble_eq_true rfl⟩) (fun M22 N23 R24 H locs q25 z_M22 hI => ?_)
  obtain ⟨rfl, rfl⟩ := q25
  refine lv_aload_n hx hb dX2_addUntold_26 rfl (lv_at hl 0 rfl) ?_
  refine lv_bipush (v := (-28)) hx hb dX2_addUntold_27 (by decide) ?_
  refine h_gov hI (by decide) (va_runV (As := [.int (-28 : Int32)]) (rest := []) ⟨hx, hb, hml, hown, hts⟩ (h_addStep_X2 l D g σ Z hZ0 M22 N R a g_a (-28 : Int32)) (cwV 1 hts gX2_addUntold_X2_addStep rfl rfl rfl (by decide +kernel) ⟨Nat.le_of_ble_eq_true rfl, Nat.le_of_ble_eq_true rfl⟩) (h_preV hZ0 hK hE hI g_a (by decide) rfl) rfl rfl hl.1 rfl (lv_room (Nat.le_of_ble_eq_true rfl)) dX2_addUntold_29 ⟨Nat.le_of_ble_eq_true rfl, Nat.le_of_ble_eq_true rfl⟩) (fun M27 N28 R29 H locs q30 z_M27 hI => ?_)
  obtain ⟨rfl, rfl⟩ := q30
  refine lv_aload_n hx hb dX2_addUntold_32 rfl (lv_at hl 0 rfl) ?_
  refine lv_bipush (v := (-26)) hx hb dX2_addUntold_33 (by decide) ?_
  refine h_gov hI (by decide) (va_runV (As := [.int (-26 : Int32)]) (rest := []) ⟨hx, hb, hml, hown, hts⟩ (h_addStep_X2 l D g σ Z hZ0 M27 N R a g_a (-26 : Int32)) (cwV 1 hts gX2_addUntold_X2_addStep rfl rfl rfl (by decide +kernel) ⟨Nat.le_of_ble_eq_true rfl, Nat.le_of_ble_eq_true rfl⟩) (h_preV hZ0 hK hE hI g_a (by decide) rfl) rfl rfl hl.1 rfl (lv_room (Nat.le_of_ble_eq_true rfl)) dX2_addUntold_35 ⟨Nat.le_of_ble_eq_true rfl, Nat.le_of_ble_eq_true rfl⟩) (fun M32 N33 R34 H locs q35 z_M32 hI => ?_)
  obtain ⟨rfl, rfl⟩ := q35
  refine lv_aload_n hx hb dX2_addUntold_38 rfl (lv_at hl 0 rfl) ?_
  refine lv_iconst (v := 3) hx hb dX2_addUntold_39 (by decide) ?_
  refine h_gov hI (by decide) (va_runV (As := [.int (3 : Int32)]) (rest := []) ⟨hx, hb, hml, hown, hts⟩ (h_addTerm_X2 l D g σ Z hZ0 M32 N R a g_a (3 : Int32)) (cwV 1 hts gX2_addUntold_X2_addTerm rfl rfl rfl (by decide +kernel) ⟨Nat.le_of_ble_eq_true rfl, Nat.le_of_ble_eq_true rfl⟩) (h_preV hZ0 hK hE hI g_a (by decide) rfl) rfl rfl hl.1 rfl (lv_room (Nat.le_of_ble_eq_true rfl)) dX2_addUntold_40 ⟨Nat.le_of_ble_eq_true rfl, Nat.le_of_ble_eq_true rfl⟩) (fun M37 N38 R39 H locs q40 z_M37 hI => ?_)
  obtain ⟨rfl, rfl⟩ := q40
  refine lv_aload_n hx hb dX2_addUntold_43 rfl (lv_at hl 0 rfl) ?_
  refine lv_bipush (v := (-27)) hx hb dX2_addUntold_44 (by decide) ?_
  refine h_gov hI (by decide) (va_runV (As := [.int (-27 : Int32)]) (rest := []) ⟨hx, hb, hml, hown, hts⟩ (h_addStep_X2 l D g σ Z hZ0 M37 N R a g_a (-27 : Int32)) (cwV 1 hts gX2_addUntold_X2_addStep rfl rfl rfl (by decide +kernel) ⟨Nat.le_of_ble_eq_true rfl, Nat.le_of_ble_eq_true rfl⟩) (h_preV hZ0 hK hE hI g_a (by decide) rfl) rfl rfl hl.1 rfl (lv_room (Nat.le_of_ble_eq_true rfl)) dX2_addUntold_46 ⟨Nat.le_of_ble_eq_true rfl, Nat.le_of_ble_eq_true rfl⟩) (fun M42 N43 R44 H locs q45 z_M42 hI => ?_)
  obtain ⟨rfl, rfl⟩ := q45
  exact h_vret hQ hx hb hr hlocks hK hI ⟨rfl, rfl⟩ dX2_addUntold_49
abbrev e_h_unitValue_X2 : List (Nat × Nat) := []
set_option maxHeartbeats 4000000 in
set_option maxRecDepth 100000 in
theorem h_unitValue_X2 (l : Launch) (D : va_G) (g : Nat → ClassId) (σ : Nat → Option Nat) (Z : State → Heap → Prop) (hZ0 : hZ σ Z) (M : hM) (N : hN) (R : hR) (p1 : Int32) (h_p1 : iv p1 (-19) 2147483647) (b : Nat) (g_b : σ b = some 14) : Met l yX2_unitValue wsX2_unitValue ({ frames := 0, cells := 0, slots := 0, locals := 0 }) (va_Pc [.int p1, .ref b] (hPre D g σ Z M N R)) (hQi D g σ e_h_unitValue_X2 M (fun (r : Int32) (M1 : hM) (N1 : hN) (R1 : hR) => M = M1 ∧ N = N1 ∧ R = R1)) 0 0 (hA σ) := by
  refine h_head (cc := cX2_unitValue) (maxL := 3) (ret := (some .int)) (by decide) rfl (Nat.le_of_ble_eq_true rfl) e_h_unitValue_X2 ?_
  intro p e s m below meth c ls Q ar hQ hx hb hr hlocks hml hown hts hK hE H locs hI hl
  have hown : s.vm.findClass RX2 = some m.cls := hown
  have hl : lv_has ls 3 [(0, .int p1), (1, .ref b)] := hl
  refine lv_iload_n hx hb dX2_unitValue_0 rfl (lv_at hl 0 rfl) ?_
  refine lv_if_lt (tgt := 6) hx hb dX2_unitValue_1 (by decide) (fun c1 => ?_) (fun c1 => ?_)
  · have i2 : iv p1 (-19) (-1) := iv_lt1 c1 h_p1 kc_0 (by decide)
    refine lv_iconst (v := (-1)) hx hb dX2_unitValue_6 (by decide) ?_
    refine lv_iload_n hx hb dX2_unitValue_7 rfl (lv_at hl 0 rfl) ?_
    refine lv_isub hx hb dX2_unitValue_8 ?_
    refine h_nm (lo := 0) (hi := 18) (iv_sub kc_m1 i2 (by decide) (by decide) (by decide) (by decide)) (fun v3 e_v3 i_v3 => ?_)
    refine lv_istore_n (lv' := [(2, .int v3), (0, .int p1), (1, .ref b)]) hx hb dX2_unitValue_9 rfl hl (by decide) rfl (fun ls hl => ?_)
    refine lv_iload_n hx hb dX2_unitValue_10 rfl (lv_at hl 0 rfl) ?_
    refine lv_aload_n hx hb dX2_unitValue_11 rfl (lv_at hl 2 rfl) ?_
    refine h_alen (v := 7) hx hb hK hI g_b (by decide) rfl (by decide) (by decide) dX2_unitValue_12 ?_
    refine lv_icmp_ge (tgt := 22) hx hb dX2_unitValue_13 (by decide) (fun c4 => ?_) (fun c4 => ?_)
    · have i5 : iv v3 7 18 := iv_le2 c4 kc_7 i_v3 (by decide)
      refine lv_iconst (v := 0) hx hb dX2_unitValue_22 (by decide) ?_
      exact h_iret hQ hx hb hr hlocks rfl hK hI ⟨rfl, rfl, rfl⟩ dX2_unitValue_23
    · have i6 : iv v3 0 6 := iv_nle2 c4 kc_7 i_v3 (by decide)
      refine lv_aload_n hx hb dX2_unitValue_16 rfl (lv_at hl 2 rfl) ?_
      refine lv_iload_n hx hb dX2_unitValue_17 rfl (lv_at hl 0 rfl) ?_
      refine h_iald (j := v3.toNatClampNeg) (lo := (-2147483648)) (hi := 2147483647) hx hb hK hI g_b (by decide) rfl (iv_in (n := 7) i6 (by decide) (by decide)) rfl (iv_any _) dX2_unitValue_18 (fun v7 e_v7 i_v7 => ?_)
      refine lv_goto (tgt := 23) hx hb dX2_unitValue_19 (by decide) ?_
      exact h_iret hQ hx hb hr hlocks rfl hK hI ⟨rfl, rfl, rfl⟩ dX2_unitValue_23
  · have i8 : iv p1 0 2147483647 := iv_nlt1 c1 h_p1 kc_0 (by decide)
    refine lv_iload_n hx hb dX2_unitValue_4 rfl (lv_at hl 0 rfl) ?_
    exact h_iret hQ hx hb hr hlocks rfl hK hI ⟨rfl, rfl, rfl⟩ dX2_unitValue_5
abbrev e_h_joined_X2 : List (Nat × Nat) := []
set_option maxHeartbeats 4000000 in
set_option maxRecDepth 100000 in
theorem h_joined_X2 (l : Launch) (D : va_G) (g : Nat → ClassId) (σ : Nat → Option Nat) (Z : State → Heap → Prop) (hZ0 : hZ σ Z) (M : hM) (N : hN) (R : hR) (p1 : Int32) (p2 : Int32) (p3 : Int32) : Met l yX2_joined wsX2_joined ({ frames := 0, cells := 0, slots := 0, locals := 0 }) (va_Pc [.int p1, .int p2, .int p3] (hPre D g σ Z M N R)) (hQi D g σ e_h_joined_X2 M (fun (r : Int32) (M1 : hM) (N1 : hN) (R1 : hR) => M = M1 ∧ N = N1 ∧ R = R1)) 0 0 (hA σ) := by
  refine h_head (cc := cX2_joined) (maxL := 3) (ret := (some .int)) (by decide) rfl (Nat.le_of_ble_eq_true rfl) e_h_joined_X2 ?_
  intro p e s m below meth c ls Q ar hQ hx hb hr hlocks hml hown hts hK hE H locs hI hl
  have hown : s.vm.findClass RX2 = some m.cls := hown
  have hl : lv_has ls 3 [(0, .int p1), (1, .int p2), (2, .int p3)] := hl
  refine lv_iload_n hx hb dX2_joined_0 rfl (lv_at hl 0 rfl) ?_
  by_cases c1 : p1 = (-30)
  · refine lv_tableIn (tgt := 141) hx hb dX2_joined_1 (by rw [c1]; decide) (by rw [c1]; decide) (by rw [c1] <;> rfl) (by decide) ?_
    have i2 : iv p1 (-30) (-30) := iv_eq1 c1 (iv_any p1) kc_m30
    refine lv_iload_n hx hb dX2_joined_141 rfl (lv_at hl 2 rfl) ?_
    refine lv_if_ne (tgt := 149) hx hb dX2_joined_142 (by decide) (fun c3 => ?_) (fun c3 => ?_)
    · refine lv_iload_n hx hb dX2_joined_149 rfl (lv_at hl 1 rfl) ?_
      refine lv_iload_n hx hb dX2_joined_150 rfl (lv_at hl 2 rfl) ?_
      refine lv_irem hx hb dX2_joined_151 c3 ?_
      refine h_nm (lo := (-2147483648)) (hi := 2147483647) (iv_any _) (fun v4 e_v4 i_v4 => ?_)
      exact h_iret hQ hx hb hr hlocks rfl hK hI ⟨rfl, rfl, rfl⟩ dX2_joined_152
    · have i5 : iv p3 0 0 := iv_eq1 c3 (iv_any p3) kc_0
      refine lv_iconst (v := 0) hx hb dX2_joined_145 (by decide) ?_
      refine lv_goto (tgt := 152) hx hb dX2_joined_146 (by decide) ?_
      exact h_iret hQ hx hb hr hlocks rfl hK hI ⟨rfl, rfl, rfl⟩ dX2_joined_152
  by_cases c6 : p1 = (-29)
  · refine lv_tableIn (tgt := 129) hx hb dX2_joined_1 (by rw [c6]; decide) (by rw [c6]; decide) (by rw [c6] <;> rfl) (by decide) ?_
    have i7 : iv p1 (-29) (-29) := iv_eq1 c6 (iv_any p1) kc_m29
    refine lv_iload_n hx hb dX2_joined_129 rfl (lv_at hl 2 rfl) ?_
    refine lv_if_ne (tgt := 137) hx hb dX2_joined_130 (by decide) (fun c8 => ?_) (fun c8 => ?_)
    · refine lv_iload_n hx hb dX2_joined_137 rfl (lv_at hl 1 rfl) ?_
      refine lv_iload_n hx hb dX2_joined_138 rfl (lv_at hl 2 rfl) ?_
      refine lv_idiv hx hb dX2_joined_139 c8 ?_
      refine h_nm (lo := (-2147483648)) (hi := 2147483647) (iv_any _) (fun v9 e_v9 i_v9 => ?_)
      exact h_iret hQ hx hb hr hlocks rfl hK hI ⟨rfl, rfl, rfl⟩ dX2_joined_140
    · have i10 : iv p3 0 0 := iv_eq1 c8 (iv_any p3) kc_0
      refine lv_iconst (v := 0) hx hb dX2_joined_133 (by decide) ?_
      refine lv_goto (tgt := 140) hx hb dX2_joined_134 (by decide) ?_
      exact h_iret hQ hx hb hr hlocks rfl hK hI ⟨rfl, rfl, rfl⟩ dX2_joined_140
  by_cases c11 : p1 = (-28)
  · refine lv_tableIn (tgt := 125) hx hb dX2_joined_1 (by rw [c11]; decide) (by rw [c11]; decide) (by rw [c11] <;> rfl) (by decide) ?_
    have i12 : iv p1 (-28) (-28) := iv_eq1 c11 (iv_any p1) kc_m28
    refine lv_iload_n hx hb dX2_joined_125 rfl (lv_at hl 1 rfl) ?_
    refine lv_iload_n hx hb dX2_joined_126 rfl (lv_at hl 2 rfl) ?_
    refine lv_imul hx hb dX2_joined_127 ?_
    refine h_nm (lo := (-2147483648)) (hi := 2147483647) (iv_any _) (fun v13 e_v13 i_v13 => ?_)
    exact h_iret hQ hx hb hr hlocks rfl hK hI ⟨rfl, rfl, rfl⟩ dX2_joined_128
  by_cases c14 : p1 = (-27)
  · refine lv_tableIn (tgt := 121) hx hb dX2_joined_1 (by rw [c14]; decide) (by rw [c14]; decide) (by rw [c14] <;> rfl) (by decide) ?_
    have i15 : iv p1 (-27) (-27) := iv_eq1 c14 (iv_any p1) kc_m27
    refine lv_iload_n hx hb dX2_joined_121 rfl (lv_at hl 1 rfl) ?_
    refine lv_iload_n hx hb dX2_joined_122 rfl (lv_at hl 2 rfl) ?_
    refine lv_isub hx hb dX2_joined_123 ?_
    refine h_nm (lo := (-2147483648)) (hi := 2147483647) (iv_any _) (fun v16 e_v16 i_v16 => ?_)
    exact h_iret hQ hx hb hr hlocks rfl hK hI ⟨rfl, rfl, rfl⟩ dX2_joined_124
  by_cases c17 : p1 = (-26)
  · refine lv_tableIn (tgt := 117) hx hb dX2_joined_1 (by rw [c17]; decide) (by rw [c17]; decide) (by rw [c17] <;> rfl) (by decide) ?_
    have i18 : iv p1 (-26) (-26) := iv_eq1 c17 (iv_any p1) kc_m26
    refine lv_iload_n hx hb dX2_joined_117 rfl (lv_at hl 1 rfl) ?_
    refine lv_iload_n hx hb dX2_joined_118 rfl (lv_at hl 2 rfl) ?_
    refine lv_iadd hx hb dX2_joined_119 ?_
    refine h_nm (lo := (-2147483648)) (hi := 2147483647) (iv_any _) (fun v19 e_v19 i_v19 => ?_)
    exact h_iret hQ hx hb hr hlocks rfl hK hI ⟨rfl, rfl, rfl⟩ dX2_joined_120
  by_cases c20 : p1 = (-25)
  · refine lv_tableIn (tgt := 106) hx hb dX2_joined_1 (by rw [c20]; decide) (by rw [c20]; decide) (by rw [c20] <;> rfl) (by decide) ?_
    have i21 : iv p1 (-25) (-25) := iv_eq1 c20 (iv_any p1) kc_m25
    refine lv_iload_n hx hb dX2_joined_106 rfl (lv_at hl 1 rfl) ?_
    refine lv_iload_n hx hb dX2_joined_107 rfl (lv_at hl 2 rfl) ?_
    refine lv_icmp_ne (tgt := 115) hx hb dX2_joined_108 (by decide) (fun c22 => ?_) (fun c22 => ?_)
    · refine lv_iconst (v := 0) hx hb dX2_joined_115 (by decide) ?_
      exact h_iret hQ hx hb hr hlocks rfl hK hI ⟨rfl, rfl, rfl⟩ dX2_joined_116
    · refine lv_iconst (v := 1) hx hb dX2_joined_111 (by decide) ?_
      refine lv_goto (tgt := 116) hx hb dX2_joined_112 (by decide) ?_
      exact h_iret hQ hx hb hr hlocks rfl hK hI ⟨rfl, rfl, rfl⟩ dX2_joined_116
  by_cases c23 : p1 = (-24)
  · refine lv_tableIn (tgt := 95) hx hb dX2_joined_1 (by rw [c23]; decide) (by rw [c23]; decide) (by rw [c23] <;> rfl) (by decide) ?_
    have i24 : iv p1 (-24) (-24) := iv_eq1 c23 (iv_any p1) kc_m24
    refine lv_iload_n hx hb dX2_joined_95 rfl (lv_at hl 1 rfl) ?_
    refine lv_iload_n hx hb dX2_joined_96 rfl (lv_at hl 2 rfl) ?_
    refine lv_icmp_le (tgt := 104) hx hb dX2_joined_97 (by decide) (fun c25 => ?_) (fun c25 => ?_)
    · refine lv_iconst (v := 0) hx hb dX2_joined_104 (by decide) ?_
      exact h_iret hQ hx hb hr hlocks rfl hK hI ⟨rfl, rfl, rfl⟩ dX2_joined_105
    · have i26 : iv p2 (-2147483647) 2147483647 := iv_nle1 c25 (iv_any p2) (iv_any p3) (by decide)
      have i27 : iv p3 (-2147483648) 2147483646 := iv_nle2 c25 (iv_any p2) (iv_any p3) (by decide)
      refine lv_iconst (v := 1) hx hb dX2_joined_100 (by decide) ?_
      refine lv_goto (tgt := 105) hx hb dX2_joined_101 (by decide) ?_
      exact h_iret hQ hx hb hr hlocks rfl hK hI ⟨rfl, rfl, rfl⟩ dX2_joined_105
  by_cases c28 : p1 = (-23)
  · refine lv_tableIn (tgt := 84) hx hb dX2_joined_1 (by rw [c28]; decide) (by rw [c28]; decide) (by rw [c28] <;> rfl) (by decide) ?_
    have i29 : iv p1 (-23) (-23) := iv_eq1 c28 (iv_any p1) kc_m23
    refine lv_iload_n hx hb dX2_joined_84 rfl (lv_at hl 1 rfl) ?_
    refine lv_iload_n hx hb dX2_joined_85 rfl (lv_at hl 2 rfl) ?_
    refine lv_icmp_ge (tgt := 93) hx hb dX2_joined_86 (by decide) (fun c30 => ?_) (fun c30 => ?_)
    · refine lv_iconst (v := 0) hx hb dX2_joined_93 (by decide) ?_
      exact h_iret hQ hx hb hr hlocks rfl hK hI ⟨rfl, rfl, rfl⟩ dX2_joined_94
    · have i31 : iv p3 (-2147483647) 2147483647 := iv_nle1 c30 (iv_any p3) (iv_any p2) (by decide)
      have i32 : iv p2 (-2147483648) 2147483646 := iv_nle2 c30 (iv_any p3) (iv_any p2) (by decide)
      refine lv_iconst (v := 1) hx hb dX2_joined_89 (by decide) ?_
      refine lv_goto (tgt := 94) hx hb dX2_joined_90 (by decide) ?_
      exact h_iret hQ hx hb hr hlocks rfl hK hI ⟨rfl, rfl, rfl⟩ dX2_joined_94
  by_cases c33 : p1 = (-22)
  · refine lv_tableIn (tgt := 70) hx hb dX2_joined_1 (by rw [c33]; decide) (by rw [c33]; decide) (by rw [c33] <;> rfl) (by decide) ?_
    have i34 : iv p1 (-22) (-22) := iv_eq1 c33 (iv_any p1) kc_m22
    refine lv_iload_n hx hb dX2_joined_70 rfl (lv_at hl 1 rfl) ?_
    refine lv_if_eq (tgt := 82) hx hb dX2_joined_71 (by decide) (fun c35 => ?_) (fun c35 => ?_)
    · have i36 : iv p2 0 0 := iv_eq1 c35 (iv_any p2) kc_0
      refine lv_iconst (v := 0) hx hb dX2_joined_82 (by decide) ?_
      exact h_iret hQ hx hb hr hlocks rfl hK hI ⟨rfl, rfl, rfl⟩ dX2_joined_83
    · refine lv_iload_n hx hb dX2_joined_74 rfl (lv_at hl 2 rfl) ?_
      refine lv_if_eq (tgt := 82) hx hb dX2_joined_75 (by decide) (fun c37 => ?_) (fun c37 => ?_)
      · have i38 : iv p3 0 0 := iv_eq1 c37 (iv_any p3) kc_0
        refine lv_iconst (v := 0) hx hb dX2_joined_82 (by decide) ?_
        exact h_iret hQ hx hb hr hlocks rfl hK hI ⟨rfl, rfl, rfl⟩ dX2_joined_83
      · refine lv_iconst (v := 1) hx hb dX2_joined_78 (by decide) ?_
        refine lv_goto (tgt := 83) hx hb dX2_joined_79 (by decide) ?_
        exact h_iret hQ hx hb hr hlocks rfl hK hI ⟨rfl, rfl, rfl⟩ dX2_joined_83
  by_cases c39 : p1 = (-21)
  · refine lv_tableIn (tgt := 56) hx hb dX2_joined_1 (by rw [c39]; decide) (by rw [c39]; decide) (by rw [c39] <;> rfl) (by decide) ?_
    have i40 : iv p1 (-21) (-21) := iv_eq1 c39 (iv_any p1) kc_m21
    refine lv_iload_n hx hb dX2_joined_56 rfl (lv_at hl 1 rfl) ?_
    have J64 : ∀ (H : Heap) (locs : List Loc) (ls : Array Slot), kI D g σ e_h_joined_X2 M s.heap M N R H locs → lv_has ls 3 [] → W p l e (headSpec wsX2_joined ({ frames := 0, cells := 0, slots := 0, locals := 0 })).room s m ar below meth c H locs 0 0 Q (F0 m 64 ls []) := by
      intro H locs ls hI hl
      refine lv_iconst (v := 1) hx hb dX2_joined_64 (by decide) ?_
      refine lv_goto (tgt := 69) hx hb dX2_joined_65 (by decide) ?_
      exact h_iret hQ hx hb hr hlocks rfl hK hI ⟨rfl, rfl, rfl⟩ dX2_joined_69
    refine lv_if_ne (tgt := 64) hx hb dX2_joined_57 (by decide) (fun c41 => ?_) (fun c41 => ?_)
    · exact J64 H locs ls hI (lv_sub hl [] rfl)
    · have i42 : iv p2 0 0 := iv_eq1 c41 (iv_any p2) kc_0
      refine lv_iload_n hx hb dX2_joined_60 rfl (lv_at hl 2 rfl) ?_
      refine lv_if_eq (tgt := 68) hx hb dX2_joined_61 (by decide) (fun c43 => ?_) (fun c43 => ?_)
      · have i44 : iv p3 0 0 := iv_eq1 c43 (iv_any p3) kc_0
        refine lv_iconst (v := 0) hx hb dX2_joined_68 (by decide) ?_
        exact h_iret hQ hx hb hr hlocks rfl hK hI ⟨rfl, rfl, rfl⟩ dX2_joined_69
      · exact J64 H locs ls hI (lv_sub hl [] rfl)
  refine lv_tableOut (tgt := 153) hx hb dX2_joined_1 (by have km30 : (-30 : Int32).toInt = -30 := (by decide); have zc1 : ¬ p1.toInt = -30 := fun h9 => c1 (Int32.toInt_inj.mp (h9.trans km30.symm)); have km29 : (-29 : Int32).toInt = -29 := (by decide); have zc6 : ¬ p1.toInt = -29 := fun h9 => c6 (Int32.toInt_inj.mp (h9.trans km29.symm)); have km28 : (-28 : Int32).toInt = -28 := (by decide); have zc11 : ¬ p1.toInt = -28 := fun h9 => c11 (Int32.toInt_inj.mp (h9.trans km28.symm)); have km27 : (-27 : Int32).toInt = -27 := (by decide); have zc14 : ¬ p1.toInt = -27 := fun h9 => c14 (Int32.toInt_inj.mp (h9.trans km27.symm)); have km26 : (-26 : Int32).toInt = -26 := (by decide); have zc17 : ¬ p1.toInt = -26 := fun h9 => c17 (Int32.toInt_inj.mp (h9.trans km26.symm)); have km25 : (-25 : Int32).toInt = -25 := (by decide); have zc20 : ¬ p1.toInt = -25 := fun h9 => c20 (Int32.toInt_inj.mp (h9.trans km25.symm)); have km24 : (-24 : Int32).toInt = -24 := (by decide); have zc23 : ¬ p1.toInt = -24 := fun h9 => c23 (Int32.toInt_inj.mp (h9.trans km24.symm)); have km23 : (-23 : Int32).toInt = -23 := (by decide); have zc28 : ¬ p1.toInt = -23 := fun h9 => c28 (Int32.toInt_inj.mp (h9.trans km23.symm)); have km22 : (-22 : Int32).toInt = -22 := (by decide); have zc33 : ¬ p1.toInt = -22 := fun h9 => c33 (Int32.toInt_inj.mp (h9.trans km22.symm)); have km21 : (-21 : Int32).toInt = -21 := (by decide); have zc39 : ¬ p1.toInt = -21 := fun h9 => c39 (Int32.toInt_inj.mp (h9.trans km21.symm)); have h8 := (iv_any p1); simp only [iv] at h8; omega) (by decide) ?_
  refine lv_iconst (v := 0) hx hb dX2_joined_153 (by decide) ?_
  exact h_iret hQ hx hb hr hlocks rfl hK hI ⟨rfl, rfl, rfl⟩ dX2_joined_154
abbrev e_h_value_X2 : List (Nat × Nat) := [(18, 999)]
set_option maxHeartbeats 4000000 in
set_option maxRecDepth 100000 in
theorem h_value_X2 (l : Launch) (D : va_G) (g : Nat → ClassId) (σ : Nat → Option Nat) (Z : State → Heap → Prop) (hZ0 : hZ σ Z) (M : hM) (N : hN) (R : hR) (a : Nat) (g_a : σ a = some 2) (b : Nat) (g_b : σ b = some 14) : Met l yX2_value wsX2_value ({ frames := 1, cells := 0, slots := 0, locals := 22 }) (va_Pc [.ref a, .ref b] (hPre D g σ Z M N R)) (hQi D g σ e_h_value_X2 M (fun (r : Int32) (M1 : hM) (N1 : hN) (R1 : hR) => N = N1 ∧ R = R1)) 0 0 (hA σ) := by
  refine h_head (cc := cX2_value) (maxL := 5) (ret := (some .int)) (by decide) rfl (Nat.le_of_ble_eq_true rfl) e_h_value_X2 ?_
  intro p e s m below meth c ls Q ar hQ hx hb hr hlocks hml hown hts hK hE H locs hI hl
  have hown : s.vm.findClass RX2 = some m.cls := hown
  have hl : lv_has ls 5 [(0, .ref a), (1, .ref b)] := hl
  refine lv_iconst (v := 0) hx hb dX2_value_0 (by decide) ?_
  refine lv_istore_n (lv' := [(2, .int (0 : Int32)), (0, .ref a), (1, .ref b)]) hx hb dX2_value_1 rfl hl (by decide) rfl (fun ls hl => ?_)
  refine lv_iconst (v := 0) hx hb dX2_value_2 (by decide) ?_
  have J4 : ∀ (n : Nat) (M_4 : hM) (v2_4 : Int32) (v3_4 : Int32) (H : Heap) (locs : List Loc) (ls : Array Slot), kI D g σ e_h_value_X2 M s.heap M_4 N R H locs → lv_has ls 5 [(0, .ref a), (1, .ref b), (2, .int v2_4), (3, .int v3_4)] → iv v2_4 0 30 → iv v3_4 0 270 → 271 ≤ v3_4.toInt + (n : Int) → W p l e (headSpec wsX2_value ({ frames := 1, cells := 0, slots := 0, locals := 22 })).room s m ar below meth c H locs 0 0 Q (F0 m 4 ls []) := by
    intro n
    induction n with
    | zero => intro M_4 v2_4 v3_4 H locs ls hI hl i_v2_4 i_v3_4 hn; exfalso; have hz := i_v3_4; simp only [iv] at hz; omega
    | succ n ih4 =>
      intro M_4 v2_4 v3_4 H locs ls hI hl i_v2_4 i_v3_4 hn4
      refine lv_iload_n hx hb dX2_value_4 rfl (lv_at hl 3 rfl) ?_
      refine lv_aload_n hx hb dX2_value_5 rfl (lv_at hl 0 rfl) ?_
      refine h_geti (lo := 0) (hi := 270) hx hb hts iX2_value_X2 hown hK hI g_a (by decide) rfl rfl 2 (by decide) rfl rfl (hts (.fieldLink RX2 16 "CatLeases$Formula" "length" "I") (List.mem_of_getElem? (i := 1) rfl)) (fun _ h9 => h9) dX2_value_6 (fun v1 e_v1 i_v1 => ?_)
      refine lv_icmp_ge (tgt := 134) hx hb dX2_value_9 (by decide) (fun c2 => ?_) (fun c2 => ?_)
      · refine lv_iload_n hx hb dX2_value_134 rfl (lv_at hl 2 rfl) ?_
        refine lv_if_le (tgt := 147) hx hb dX2_value_135 (by decide) (fun c3 => ?_) (fun c3 => ?_)
        · have i4 : iv v2_4 0 0 := iv_le1 c3 i_v2_4 kc_0 (by decide)
          refine lv_iconst (v := 0) hx hb dX2_value_147 (by decide) ?_
          exact h_iret hQ hx hb hr hlocks rfl hK hI ⟨rfl, rfl⟩ dX2_value_148
        · have i5 : iv v2_4 1 30 := iv_nle1 c3 i_v2_4 kc_0 (by decide)
          refine lv_aload_n hx hb dX2_value_138 rfl (lv_at hl 0 rfl) ?_
          refine h_getr hx hb hts iX2_value_X2 hown hK hI g_a (by decide) rfl rfl 1 (by decide) rfl 18 rfl (hts (.fieldLink RX2 13 "CatLeases$Formula" "stack" "[I") (List.mem_of_getElem? (i := 3) rfl)) (fun _ h9 => h9) dX2_value_139 (fun a6 e_a6 g_a6 => ?_)
          refine lv_iconst (v := 0) hx hb dX2_value_142 (by decide) ?_
          refine h_iald (j := 0) (lo := (-2147483648)) (hi := 2147483647) hx hb hK hI g_a6 (by decide) rfl (iv_in (n := 30) kc_0 (by decide) (by decide)) (by decide) (iv_any _) dX2_value_143 (fun v7 e_v7 i_v7 => ?_)
          refine lv_goto (tgt := 148) hx hb dX2_value_144 (by decide) ?_
          exact h_iret hQ hx hb hr hlocks rfl hK hI ⟨rfl, rfl⟩ dX2_value_148
      · have i8 : iv v1 1 270 := iv_nle1 c2 i_v1 i_v3_4 (by decide)
        have i9 : iv v3_4 0 269 := iv_nle2 c2 i_v1 i_v3_4 (by decide)
        refine lv_aload_n hx hb dX2_value_12 rfl (lv_at hl 0 rfl) ?_
        refine h_getr hx hb hts iX2_value_X2 hown hK hI g_a (by decide) rfl rfl 0 (by decide) rfl 17 rfl (hts (.fieldLink RX2 9 "CatLeases$Formula" "steps" "[I") (List.mem_of_getElem? (i := 2) rfl)) (fun _ h9 => h9) dX2_value_13 (fun a10 e_a10 g_a10 => ?_)
        refine lv_iload_n hx hb dX2_value_16 rfl (lv_at hl 3 rfl) ?_
        refine h_iald (j := v3_4.toNatClampNeg) (lo := (-2147483648)) (hi := 2147483647) hx hb hK hI g_a10 (by decide) rfl (iv_in (n := 270) i9 (by decide) (by decide)) rfl (iv_any _) dX2_value_17 (fun v11 e_v11 i_v11 => ?_)
        refine lv_istore (lv' := [(4, .int v11), (0, .ref a), (1, .ref b), (2, .int v2_4), (3, .int v3_4)]) hx hb dX2_value_18 hl (by decide) rfl (fun ls hl => ?_)
        refine lv_iload hx hb dX2_value_20 (lv_at hl 0 rfl) ?_
        refine lv_bipush (v := (-20)) hx hb dX2_value_22 (by decide) ?_
        have J128 : ∀ (M_128 : hM) (v2_128 : Int32) (H : Heap) (locs : List Loc) (ls : Array Slot), kI D g σ e_h_value_X2 M s.heap M_128 N R H locs → lv_has ls 5 [(0, .ref a), (1, .ref b), (2, .int v2_128), (3, .int v3_4)] → v1 = M_128 a 2 → iv v2_128 0 30 → W p l e (headSpec wsX2_value ({ frames := 1, cells := 0, slots := 0, locals := 22 })).room s m ar below meth c H locs 0 0 Q (F0 m 128 ls []) := by
          intro M_128 v2_128 H locs ls hI hl k0_128 i_v2_128
          obtain ⟨v12, e_v12⟩ : ∃ z : Int32, z = v3_4 + Int32.ofInt 1 := ⟨_, rfl⟩
          have i_v12 : iv v12 1 270 := by rw [e_v12]; exact iv_add i9 (ki_1) (by decide) (by decide) (by decide) (by decide)
          refine lv_iinc (v := v12) (lv' := [(3, .int v12), (0, .ref a), (1, .ref b), (2, .int v2_128)]) hx hb dX2_value_128 hl (k := 3) rfl e_v12.symm (by decide) rfl (fun ls hl => ?_)
          refine lv_goto (tgt := 4) hx hb dX2_value_131 (by decide) ?_
          exact ih4 M_128 v2_128 v12 H locs ls hI (lv_sub hl [1, 2, 3, 0] rfl) i_v2_128 (iv_w (lo' := 0) (hi' := 270) i_v12 (by decide) (by decide)) (by have h9 := (h_inc e_v12 i9 ki_1 (by decide) (by decide)); omega)
        refine lv_icmp_le (tgt := 54) hx hb dX2_value_24 (by decide) (fun c13 => ?_) (fun c13 => ?_)
        · have i14 : iv v11 (-2147483648) (-20) := iv_le1 c13 i_v11 kc_m20 (by decide)
          refine lv_iload hx hb dX2_value_54 (lv_at hl 0 rfl) ?_
          refine lv_bipush (v := (-20)) hx hb dX2_value_56 (by decide) ?_
          refine lv_icmp_ne (tgt := 93) hx hb dX2_value_58 (by decide) (fun c15 => ?_) (fun c15 => ?_)
          · have i16 : iv v11 (-2147483648) (-21) := iv_neH c15 i14 (by decide) (by decide)
            refine lv_iload_n hx hb dX2_value_93 rfl (lv_at hl 3 rfl) ?_
            refine lv_iconst (v := 2) hx hb dX2_value_94 (by decide) ?_
            refine lv_icmp_lt (tgt := 128) hx hb dX2_value_95 (by decide) (fun c17 => ?_) (fun c17 => ?_)
            · have i18 : iv v2_4 0 1 := iv_lt1 c17 i_v2_4 kc_2 (by decide)
              exact J128 M_4 v2_4 H locs ls hI (lv_sub hl [1, 2, 3, 4] rfl) (e_v1) (iv_w (lo' := 0) (hi' := 30) i18 (by decide) (by decide))
            · have i19 : iv v2_4 2 30 := iv_nlt1 c17 i_v2_4 kc_2 (by decide)
              obtain ⟨v20, e_v20⟩ : ∃ z : Int32, z = v2_4 + Int32.ofInt (-1) := ⟨_, rfl⟩
              have i_v20 : iv v20 1 29 := by rw [e_v20]; exact iv_add i19 (ki_m1) (by decide) (by decide) (by decide) (by decide)
              refine lv_iinc (v := v20) (lv' := [(2, .int v20), (4, .int v11), (0, .ref a), (1, .ref b), (3, .int v3_4)]) hx hb dX2_value_98 hl (k := 3) rfl e_v20.symm (by decide) rfl (fun ls hl => ?_)
              refine lv_aload_n hx hb dX2_value_101 rfl (lv_at hl 2 rfl) ?_
              refine h_getr hx hb hts iX2_value_X2 hown hK hI g_a (by decide) rfl rfl 1 (by decide) rfl 18 rfl (hts (.fieldLink RX2 13 "CatLeases$Formula" "stack" "[I") (List.mem_of_getElem? (i := 3) rfl)) (fun _ h9 => h9) dX2_value_102 (fun a21 e_a21 g_a21 => ?_)
              refine lv_iload_n hx hb dX2_value_105 rfl (lv_at hl 0 rfl) ?_
              refine lv_iconst (v := 1) hx hb dX2_value_106 (by decide) ?_
              refine lv_isub hx hb dX2_value_107 ?_
              refine h_nm (lo := 0) (hi := 28) (iv_sub i_v20 kc_1 (by decide) (by decide) (by decide) (by decide)) (fun v22 e_v22 i_v22 => ?_)
              refine lv_iload hx hb dX2_value_108 (lv_at hl 1 rfl) ?_
              refine lv_aload_n hx hb dX2_value_110 rfl (lv_at hl 2 rfl) ?_
              refine h_getr hx hb hts iX2_value_X2 hown hK hI g_a (by decide) rfl rfl 1 (by decide) rfl 18 rfl (hts (.fieldLink RX2 13 "CatLeases$Formula" "stack" "[I") (List.mem_of_getElem? (i := 3) rfl)) (fun _ h9 => h9) dX2_value_111 (fun a23 e_a23 g_a23 => ?_)
              have q24 : a21 = a23 := (e_a21).trans e_a23.symm
              subst q24
              refine lv_iload_n hx hb dX2_value_114 rfl (lv_at hl 0 rfl) ?_
              refine lv_iconst (v := 1) hx hb dX2_value_115 (by decide) ?_
              refine lv_isub hx hb dX2_value_116 ?_
              refine h_nm (lo := 0) (hi := 28) (iv_sub i_v20 kc_1 (by decide) (by decide) (by decide) (by decide)) (fun v25 e_v25 i_v25 => ?_)
              refine h_iald (j := v25.toNatClampNeg) (lo := (-2147483648)) (hi := 2147483647) hx hb hK hI g_a21 (by decide) rfl (iv_in (n := 30) i_v25 (by decide) (by decide)) rfl (iv_any _) dX2_value_117 (fun v26 e_v26 i_v26 => ?_)
              refine lv_aload_n hx hb dX2_value_118 rfl (lv_at hl 2 rfl) ?_
              refine h_getr hx hb hts iX2_value_X2 hown hK hI g_a (by decide) rfl rfl 1 (by decide) rfl 18 rfl (hts (.fieldLink RX2 13 "CatLeases$Formula" "stack" "[I") (List.mem_of_getElem? (i := 3) rfl)) (fun _ h9 => h9) dX2_value_119 (fun a27 e_a27 g_a27 => ?_)
              have q28 : a21 = a27 := (e_a21).trans e_a27.symm
              subst q28
              refine lv_iload_n hx hb dX2_value_122 rfl (lv_at hl 0 rfl) ?_
              refine h_iald (j := v20.toNatClampNeg) (lo := (-2147483648)) (hi := 2147483647) hx hb hK hI g_a21 (by decide) rfl (iv_in (n := 30) i_v20 (by decide) (by decide)) rfl (iv_any _) dX2_value_123 (fun v29 e_v29 i_v29 => ?_)
              refine h_goi hI (by decide) (va_runS (As := [.int v11, .int v26, .int v29]) (rest := [.int v22, .ref a21]) ⟨hx, hb, hml, hown, hts⟩ (h_joined_X2 l D g σ Z hZ0 M_4 N R v11 v26 v29) (va_cwS 3 hts gX2_value_X2_joined rfl rfl rfl (by decide +kernel) ⟨Nat.le_of_ble_eq_true rfl, Nat.le_of_ble_eq_true rfl⟩) (h_preS hZ0 hK hE hI) rfl rfl hl.1 rfl (lv_room (Nat.le_of_ble_eq_true rfl)) dX2_value_124 ⟨Nat.le_of_ble_eq_true rfl, Nat.le_of_ble_eq_true rfl⟩) (fun r30 M31 N32 R33 H locs q34 z_M31 hI => ?_)
              obtain ⟨rfl, rfl, rfl⟩ := q34
              refine h_iast (j := v22.toNatClampNeg) hx hb hK hI g_a21 (by decide) rfl (iv_in (n := 30) i_v22 (by decide) (by decide)) rfl (iv_any _) rfl dX2_value_127 (fun M35 H locs e_M35 hI => ?_)
              exact J128 M35 v20 H locs ls hI (lv_sub hl [2, 3, 0, 4] rfl) ((e_v1).trans (u2_st (a := a) (k := 2) e_M35 (u2_a (so_ne g_a g_a21 (by decide)))).symm) (iv_w (lo' := 0) (hi' := 30) i_v20 (by decide) (by decide))
          · have i36 : iv v11 (-20) (-20) := iv_eq1 c15 i14 kc_m20
            refine lv_iload_n hx hb dX2_value_61 rfl (lv_at hl 3 rfl) ?_
            refine lv_iconst (v := 1) hx hb dX2_value_62 (by decide) ?_
            refine lv_icmp_lt (tgt := 128) hx hb dX2_value_63 (by decide) (fun c37 => ?_) (fun c37 => ?_)
            · have i38 : iv v2_4 0 0 := iv_lt1 c37 i_v2_4 kc_1 (by decide)
              exact J128 M_4 v2_4 H locs ls hI (lv_sub hl [1, 2, 3, 4] rfl) (e_v1) (iv_w (lo' := 0) (hi' := 30) i38 (by decide) (by decide))
            · have i39 : iv v2_4 1 30 := iv_nlt1 c37 i_v2_4 kc_1 (by decide)
              refine lv_aload_n hx hb dX2_value_66 rfl (lv_at hl 1 rfl) ?_
              refine h_getr hx hb hts iX2_value_X2 hown hK hI g_a (by decide) rfl rfl 1 (by decide) rfl 18 rfl (hts (.fieldLink RX2 13 "CatLeases$Formula" "stack" "[I") (List.mem_of_getElem? (i := 3) rfl)) (fun _ h9 => h9) dX2_value_67 (fun a40 e_a40 g_a40 => ?_)
              refine lv_iload_n hx hb dX2_value_70 rfl (lv_at hl 3 rfl) ?_
              refine lv_iconst (v := 1) hx hb dX2_value_71 (by decide) ?_
              refine lv_isub hx hb dX2_value_72 ?_
              refine h_nm (lo := 0) (hi := 29) (iv_sub i39 kc_1 (by decide) (by decide) (by decide) (by decide)) (fun v41 e_v41 i_v41 => ?_)
              refine lv_aload_n hx hb dX2_value_73 rfl (lv_at hl 1 rfl) ?_
              refine h_getr hx hb hts iX2_value_X2 hown hK hI g_a (by decide) rfl rfl 1 (by decide) rfl 18 rfl (hts (.fieldLink RX2 13 "CatLeases$Formula" "stack" "[I") (List.mem_of_getElem? (i := 3) rfl)) (fun _ h9 => h9) dX2_value_74 (fun a42 e_a42 g_a42 => ?_)
              have q43 : a40 = a42 := (e_a40).trans e_a42.symm
              subst q43
              refine lv_iload_n hx hb dX2_value_77 rfl (lv_at hl 3 rfl) ?_
              refine lv_iconst (v := 1) hx hb dX2_value_78 (by decide) ?_
              refine lv_isub hx hb dX2_value_79 ?_
              refine h_nm (lo := 0) (hi := 29) (iv_sub i39 kc_1 (by decide) (by decide) (by decide) (by decide)) (fun v44 e_v44 i_v44 => ?_)
              refine h_iald (j := v44.toNatClampNeg) (lo := (-2147483648)) (hi := 2147483647) hx hb hK hI g_a40 (by decide) rfl (iv_in (n := 30) i_v44 (by decide) (by decide)) rfl (iv_any _) dX2_value_80 (fun v45 e_v45 i_v45 => ?_)
              have J89 : ∀ (t2_89 : Int32) (H : Heap) (locs : List Loc) (ls : Array Slot), kI D g σ e_h_value_X2 M s.heap M_4 N R H locs → lv_has ls 5 [(0, .ref a), (1, .ref b), (2, .int v2_4), (3, .int v3_4)] → iv t2_89 0 1 → W p l e (headSpec wsX2_value ({ frames := 1, cells := 0, slots := 0, locals := 22 })).room s m ar below meth c H locs 0 0 Q (F0 m 89 ls [.int t2_89, .int v41, .ref a40]) := by
                intro t2_89 H locs ls hI hl i_t2_89
                refine h_iast (j := v41.toNatClampNeg) hx hb hK hI g_a40 (by decide) rfl (iv_in (n := 30) i_v41 (by decide) (by decide)) rfl (iv_any _) rfl dX2_value_89 (fun M46 H locs e_M46 hI => ?_)
                refine lv_goto (tgt := 128) hx hb dX2_value_90 (by decide) ?_
                exact J128 M46 v2_4 H locs ls hI hl ((e_v1).trans (u2_st (a := a) (k := 2) e_M46 (u2_a (so_ne g_a g_a40 (by decide)))).symm) (iv_w (lo' := 0) (hi' := 30) i39 (by decide) (by decide))
              refine lv_if_ne (tgt := 88) hx hb dX2_value_81 (by decide) (fun c47 => ?_) (fun c47 => ?_)
              · refine lv_iconst (v := 0) hx hb dX2_value_88 (by decide) ?_
                exact J89 (0 : Int32) H locs ls hI (lv_sub hl [1, 2, 3, 4] rfl) (iv_w (lo' := 0) (hi' := 1) kc_0 (by decide) (by decide))
              · have i48 : iv v45 0 0 := iv_eq1 c47 i_v45 kc_0
                refine lv_iconst (v := 1) hx hb dX2_value_84 (by decide) ?_
                refine lv_goto (tgt := 89) hx hb dX2_value_85 (by decide) ?_
                exact J89 (1 : Int32) H locs ls hI (lv_sub hl [1, 2, 3, 4] rfl) (iv_w (lo' := 0) (hi' := 1) kc_1 (by decide) (by decide))
        · have i49 : iv v11 (-19) 2147483647 := iv_nle1 c13 i_v11 kc_m20 (by decide)
          refine lv_iload_n hx hb dX2_value_27 rfl (lv_at hl 3 rfl) ?_
          refine lv_aload_n hx hb dX2_value_28 rfl (lv_at hl 1 rfl) ?_
          refine h_getr hx hb hts iX2_value_X2 hown hK hI g_a (by decide) rfl rfl 1 (by decide) rfl 18 rfl (hts (.fieldLink RX2 13 "CatLeases$Formula" "stack" "[I") (List.mem_of_getElem? (i := 3) rfl)) (fun _ h9 => h9) dX2_value_29 (fun a50 e_a50 g_a50 => ?_)
          refine h_alen (v := 30) hx hb hK hI g_a50 (by decide) rfl (by decide) (by decide) dX2_value_32 ?_
          refine lv_icmp_ge (tgt := 128) hx hb dX2_value_33 (by decide) (fun c51 => ?_) (fun c51 => ?_)
          · have i52 : iv v2_4 30 30 := iv_le2 c51 kc_30 i_v2_4 (by decide)
            exact J128 M_4 v2_4 H locs ls hI (lv_sub hl [1, 2, 3, 4] rfl) (e_v1) (iv_w (lo' := 0) (hi' := 30) i52 (by decide) (by decide))
          · have i53 : iv v2_4 0 29 := iv_nle2 c51 kc_30 i_v2_4 (by decide)
            refine lv_aload_n hx hb dX2_value_36 rfl (lv_at hl 1 rfl) ?_
            refine h_getr hx hb hts iX2_value_X2 hown hK hI g_a (by decide) rfl rfl 1 (by decide) rfl 18 rfl (hts (.fieldLink RX2 13 "CatLeases$Formula" "stack" "[I") (List.mem_of_getElem? (i := 3) rfl)) (fun _ h9 => h9) dX2_value_37 (fun a54 e_a54 g_a54 => ?_)
            have q55 : a50 = a54 := (e_a50).trans e_a54.symm
            subst q55
            refine lv_iload_n hx hb dX2_value_40 rfl (lv_at hl 3 rfl) ?_
            refine lv_iload hx hb dX2_value_41 (lv_at hl 0 rfl) ?_
            refine lv_aload_n hx hb dX2_value_43 rfl (lv_at hl 2 rfl) ?_
            refine h_goi hI (by decide) (va_runS (As := [.int v11, .ref b]) (rest := [.int v2_4, .ref a50]) ⟨hx, hb, hml, hown, hts⟩ (h_unitValue_X2 l D g σ Z hZ0 M_4 N R v11 i49 b g_b) (va_cwS 2 hts gX2_value_X2_unitValue rfl rfl rfl (by decide +kernel) ⟨Nat.le_of_ble_eq_true rfl, Nat.le_of_ble_eq_true rfl⟩) (h_preS hZ0 hK hE hI) rfl rfl hl.1 rfl (lv_room (Nat.le_of_ble_eq_true rfl)) dX2_value_44 ⟨Nat.le_of_ble_eq_true rfl, Nat.le_of_ble_eq_true rfl⟩) (fun r56 M57 N58 R59 H locs q60 z_M57 hI => ?_)
            obtain ⟨rfl, rfl, rfl⟩ := q60
            refine h_iast (j := v2_4.toNatClampNeg) hx hb hK hI g_a50 (by decide) rfl (iv_in (n := 30) i53 (by decide) (by decide)) rfl (iv_any _) rfl dX2_value_47 (fun M61 H locs e_M61 hI => ?_)
            obtain ⟨v62, e_v62⟩ : ∃ z : Int32, z = v2_4 + Int32.ofInt 1 := ⟨_, rfl⟩
            have i_v62 : iv v62 1 30 := by rw [e_v62]; exact iv_add i53 (ki_1) (by decide) (by decide) (by decide) (by decide)
            refine lv_iinc (v := v62) (lv' := [(2, .int v62), (4, .int v11), (0, .ref a), (1, .ref b), (3, .int v3_4)]) hx hb dX2_value_48 hl (k := 3) rfl e_v62.symm (by decide) rfl (fun ls hl => ?_)
            refine lv_goto (tgt := 128) hx hb dX2_value_51 (by decide) ?_
            exact J128 M61 v62 H locs ls hI (lv_sub hl [2, 3, 0, 4] rfl) ((e_v1).trans (u2_st (a := a) (k := 2) e_M61 (u2_a (so_ne g_a g_a50 (by decide)))).symm) (iv_w (lo' := 0) (hi' := 30) i_v62 (by decide) (by decide))
  refine lv_istore_n (lv' := [(3, .int (0 : Int32)), (2, .int (0 : Int32)), (0, .ref a), (1, .ref b)]) hx hb dX2_value_3 rfl hl (by decide) rfl (fun ls hl => ?_)
  exact J4 271 M (0 : Int32) (0 : Int32) H locs ls hI (lv_sub hl [2, 3, 1, 0] rfl) (iv_w (lo' := 0) (hi' := 30) kc_0 (by decide) (by decide)) (iv_w (lo' := 0) (hi' := 270) kc_0 (by decide) (by decide)) (by have h9 := kc_0; simp only [iv] at h9; omega)
