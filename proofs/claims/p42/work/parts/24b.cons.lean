abbrev e_h_fill_12 : List (Nat × Nat) := [(12, 999)]
set_option maxHeartbeats 4000000 in
set_option maxRecDepth 100000 in
theorem h_fill_12 (l : Launch) (D : va_G) (g : Nat → ClassId) (σ : Nat → Option Nat) (Z : State → Heap → Prop) (hZ0 : hZ σ Z) (M : hM) (N : hN) (R : hR) (a : Nat) (g_a : σ a = some 12) (p1 : Int32) (h_p1 : iv p1 (-1) 0) : Met l yJ7_fill_53178 wsJ7_fill_53178 ({ frames := 0, cells := 0, slots := 0, locals := 0 }) (va_Pc [.ref a, .int p1] (hPre D g σ Z M N R)) (hQv D g σ e_h_fill_12 M (fun (M1 : hM) (N1 : hN) (R1 : hR) => N = N1 ∧ R = R1)) 0 0 (hA σ) := by
  refine h_head (cc := cJ7_fill_53178) (maxL := 4) (ret := none) (by decide) rfl (Nat.le_of_ble_eq_true rfl) e_h_fill_12 ?_
  intro p e s m below meth c ls Q ar hQ hx hb hr hlocks hml hown hts hK hE H locs hI hl
  have hown : s.vm.findClass RJ7 = some m.cls := hown
  have hl : lv_has ls 4 [(0, .ref a), (1, .int p1)] := hl
  refine lv_iconst (v := 0) hx hb dJ7_fill_53178_0 (by decide) ?_
  refine lv_istore_n (lv' := [(2, .int (0 : Int32)), (0, .ref a), (1, .int p1)]) hx hb dJ7_fill_53178_1 rfl hl (by decide) rfl (fun ls hl => ?_)
  refine lv_aload_n hx hb dJ7_fill_53178_2 rfl (lv_at hl 1 rfl) ?_
  refine h_alen (v := 8) hx hb hK hI g_a (by decide) rfl (by decide) (by decide) dJ7_fill_53178_3 ?_
  have J5 : ∀ (n : Nat) (M_5 : hM) (v2_5 : Int32) (v3_5 : Int32) (H : Heap) (locs : List Loc) (ls : Array Slot), kI D g σ e_h_fill_12 M s.heap M_5 N R H locs → lv_has ls 4 [(0, .ref a), (1, .int p1), (2, .int v2_5), (3, .int v3_5)] → iv v2_5 0 8 → iv v3_5 8 8 → 9 ≤ v2_5.toInt + (n : Int) → W p l e (headSpec wsJ7_fill_53178 ({ frames := 0, cells := 0, slots := 0, locals := 0 })).room s m ar below meth c H locs 0 0 Q (F0 m 5 ls []) := by
    intro n
    induction n with
    | zero => intro M_5 v2_5 v3_5 H locs ls hI hl i_v2_5 i_v3_5 hn; exfalso; have hz := i_v2_5; simp only [iv] at hz; omega
    | succ n ih5 =>
      intro M_5 v2_5 v3_5 H locs ls hI hl i_v2_5 i_v3_5 hn5
      refine lv_iload_n hx hb dJ7_fill_53178_5 rfl (lv_at hl 2 rfl) ?_
      refine lv_iload_n hx hb dJ7_fill_53178_6 rfl (lv_at hl 3 rfl) ?_
      refine lv_icmp_ge (tgt := 20) hx hb dJ7_fill_53178_7 (by decide) (fun c1 => ?_) (fun c1 => ?_)
      · have i2 : iv v2_5 8 8 := iv_le2 c1 i_v3_5 i_v2_5 (by decide)
        exact h_vret hQ hx hb hr hlocks hK hI ⟨rfl, rfl⟩ dJ7_fill_53178_20
      · have i3 : iv v2_5 0 7 := iv_nle2 c1 i_v3_5 i_v2_5 (by decide)
        refine lv_aload_n hx hb dJ7_fill_53178_10 rfl (lv_at hl 0 rfl) ?_
        refine lv_iload_n hx hb dJ7_fill_53178_11 rfl (lv_at hl 2 rfl) ?_
        refine lv_iload_n hx hb dJ7_fill_53178_12 rfl (lv_at hl 1 rfl) ?_
        refine h_iast (j := v2_5.toNatClampNeg) hx hb hK hI g_a (by decide) rfl (iv_in (n := 8) i3 (by decide) (by decide)) rfl (iv_w (lo' := (-1)) (hi' := 5) h_p1 (by decide) (by decide)) rfl dJ7_fill_53178_13 (fun M4 H locs e_M4 hI => ?_)
        obtain ⟨v5, e_v5⟩ : ∃ z : Int32, z = v2_5 + Int32.ofInt 1 := ⟨_, rfl⟩
        have i_v5 : iv v5 1 8 := by rw [e_v5]; exact iv_add i3 (ki_1) (by decide) (by decide) (by decide) (by decide)
        refine lv_iinc (v := v5) (lv' := [(2, .int v5), (0, .ref a), (1, .int p1), (3, .int v3_5)]) hx hb dJ7_fill_53178_14 hl (k := 2) rfl e_v5.symm (by decide) rfl (fun ls hl => ?_)
        refine lv_goto (tgt := 5) hx hb dJ7_fill_53178_17 (by decide) ?_
        exact ih5 M4 v5 v3_5 H locs ls hI (lv_sub hl [1, 2, 0, 3] rfl) (iv_w (lo' := 0) (hi' := 8) i_v5 (by decide) (by decide)) i_v3_5 (by have h9 := (h_inc e_v5 i3 ki_1 (by decide) (by decide)); omega)
  refine lv_istore_n (lv' := [(3, .int (8 : Int32)), (2, .int (0 : Int32)), (0, .ref a), (1, .int p1)]) hx hb dJ7_fill_53178_4 rfl hl (by decide) rfl (fun ls hl => ?_)
  exact J5 9 M (0 : Int32) (8 : Int32) H locs ls hI (lv_sub hl [2, 3, 1, 0] rfl) (iv_w (lo' := 0) (hi' := 8) kc_0 (by decide) (by decide)) kc_8 (by have h9 := kc_0; simp only [iv] at h9; omega)
abbrev e_h_fill_13 : List (Nat × Nat) := [(13, 999)]
set_option maxHeartbeats 4000000 in
set_option maxRecDepth 100000 in
theorem h_fill_13 (l : Launch) (D : va_G) (g : Nat → ClassId) (σ : Nat → Option Nat) (Z : State → Heap → Prop) (hZ0 : hZ σ Z) (M : hM) (N : hN) (R : hR) (a : Nat) (g_a : σ a = some 13) (p1 : Int32) (h_p1 : iv p1 (-1) 0) : Met l yJ7_fill_53178 wsJ7_fill_53178 ({ frames := 0, cells := 0, slots := 0, locals := 0 }) (va_Pc [.ref a, .int p1] (hPre D g σ Z M N R)) (hQv D g σ e_h_fill_13 M (fun (M1 : hM) (N1 : hN) (R1 : hR) => N = N1 ∧ R = R1)) 0 0 (hA σ) := by
  refine h_head (cc := cJ7_fill_53178) (maxL := 4) (ret := none) (by decide) rfl (Nat.le_of_ble_eq_true rfl) e_h_fill_13 ?_
  intro p e s m below meth c ls Q ar hQ hx hb hr hlocks hml hown hts hK hE H locs hI hl
  have hown : s.vm.findClass RJ7 = some m.cls := hown
  have hl : lv_has ls 4 [(0, .ref a), (1, .int p1)] := hl
  refine lv_iconst (v := 0) hx hb dJ7_fill_53178_0 (by decide) ?_
  refine lv_istore_n (lv' := [(2, .int (0 : Int32)), (0, .ref a), (1, .int p1)]) hx hb dJ7_fill_53178_1 rfl hl (by decide) rfl (fun ls hl => ?_)
  refine lv_aload_n hx hb dJ7_fill_53178_2 rfl (lv_at hl 1 rfl) ?_
  refine h_alen (v := 7) hx hb hK hI g_a (by decide) rfl (by decide) (by decide) dJ7_fill_53178_3 ?_
  have J5 : ∀ (n : Nat) (M_5 : hM) (v2_5 : Int32) (v3_5 : Int32) (H : Heap) (locs : List Loc) (ls : Array Slot), kI D g σ e_h_fill_13 M s.heap M_5 N R H locs → lv_has ls 4 [(0, .ref a), (1, .int p1), (2, .int v2_5), (3, .int v3_5)] → iv v2_5 0 7 → iv v3_5 7 7 → 8 ≤ v2_5.toInt + (n : Int) → W p l e (headSpec wsJ7_fill_53178 ({ frames := 0, cells := 0, slots := 0, locals := 0 })).room s m ar below meth c H locs 0 0 Q (F0 m 5 ls []) := by
    intro n
    induction n with
    | zero => intro M_5 v2_5 v3_5 H locs ls hI hl i_v2_5 i_v3_5 hn; exfalso; have hz := i_v2_5; simp only [iv] at hz; omega
    | succ n ih5 =>
      intro M_5 v2_5 v3_5 H locs ls hI hl i_v2_5 i_v3_5 hn5
      refine lv_iload_n hx hb dJ7_fill_53178_5 rfl (lv_at hl 2 rfl) ?_
      refine lv_iload_n hx hb dJ7_fill_53178_6 rfl (lv_at hl 3 rfl) ?_
      refine lv_icmp_ge (tgt := 20) hx hb dJ7_fill_53178_7 (by decide) (fun c1 => ?_) (fun c1 => ?_)
      · have i2 : iv v2_5 7 7 := iv_le2 c1 i_v3_5 i_v2_5 (by decide)
        exact h_vret hQ hx hb hr hlocks hK hI ⟨rfl, rfl⟩ dJ7_fill_53178_20
      · have i3 : iv v2_5 0 6 := iv_nle2 c1 i_v3_5 i_v2_5 (by decide)
        refine lv_aload_n hx hb dJ7_fill_53178_10 rfl (lv_at hl 0 rfl) ?_
        refine lv_iload_n hx hb dJ7_fill_53178_11 rfl (lv_at hl 2 rfl) ?_
        refine lv_iload_n hx hb dJ7_fill_53178_12 rfl (lv_at hl 1 rfl) ?_
        refine h_iast (j := v2_5.toNatClampNeg) hx hb hK hI g_a (by decide) rfl (iv_in (n := 7) i3 (by decide) (by decide)) rfl (iv_w (lo' := (-1)) (hi' := 7) h_p1 (by decide) (by decide)) rfl dJ7_fill_53178_13 (fun M4 H locs e_M4 hI => ?_)
        obtain ⟨v5, e_v5⟩ : ∃ z : Int32, z = v2_5 + Int32.ofInt 1 := ⟨_, rfl⟩
        have i_v5 : iv v5 1 7 := by rw [e_v5]; exact iv_add i3 (ki_1) (by decide) (by decide) (by decide) (by decide)
        refine lv_iinc (v := v5) (lv' := [(2, .int v5), (0, .ref a), (1, .int p1), (3, .int v3_5)]) hx hb dJ7_fill_53178_14 hl (k := 2) rfl e_v5.symm (by decide) rfl (fun ls hl => ?_)
        refine lv_goto (tgt := 5) hx hb dJ7_fill_53178_17 (by decide) ?_
        exact ih5 M4 v5 v3_5 H locs ls hI (lv_sub hl [1, 2, 0, 3] rfl) (iv_w (lo' := 0) (hi' := 7) i_v5 (by decide) (by decide)) i_v3_5 (by have h9 := (h_inc e_v5 i3 ki_1 (by decide) (by decide)); omega)
  refine lv_istore_n (lv' := [(3, .int (7 : Int32)), (2, .int (0 : Int32)), (0, .ref a), (1, .int p1)]) hx hb dJ7_fill_53178_4 rfl hl (by decide) rfl (fun ls hl => ?_)
  exact J5 8 M (0 : Int32) (7 : Int32) H locs ls hI (lv_sub hl [2, 3, 1, 0] rfl) (iv_w (lo' := 0) (hi' := 7) kc_0 (by decide) (by decide)) kc_7 (by have h9 := kc_0; simp only [iv] at h9; omega)
abbrev e_h_fill_14 : List (Nat × Nat) := [(14, 999)]
set_option maxHeartbeats 4000000 in
set_option maxRecDepth 100000 in
theorem h_fill_14 (l : Launch) (D : va_G) (g : Nat → ClassId) (σ : Nat → Option Nat) (Z : State → Heap → Prop) (hZ0 : hZ σ Z) (M : hM) (N : hN) (R : hR) (a : Nat) (g_a : σ a = some 14) (p1 : Int32) (h_p1 : iv p1 (-1) 0) : Met l yJ7_fill_53178 wsJ7_fill_53178 ({ frames := 0, cells := 0, slots := 0, locals := 0 }) (va_Pc [.ref a, .int p1] (hPre D g σ Z M N R)) (hQv D g σ e_h_fill_14 M (fun (M1 : hM) (N1 : hN) (R1 : hR) => N = N1 ∧ R = R1)) 0 0 (hA σ) := by
  refine h_head (cc := cJ7_fill_53178) (maxL := 4) (ret := none) (by decide) rfl (Nat.le_of_ble_eq_true rfl) e_h_fill_14 ?_
  intro p e s m below meth c ls Q ar hQ hx hb hr hlocks hml hown hts hK hE H locs hI hl
  have hown : s.vm.findClass RJ7 = some m.cls := hown
  have hl : lv_has ls 4 [(0, .ref a), (1, .int p1)] := hl
  refine lv_iconst (v := 0) hx hb dJ7_fill_53178_0 (by decide) ?_
  refine lv_istore_n (lv' := [(2, .int (0 : Int32)), (0, .ref a), (1, .int p1)]) hx hb dJ7_fill_53178_1 rfl hl (by decide) rfl (fun ls hl => ?_)
  refine lv_aload_n hx hb dJ7_fill_53178_2 rfl (lv_at hl 1 rfl) ?_
  refine h_alen (v := 7) hx hb hK hI g_a (by decide) rfl (by decide) (by decide) dJ7_fill_53178_3 ?_
  have J5 : ∀ (n : Nat) (M_5 : hM) (v2_5 : Int32) (v3_5 : Int32) (H : Heap) (locs : List Loc) (ls : Array Slot), kI D g σ e_h_fill_14 M s.heap M_5 N R H locs → lv_has ls 4 [(0, .ref a), (1, .int p1), (2, .int v2_5), (3, .int v3_5)] → iv v2_5 0 7 → iv v3_5 7 7 → 8 ≤ v2_5.toInt + (n : Int) → W p l e (headSpec wsJ7_fill_53178 ({ frames := 0, cells := 0, slots := 0, locals := 0 })).room s m ar below meth c H locs 0 0 Q (F0 m 5 ls []) := by
    intro n
    induction n with
    | zero => intro M_5 v2_5 v3_5 H locs ls hI hl i_v2_5 i_v3_5 hn; exfalso; have hz := i_v2_5; simp only [iv] at hz; omega
    | succ n ih5 =>
      intro M_5 v2_5 v3_5 H locs ls hI hl i_v2_5 i_v3_5 hn5
      refine lv_iload_n hx hb dJ7_fill_53178_5 rfl (lv_at hl 2 rfl) ?_
      refine lv_iload_n hx hb dJ7_fill_53178_6 rfl (lv_at hl 3 rfl) ?_
      refine lv_icmp_ge (tgt := 20) hx hb dJ7_fill_53178_7 (by decide) (fun c1 => ?_) (fun c1 => ?_)
      · have i2 : iv v2_5 7 7 := iv_le2 c1 i_v3_5 i_v2_5 (by decide)
        exact h_vret hQ hx hb hr hlocks hK hI ⟨rfl, rfl⟩ dJ7_fill_53178_20
      · have i3 : iv v2_5 0 6 := iv_nle2 c1 i_v3_5 i_v2_5 (by decide)
        refine lv_aload_n hx hb dJ7_fill_53178_10 rfl (lv_at hl 0 rfl) ?_
        refine lv_iload_n hx hb dJ7_fill_53178_11 rfl (lv_at hl 2 rfl) ?_
        refine lv_iload_n hx hb dJ7_fill_53178_12 rfl (lv_at hl 1 rfl) ?_
        refine h_iast (j := v2_5.toNatClampNeg) hx hb hK hI g_a (by decide) rfl (iv_in (n := 7) i3 (by decide) (by decide)) rfl (iv_any _) rfl dJ7_fill_53178_13 (fun M4 H locs e_M4 hI => ?_)
        obtain ⟨v5, e_v5⟩ : ∃ z : Int32, z = v2_5 + Int32.ofInt 1 := ⟨_, rfl⟩
        have i_v5 : iv v5 1 7 := by rw [e_v5]; exact iv_add i3 (ki_1) (by decide) (by decide) (by decide) (by decide)
        refine lv_iinc (v := v5) (lv' := [(2, .int v5), (0, .ref a), (1, .int p1), (3, .int v3_5)]) hx hb dJ7_fill_53178_14 hl (k := 2) rfl e_v5.symm (by decide) rfl (fun ls hl => ?_)
        refine lv_goto (tgt := 5) hx hb dJ7_fill_53178_17 (by decide) ?_
        exact ih5 M4 v5 v3_5 H locs ls hI (lv_sub hl [1, 2, 0, 3] rfl) (iv_w (lo' := 0) (hi' := 7) i_v5 (by decide) (by decide)) i_v3_5 (by have h9 := (h_inc e_v5 i3 ki_1 (by decide) (by decide)); omega)
  refine lv_istore_n (lv' := [(3, .int (7 : Int32)), (2, .int (0 : Int32)), (0, .ref a), (1, .int p1)]) hx hb dJ7_fill_53178_4 rfl hl (by decide) rfl (fun ls hl => ?_)
  exact J5 8 M (0 : Int32) (7 : Int32) H locs ls hI (lv_sub hl [2, 3, 1, 0] rfl) (iv_w (lo' := 0) (hi' := 7) kc_0 (by decide) (by decide)) kc_7 (by have h9 := kc_0; simp only [iv] at h9; omega)
abbrev e_h_bitCount : List (Nat × Nat) := []
set_option maxHeartbeats 4000000 in
set_option maxRecDepth 100000 in
theorem h_bitCount (l : Launch) (D : va_G) (g : Nat → ClassId) (σ : Nat → Option Nat) (Z : State → Heap → Prop) (hZ0 : hZ σ Z) (M : hM) (N : hN) (R : hR) (p1 : Int32) : Met l yJ6_bitCount_0f7a4 wsJ6_bitCount_0f7a4 ({ frames := 0, cells := 0, slots := 0, locals := 0 }) (va_Pc [.int p1] (hPre D g σ Z M N R)) (hQi D g σ e_h_bitCount M (fun (r : Int32) (M1 : hM) (N1 : hN) (R1 : hR) => M = M1 ∧ N = N1 ∧ R = R1 ∧ iv r 0 63)) 0 0 (hA σ) := by
  refine h_head (cc := cJ6_bitCount_0f7a4) (maxL := 1) (ret := (some .int)) (by decide) rfl (Nat.le_of_ble_eq_true rfl) e_h_bitCount ?_
  intro p e s m below meth c ls Q ar hQ hx hb hr hlocks hml hown hts hK hE H locs hI hl
  have hown : s.vm.findClass RJ6 = some m.cls := hown
  have hl : lv_has ls 1 [(0, .int p1)] := hl
  refine lv_iload_n hx hb dJ6_bitCount_0f7a4_0 rfl (lv_at hl 0 rfl) ?_
  refine lv_iload_n hx hb dJ6_bitCount_0f7a4_1 rfl (lv_at hl 0 rfl) ?_
  refine lv_iconst (v := 1) hx hb dJ6_bitCount_0f7a4_2 (by decide) ?_
  obtain ⟨v1, e_v1⟩ : ∃ z : Int32, (p1.toUInt32 >>> (Int32.toUInt32 (1 : Int32) &&& Int32.toUInt32 31)).toInt32 = z := ⟨_, rfl⟩
  refine lv_iushr (v := v1) hx hb dJ6_bitCount_0f7a4_3 e_v1 ?_
  refine lv_ldcw (v := 1431655765) hx hb hown (hts (.constant RJ6 265 (1431655765)) (List.mem_of_getElem? (i := 1) rfl)) dJ6_bitCount_0f7a4_4 ?_
  refine lv_iand hx hb dJ6_bitCount_0f7a4_7 ?_
  refine h_nm (lo := (-2147483648)) (hi := 2147483647) (iv_any _) (fun v2 e_v2 i_v2 => ?_)
  refine lv_isub hx hb dJ6_bitCount_0f7a4_8 ?_
  refine h_nm (lo := (-2147483648)) (hi := 2147483647) (iv_any _) (fun v3 e_v3 i_v3 => ?_)
  refine lv_istore_n (lv' := [(0, .int v3)]) hx hb dJ6_bitCount_0f7a4_9 rfl hl (by decide) rfl (fun ls hl => ?_)
  refine lv_iload_n hx hb dJ6_bitCount_0f7a4_10 rfl (lv_at hl 0 rfl) ?_
  refine lv_ldcw (v := 858993459) hx hb hown (hts (.constant RJ6 266 (858993459)) (List.mem_of_getElem? (i := 2) rfl)) dJ6_bitCount_0f7a4_11 ?_
  refine lv_iand hx hb dJ6_bitCount_0f7a4_14 ?_
  refine h_nm (lo := (-2147483648)) (hi := 2147483647) (iv_any _) (fun v4 e_v4 i_v4 => ?_)
  refine lv_iload_n hx hb dJ6_bitCount_0f7a4_15 rfl (lv_at hl 0 rfl) ?_
  refine lv_iconst (v := 2) hx hb dJ6_bitCount_0f7a4_16 (by decide) ?_
  obtain ⟨v5, e_v5⟩ : ∃ z : Int32, (v3.toUInt32 >>> (Int32.toUInt32 (2 : Int32) &&& Int32.toUInt32 31)).toInt32 = z := ⟨_, rfl⟩
  refine lv_iushr (v := v5) hx hb dJ6_bitCount_0f7a4_17 e_v5 ?_
  refine lv_ldcw (v := 858993459) hx hb hown (hts (.constant RJ6 266 (858993459)) (List.mem_of_getElem? (i := 2) rfl)) dJ6_bitCount_0f7a4_18 ?_
  refine lv_iand hx hb dJ6_bitCount_0f7a4_21 ?_
  refine h_nm (lo := (-2147483648)) (hi := 2147483647) (iv_any _) (fun v6 e_v6 i_v6 => ?_)
  refine lv_iadd hx hb dJ6_bitCount_0f7a4_22 ?_
  refine h_nm (lo := (-2147483648)) (hi := 2147483647) (iv_any _) (fun v7 e_v7 i_v7 => ?_)
  refine lv_istore_n (lv' := [(0, .int v7)]) hx hb dJ6_bitCount_0f7a4_23 rfl hl (by decide) rfl (fun ls hl => ?_)
  refine lv_iload_n hx hb dJ6_bitCount_0f7a4_24 rfl (lv_at hl 0 rfl) ?_
  refine lv_iload_n hx hb dJ6_bitCount_0f7a4_25 rfl (lv_at hl 0 rfl) ?_
  refine lv_iconst (v := 4) hx hb dJ6_bitCount_0f7a4_26 (by decide) ?_
  obtain ⟨v8, e_v8⟩ : ∃ z : Int32, (v7.toUInt32 >>> (Int32.toUInt32 (4 : Int32) &&& Int32.toUInt32 31)).toInt32 = z := ⟨_, rfl⟩
  refine lv_iushr (v := v8) hx hb dJ6_bitCount_0f7a4_27 e_v8 ?_
  refine lv_iadd hx hb dJ6_bitCount_0f7a4_28 ?_
  refine h_nm (lo := (-2147483648)) (hi := 2147483647) (iv_any _) (fun v9 e_v9 i_v9 => ?_)
  refine lv_ldcw (v := 252645135) hx hb hown (hts (.constant RJ6 267 (252645135)) (List.mem_of_getElem? (i := 3) rfl)) dJ6_bitCount_0f7a4_29 ?_
  refine lv_iand hx hb dJ6_bitCount_0f7a4_32 ?_
  refine h_nm (lo := (-2147483648)) (hi := 2147483647) (iv_any _) (fun v10 e_v10 i_v10 => ?_)
  refine lv_istore_n (lv' := [(0, .int v10)]) hx hb dJ6_bitCount_0f7a4_33 rfl hl (by decide) rfl (fun ls hl => ?_)
  refine lv_iload_n hx hb dJ6_bitCount_0f7a4_34 rfl (lv_at hl 0 rfl) ?_
  refine lv_iload_n hx hb dJ6_bitCount_0f7a4_35 rfl (lv_at hl 0 rfl) ?_
  refine lv_bipush (v := 8) hx hb dJ6_bitCount_0f7a4_36 (by decide) ?_
  obtain ⟨v11, e_v11⟩ : ∃ z : Int32, (v10.toUInt32 >>> (Int32.toUInt32 (8 : Int32) &&& Int32.toUInt32 31)).toInt32 = z := ⟨_, rfl⟩
  refine lv_iushr (v := v11) hx hb dJ6_bitCount_0f7a4_38 e_v11 ?_
  refine lv_iadd hx hb dJ6_bitCount_0f7a4_39 ?_
  refine h_nm (lo := (-2147483648)) (hi := 2147483647) (iv_any _) (fun v12 e_v12 i_v12 => ?_)
  refine lv_istore_n (lv' := [(0, .int v12)]) hx hb dJ6_bitCount_0f7a4_40 rfl hl (by decide) rfl (fun ls hl => ?_)
  refine lv_iload_n hx hb dJ6_bitCount_0f7a4_41 rfl (lv_at hl 0 rfl) ?_
  refine lv_iload_n hx hb dJ6_bitCount_0f7a4_42 rfl (lv_at hl 0 rfl) ?_
  refine lv_bipush (v := 16) hx hb dJ6_bitCount_0f7a4_43 (by decide) ?_
  obtain ⟨v13, e_v13⟩ : ∃ z : Int32, (v12.toUInt32 >>> (Int32.toUInt32 (16 : Int32) &&& Int32.toUInt32 31)).toInt32 = z := ⟨_, rfl⟩
  refine lv_iushr (v := v13) hx hb dJ6_bitCount_0f7a4_45 e_v13 ?_
  refine lv_iadd hx hb dJ6_bitCount_0f7a4_46 ?_
  refine h_nm (lo := (-2147483648)) (hi := 2147483647) (iv_any _) (fun v14 e_v14 i_v14 => ?_)
  refine lv_istore_n (lv' := [(0, .int v14)]) hx hb dJ6_bitCount_0f7a4_47 rfl hl (by decide) rfl (fun ls hl => ?_)
  refine lv_iload_n hx hb dJ6_bitCount_0f7a4_48 rfl (lv_at hl 0 rfl) ?_
  refine lv_bipush (v := 63) hx hb dJ6_bitCount_0f7a4_49 (by decide) ?_
  refine lv_iand hx hb dJ6_bitCount_0f7a4_51 ?_
  refine h_nm (lo := 0) (hi := 63) (iv_and 6 (by decide) (by decide) (by decide)) (fun v15 e_v15 i_v15 => ?_)
  exact h_iret hQ hx hb hr hlocks rfl hK hI ⟨rfl, rfl, rfl, i_v15⟩ dJ6_bitCount_0f7a4_52
abbrev e_h_empty_X7 : List (Nat × Nat) := [(7, 5), (7, 6), (7, 7), (12, 999), (13, 999), (14, 999)]
set_option maxHeartbeats 4000000 in
set_option maxRecDepth 100000 in
theorem h_empty_X7 (l : Launch) (D : va_G) (g : Nat → ClassId) (σ : Nat → Option Nat) (Z : State → Heap → Prop) (hZ0 : hZ σ Z) (M : hM) (N : hN) (R : hR) (a : Nat) (g_a : σ a = some 7) : Met l yX7_empty wsX7_empty ({ frames := 1, cells := 0, slots := 0, locals := 23 }) (va_Pc [.ref a] (hPre D g σ Z M N R)) (hQv D g σ e_h_empty_X7 M (fun (M1 : hM) (N1 : hN) (R1 : hR) => N = N1 ∧ R = R1)) 0 0 (hA σ) := by
  refine h_head (cc := cX7_empty) (maxL := 1) (ret := none) (by decide) rfl (Nat.le_of_ble_eq_true rfl) e_h_empty_X7 ?_
  intro p e s m below meth c ls Q ar hQ hx hb hr hlocks hml hown hts hK hE H locs hI hl
  have hown : s.vm.findClass RX7 = some m.cls := hown
  have hl : lv_has ls 1 [(0, .ref a)] := hl
  refine lv_aload_n hx hb dX7_empty_0 rfl (lv_at hl 0 rfl) ?_
  refine h_getr hx hb hts iX7_empty_X7 hown hK hI g_a (by decide) rfl rfl 0 (by decide) rfl 12 rfl (hts (.fieldLink RX7 9 "CatLeases$State" "keepers" "[I") (List.mem_of_getElem? (i := 1) rfl)) (fun _ h9 => h9) dX7_empty_1 (fun a1 e_a1 g_a1 => ?_)
  refine lv_iconst (v := (-1)) hx hb dX7_empty_4 (by decide) ?_
  refine h_gov hI (by decide) (va_runS (As := [.ref a1, .int (-1 : Int32)]) (rest := []) ⟨hx, hb, hml, hown, hts⟩ (h_fill_12 l D g σ Z hZ0 M N R a1 g_a1 (-1 : Int32) (iv_w (lo' := (-1)) (hi' := 0) kc_m1 (by decide) (by decide))) (va_cwS 2 hts gX7_empty_J7_fill_53178 rfl rfl rfl (by decide +kernel) ⟨Nat.le_of_ble_eq_true rfl, Nat.le_of_ble_eq_true rfl⟩) (h_preS hZ0 hK hE hI) rfl rfl hl.1 rfl (lv_room (Nat.le_of_ble_eq_true rfl)) dX7_empty_5 ⟨Nat.le_of_ble_eq_true rfl, Nat.le_of_ble_eq_true rfl⟩) (fun M3 N4 R5 H locs q6 z_M3 hI => ?_)
  obtain ⟨rfl, rfl⟩ := q6
  refine lv_aload_n hx hb dX7_empty_8 rfl (lv_at hl 0 rfl) ?_
  refine h_getr hx hb hts iX7_empty_X7 hown hK hI g_a (by decide) rfl rfl 1 (by decide) rfl 13 rfl (hts (.fieldLink RX7 15 "CatLeases$State" "places" "[I") (List.mem_of_getElem? (i := 2) rfl)) (fun _ h9 => h9) dX7_empty_9 (fun a7 e_a7 g_a7 => ?_)
  refine lv_iconst (v := (-1)) hx hb dX7_empty_12 (by decide) ?_
  refine h_gov hI (by decide) (va_runS (As := [.ref a7, .int (-1 : Int32)]) (rest := []) ⟨hx, hb, hml, hown, hts⟩ (h_fill_13 l D g σ Z hZ0 M3 N R a7 g_a7 (-1 : Int32) (iv_w (lo' := (-1)) (hi' := 0) kc_m1 (by decide) (by decide))) (va_cwS 2 hts gX7_empty_J7_fill_53178 rfl rfl rfl (by decide +kernel) ⟨Nat.le_of_ble_eq_true rfl, Nat.le_of_ble_eq_true rfl⟩) (h_preS hZ0 hK hE hI) rfl rfl hl.1 rfl (lv_room (Nat.le_of_ble_eq_true rfl)) dX7_empty_13 ⟨Nat.le_of_ble_eq_true rfl, Nat.le_of_ble_eq_true rfl⟩) (fun M9 N10 R11 H locs q12 z_M9 hI => ?_)
  obtain ⟨rfl, rfl⟩ := q12
  refine lv_aload_n hx hb dX7_empty_16 rfl (lv_at hl 0 rfl) ?_
  refine h_getr hx hb hts iX7_empty_X7 hown hK hI g_a (by decide) rfl rfl 2 (by decide) rfl 14 rfl (hts (.fieldLink RX7 18 "CatLeases$State" "stays" "[I") (List.mem_of_getElem? (i := 3) rfl)) (fun _ h9 => h9) dX7_empty_17 (fun a13 e_a13 g_a13 => ?_)
  refine lv_iconst (v := 0) hx hb dX7_empty_20 (by decide) ?_
  refine h_gov hI (by decide) (va_runS (As := [.ref a13, .int (0 : Int32)]) (rest := []) ⟨hx, hb, hml, hown, hts⟩ (h_fill_14 l D g σ Z hZ0 M9 N R a13 g_a13 (0 : Int32) (iv_w (lo' := (-1)) (hi' := 0) kc_0 (by decide) (by decide))) (va_cwS 2 hts gX7_empty_J7_fill_53178 rfl rfl rfl (by decide +kernel) ⟨Nat.le_of_ble_eq_true rfl, Nat.le_of_ble_eq_true rfl⟩) (h_preS hZ0 hK hE hI) rfl rfl hl.1 rfl (lv_room (Nat.le_of_ble_eq_true rfl)) dX7_empty_21 ⟨Nat.le_of_ble_eq_true rfl, Nat.le_of_ble_eq_true rfl⟩) (fun M15 N16 R17 H locs q18 z_M15 hI => ?_)
  obtain ⟨rfl, rfl⟩ := q18
  refine lv_aload_n hx hb dX7_empty_24 rfl (lv_at hl 0 rfl) ?_
  refine h_getr hx hb hts iX7_empty_X7 hown hK hI g_a (by decide) rfl rfl 3 (by decide) rfl 14 rfl (hts (.fieldLink RX7 21 "CatLeases$State" "hours" "[I") (List.mem_of_getElem? (i := 4) rfl)) (fun _ h9 => h9) dX7_empty_25 (fun a19 e_a19 g_a19 => ?_)
  refine lv_iconst (v := 0) hx hb dX7_empty_28 (by decide) ?_
  refine h_gov hI (by decide) (va_runS (As := [.ref a19, .int (0 : Int32)]) (rest := []) ⟨hx, hb, hml, hown, hts⟩ (h_fill_14 l D g σ Z hZ0 M15 N R a19 g_a19 (0 : Int32) (iv_w (lo' := (-1)) (hi' := 0) kc_0 (by decide) (by decide))) (va_cwS 2 hts gX7_empty_J7_fill_53178 rfl rfl rfl (by decide +kernel) ⟨Nat.le_of_ble_eq_true rfl, Nat.le_of_ble_eq_true rfl⟩) (h_preS hZ0 hK hE hI) rfl rfl hl.1 rfl (lv_room (Nat.le_of_ble_eq_true rfl)) dX7_empty_29 ⟨Nat.le_of_ble_eq_true rfl, Nat.le_of_ble_eq_true rfl⟩) (fun M21 N22 R23 H locs q24 z_M21 hI => ?_)
  obtain ⟨rfl, rfl⟩ := q24
  refine lv_aload_n hx hb dX7_empty_32 rfl (lv_at hl 0 rfl) ?_
  refine h_getr hx hb hts iX7_empty_X7 hown hK hI g_a (by decide) rfl rfl 4 (by decide) rfl 14 rfl (hts (.fieldLink RX7 24 "CatLeases$State" "fidgets" "[I") (List.mem_of_getElem? (i := 5) rfl)) (fun _ h9 => h9) dX7_empty_33 (fun a25 e_a25 g_a25 => ?_)
  refine lv_iconst (v := 0) hx hb dX7_empty_36 (by decide) ?_
  refine h_gov hI (by decide) (va_runS (As := [.ref a25, .int (0 : Int32)]) (rest := []) ⟨hx, hb, hml, hown, hts⟩ (h_fill_14 l D g σ Z hZ0 M21 N R a25 g_a25 (0 : Int32) (iv_w (lo' := (-1)) (hi' := 0) kc_0 (by decide) (by decide))) (va_cwS 2 hts gX7_empty_J7_fill_53178 rfl rfl rfl (by decide +kernel) ⟨Nat.le_of_ble_eq_true rfl, Nat.le_of_ble_eq_true rfl⟩) (h_preS hZ0 hK hE hI) rfl rfl hl.1 rfl (lv_room (Nat.le_of_ble_eq_true rfl)) dX7_empty_37 ⟨Nat.le_of_ble_eq_true rfl, Nat.le_of_ble_eq_true rfl⟩) (fun M27 N28 R29 H locs q30 z_M27 hI => ?_)
  obtain ⟨rfl, rfl⟩ := q30
  refine lv_aload_n hx hb dX7_empty_40 rfl (lv_at hl 0 rfl) ?_
  refine lv_iconst (v := 0) hx hb dX7_empty_41 (by decide) ?_
  refine h_puti hx hb hts iX7_empty_X7 tyX7 tyX7_ok nmX7 hown hK hI g_a (by decide) rfl rfl 5 (by decide) rfl (hts (.fieldLink RX7 27 "CatLeases$State" "living" "I") (List.mem_of_getElem? (i := 6) rfl)) (fun _ h9 => h9) rfl .int (by decide +kernel) rfl rfl (iv_w (lo' := (-2147483648)) (hi' := 2147483647) kc_0 (by decide) (by decide)) rfl dX7_empty_42 (fun M31 H locs e_M31 hI => ?_)
  refine lv_aload_n hx hb dX7_empty_45 rfl (lv_at hl 0 rfl) ?_
  refine lv_iconst (v := 0) hx hb dX7_empty_46 (by decide) ?_
  refine h_puti hx hb hts iX7_empty_X7 tyX7 tyX7_ok nmX7 hown hK hI g_a (by decide) rfl rfl 6 (by decide) rfl (hts (.fieldLink RX7 31 "CatLeases$State" "quarters" "I") (List.mem_of_getElem? (i := 7) rfl)) (fun _ h9 => h9) rfl .int (by decide +kernel) rfl rfl (iv_w (lo' := (-2147483648)) (hi' := 2147483647) kc_0 (by decide) (by decide)) rfl dX7_empty_47 (fun M32 H locs e_M32 hI => ?_)
  refine lv_aload_n hx hb dX7_empty_50 rfl (lv_at hl 0 rfl) ?_
  refine lv_iconst (v := 0) hx hb dX7_empty_51 (by decide) ?_
  refine h_puti hx hb hts iX7_empty_X7 tyX7 tyX7_ok nmX7 hown hK hI g_a (by decide) rfl rfl 7 (by decide) rfl (hts (.fieldLink RX7 34 "CatLeases$State" "seed" "I") (List.mem_of_getElem? (i := 8) rfl)) (fun _ h9 => h9) rfl .int (by decide +kernel) rfl rfl (iv_w (lo' := (-2147483648)) (hi' := 2147483647) kc_0 (by decide) (by decide)) rfl dX7_empty_52 (fun M33 H locs e_M33 hI => ?_)
  exact h_vret hQ hx hb hr hlocks hK hI ⟨rfl, rfl⟩ dX7_empty_55
abbrev e_h_empty_X4 : List (Nat × Nat) := [(2, 2), (4, 0), (4, 1), (4, 2), (4, 3), (4, 4), (7, 5), (7, 6), (7, 7), (12, 999), (13, 999), (14, 999)]
set_option maxHeartbeats 4000000 in
set_option maxRecDepth 100000 in
theorem h_empty_X4 (l : Launch) (D : va_G) (g : Nat → ClassId) (σ : Nat → Option Nat) (Z : State → Heap → Prop) (hZ0 : hZ σ Z) (M : hM) (N : hN) (R : hR) (a : Nat) (g_a : σ a = some 4) : Met l yX4_empty wsX4_empty ({ frames := 2, cells := 0, slots := 0, locals := 43 }) (va_Pc [.ref a] (hPre D g σ Z M N R)) (hQv D g σ e_h_empty_X4 M (fun (M1 : hM) (N1 : hN) (R1 : hR) => N = N1 ∧ R = R1)) 0 0 (hA σ) := by
  refine h_head (cc := cX4_empty) (maxL := 1) (ret := none) (by decide) rfl (Nat.le_of_ble_eq_true rfl) e_h_empty_X4 ?_
  intro p e s m below meth c ls Q ar hQ hx hb hr hlocks hml hown hts hK hE H locs hI hl
  have hown : s.vm.findClass RX4 = some m.cls := hown
  have hl : lv_has ls 1 [(0, .ref a)] := hl
  refine lv_aload_n hx hb dX4_empty_0 rfl (lv_at hl 0 rfl) ?_
  refine lv_iconst (v := 0) hx hb dX4_empty_1 (by decide) ?_
  refine h_puti hx hb hts iX4_empty_X4 tyX4 tyX4_ok nmX4 hown hK hI g_a (by decide) rfl rfl 0 (by decide) rfl (hts (.fieldLink RX4 9 "CatLeases$Mews" "cats" "I") (List.mem_of_getElem? (i := 1) rfl)) (fun _ h9 => h9) rfl .int (by decide +kernel) rfl rfl (iv_w (lo' := 0) (hi' := 6) kc_0 (by decide) (by decide)) rfl dX4_empty_2 (fun M1 H locs e_M1 hI => ?_)
  refine lv_aload_n hx hb dX4_empty_5 rfl (lv_at hl 0 rfl) ?_
  refine lv_iconst (v := 0) hx hb dX4_empty_6 (by decide) ?_
  refine h_puti hx hb hts iX4_empty_X4 tyX4 tyX4_ok nmX4 hown hK hI g_a (by decide) rfl rfl 1 (by decide) rfl (hts (.fieldLink RX4 15 "CatLeases$Mews" "rooms" "I") (List.mem_of_getElem? (i := 2) rfl)) (fun _ h9 => h9) rfl .int (by decide +kernel) rfl rfl (iv_w (lo' := 0) (hi' := 8) kc_0 (by decide) (by decide)) rfl dX4_empty_7 (fun M2 H locs e_M2 hI => ?_)
  refine lv_aload_n hx hb dX4_empty_10 rfl (lv_at hl 0 rfl) ?_
  refine lv_iconst (v := 0) hx hb dX4_empty_11 (by decide) ?_
  refine h_puti hx hb hts iX4_empty_X4 tyX4 tyX4_ok nmX4 hown hK hI g_a (by decide) rfl rfl 2 (by decide) rfl (hts (.fieldLink RX4 18 "CatLeases$Mews" "tenants" "I") (List.mem_of_getElem? (i := 3) rfl)) (fun _ h9 => h9) rfl .int (by decide +kernel) rfl rfl (iv_w (lo' := 0) (hi' := 7) kc_0 (by decide) (by decide)) rfl dX4_empty_12 (fun M3 H locs e_M3 hI => ?_)
  refine lv_aload_n hx hb dX4_empty_15 rfl (lv_at hl 0 rfl) ?_
  refine lv_iconst (v := 0) hx hb dX4_empty_16 (by decide) ?_
  refine h_puti hx hb hts iX4_empty_X4 tyX4 tyX4_ok nmX4 hown hK hI g_a (by decide) rfl rfl 3 (by decide) rfl (hts (.fieldLink RX4 21 "CatLeases$Mews" "dies" "I") (List.mem_of_getElem? (i := 4) rfl)) (fun _ h9 => h9) rfl .int (by decide +kernel) rfl rfl (iv_w (lo' := (-2147483648)) (hi' := 2147483647) kc_0 (by decide) (by decide)) rfl dX4_empty_17 (fun M4 H locs e_M4 hI => ?_)
  refine lv_aload_n hx hb dX4_empty_20 rfl (lv_at hl 0 rfl) ?_
  refine lv_iconst (v := 0) hx hb dX4_empty_21 (by decide) ?_
  refine h_puti hx hb hts iX4_empty_X4 tyX4 tyX4_ok nmX4 hown hK hI g_a (by decide) rfl rfl 4 (by decide) rfl (hts (.fieldLink RX4 24 "CatLeases$Mews" "units" "I") (List.mem_of_getElem? (i := 5) rfl)) (fun _ h9 => h9) rfl .int (by decide +kernel) rfl rfl (iv_w (lo' := (-2147483648)) (hi' := 2147483647) kc_0 (by decide) (by decide)) rfl dX4_empty_22 (fun M5 H locs e_M5 hI => ?_)
  refine lv_aload_n hx hb dX4_empty_25 rfl (lv_at hl 0 rfl) ?_
  refine h_getr hx hb hts iX4_empty_X4 hown hK hI g_a (by decide) rfl rfl 8 (by decide) rfl 7 rfl (hts (.fieldLink RX4 40 "CatLeases$Mews" "told" "LCatLeases$State;") (List.mem_of_getElem? (i := 6) rfl)) (fun _ h9 => h9) dX4_empty_26 (fun a6 e_a6 g_a6 => ?_)
  refine h_gov hI (by decide) (va_runV (As := []) (rest := []) ⟨hx, hb, hml, hown, hts⟩ (h_empty_X7 l D g σ Z hZ0 M5 N R a6 g_a6) (cwV 0 hts gX4_empty_X7_empty rfl rfl rfl (by decide +kernel) ⟨Nat.le_of_ble_eq_true rfl, Nat.le_of_ble_eq_true rfl⟩) (h_preV hZ0 hK hE hI g_a6 (by decide) rfl) rfl rfl hl.1 rfl (lv_room (Nat.le_of_ble_eq_true rfl)) dX4_empty_29 ⟨Nat.le_of_ble_eq_true rfl, Nat.le_of_ble_eq_true rfl⟩) (fun M8 N9 R10 H locs q11 z_M8 hI => ?_)
  obtain ⟨rfl, rfl⟩ := q11
  refine lv_aload_n hx hb dX4_empty_32 rfl (lv_at hl 0 rfl) ?_
  refine h_getr hx hb hts iX4_empty_X4 hown hK hI g_a (by decide) rfl rfl 9 (by decide) rfl 2 rfl (hts (.fieldLink RX4 47 "CatLeases$Mews" "formula" "LCatLeases$Formula;") (List.mem_of_getElem? (i := 7) rfl)) (fun _ h9 => h9) dX4_empty_33 (fun a12 e_a12 g_a12 => ?_)
  refine h_gov hI (by decide) (va_runV (As := []) (rest := []) ⟨hx, hb, hml, hown, hts⟩ (h_empty_X2 l D g σ Z hZ0 M8 N R a12 g_a12) (cwV 0 hts gX4_empty_X2_empty rfl rfl rfl (by decide +kernel) ⟨Nat.le_of_ble_eq_true rfl, Nat.le_of_ble_eq_true rfl⟩) (h_preV hZ0 hK hE hI g_a12 (by decide) rfl) rfl rfl hl.1 rfl (lv_room (Nat.le_of_ble_eq_true rfl)) dX4_empty_36 ⟨Nat.le_of_ble_eq_true rfl, Nat.le_of_ble_eq_true rfl⟩) (fun M14 N15 R16 H locs q17 z_M14 hI => ?_)
  obtain ⟨rfl, rfl⟩ := q17
  exact h_vret hQ hx hb hr hlocks hK hI ⟨rfl, rfl⟩ dX4_empty_39
abbrev e_h_roomsOf_X4 : List (Nat × Nat) := []
set_option maxHeartbeats 4000000 in
set_option maxRecDepth 100000 in
theorem h_roomsOf_X4 (l : Launch) (D : va_G) (g : Nat → ClassId) (σ : Nat → Option Nat) (Z : State → Heap → Prop) (hZ0 : hZ σ Z) (M : hM) (N : hN) (R : hR) (a : Nat) (g_a : σ a = some 4) (b : Nat) (g_b : σ b = some 7) (p2 : Int32) : Met l yX4_roomsOf wsX4_roomsOf ({ frames := 0, cells := 0, slots := 0, locals := 0 }) (va_Pc [.ref a, .ref b, .int p2] (hPre D g σ Z M N R)) (hQi D g σ e_h_roomsOf_X4 M (fun (r : Int32) (M1 : hM) (N1 : hN) (R1 : hR) => M = M1 ∧ N = N1 ∧ R = R1 ∧ iv r 0 255)) 0 0 (hA σ) := by
  refine h_head (cc := cX4_roomsOf) (maxL := 5) (ret := (some .int)) (by decide) rfl (Nat.le_of_ble_eq_true rfl) e_h_roomsOf_X4 ?_
  intro p e s m below meth c ls Q ar hQ hx hb hr hlocks hml hown hts hK hE H locs hI hl
  have hown : s.vm.findClass RX4 = some m.cls := hown
  have hl : lv_has ls 5 [(0, .ref a), (1, .ref b), (2, .int p2)] := hl
  refine lv_iconst (v := 0) hx hb dX4_roomsOf_0 (by decide) ?_
  refine lv_istore_n (lv' := [(3, .int (0 : Int32)), (0, .ref a), (1, .ref b), (2, .int p2)]) hx hb dX4_roomsOf_1 rfl hl (by decide) rfl (fun ls hl => ?_)
  refine lv_iconst (v := 0) hx hb dX4_roomsOf_2 (by decide) ?_
  have J5 : ∀ (n : Nat) (v3_5 : Int32) (v4_5 : Int32) (H : Heap) (locs : List Loc) (ls : Array Slot), kI D g σ e_h_roomsOf_X4 M s.heap M N R H locs → lv_has ls 5 [(0, .ref a), (1, .ref b), (2, .int p2), (3, .int v3_5), (4, .int v4_5)] → iv v3_5 0 255 → iv v4_5 0 8 → 9 ≤ v4_5.toInt + (n : Int) → W p l e (headSpec wsX4_roomsOf ({ frames := 0, cells := 0, slots := 0, locals := 0 })).room s m ar below meth c H locs 0 0 Q (F0 m 5 ls []) := by
    intro n
    induction n with
    | zero => intro v3_5 v4_5 H locs ls hI hl i_v3_5 i_v4_5 hn; exfalso; have hz := i_v4_5; simp only [iv] at hz; omega
    | succ n ih5 =>
      intro v3_5 v4_5 H locs ls hI hl i_v3_5 i_v4_5 hn5
      refine lv_iload hx hb dX4_roomsOf_5 (lv_at hl 4 rfl) ?_
      refine lv_aload_n hx hb dX4_roomsOf_7 rfl (lv_at hl 0 rfl) ?_
      refine h_geti (lo := 0) (hi := 8) hx hb hts iX4_roomsOf_X4 hown hK hI g_a (by decide) rfl rfl 1 (by decide) rfl rfl (hts (.fieldLink RX4 15 "CatLeases$Mews" "rooms" "I") (List.mem_of_getElem? (i := 1) rfl)) (fun _ h9 => h9) dX4_roomsOf_8 (fun v1 e_v1 i_v1 => ?_)
      refine lv_icmp_ge (tgt := 38) hx hb dX4_roomsOf_11 (by decide) (fun c2 => ?_) (fun c2 => ?_)
      · refine lv_iload_n hx hb dX4_roomsOf_38 rfl (lv_at hl 3 rfl) ?_
        exact h_iret hQ hx hb hr hlocks rfl hK hI ⟨rfl, rfl, rfl, i_v3_5⟩ dX4_roomsOf_39
      · have i3 : iv v1 1 8 := iv_nle1 c2 i_v1 i_v4_5 (by decide)
        have i4 : iv v4_5 0 7 := iv_nle2 c2 i_v1 i_v4_5 (by decide)
        refine lv_aload_n hx hb dX4_roomsOf_14 rfl (lv_at hl 1 rfl) ?_
        refine h_getr hx hb hts iX4_roomsOf_X7 hown hK hI g_b (by decide) rfl rfl 0 (by decide) rfl 12 rfl (hts (.fieldLink RX4 58 "CatLeases$State" "keepers" "[I") (List.mem_of_getElem? (i := 2) rfl)) (fun _ h9 => h9) dX4_roomsOf_15 (fun a5 e_a5 g_a5 => ?_)
        refine lv_iload hx hb dX4_roomsOf_18 (lv_at hl 4 rfl) ?_
        refine h_iald (j := v4_5.toNatClampNeg) (lo := (-1)) (hi := 5) hx hb hK hI g_a5 (by decide) rfl (iv_in (n := 8) i4 (by decide) (by decide)) rfl (hI.iv1 (n := 8) g_a5 rfl (in_lt (iv_in (n := 8) i4 (by decide) (by decide))) rfl) dX4_roomsOf_20 (fun v6 e_v6 i_v6 => ?_)
        refine lv_iload_n hx hb dX4_roomsOf_21 rfl (lv_at hl 2 rfl) ?_
        have J32 : ∀ (v3_32 : Int32) (H : Heap) (locs : List Loc) (ls : Array Slot), kI D g σ e_h_roomsOf_X4 M s.heap M N R H locs → lv_has ls 5 [(0, .ref a), (1, .ref b), (2, .int p2), (3, .int v3_32), (4, .int v4_5)] → iv v3_32 0 255 → W p l e (headSpec wsX4_roomsOf ({ frames := 0, cells := 0, slots := 0, locals := 0 })).room s m ar below meth c H locs 0 0 Q (F0 m 32 ls []) := by
          intro v3_32 H locs ls hI hl i_v3_32
          obtain ⟨v7, e_v7⟩ : ∃ z : Int32, z = v4_5 + Int32.ofInt 1 := ⟨_, rfl⟩
          have i_v7 : iv v7 1 8 := by rw [e_v7]; exact iv_add i4 (ki_1) (by decide) (by decide) (by decide) (by decide)
          refine lv_iinc (v := v7) (lv' := [(4, .int v7), (0, .ref a), (1, .ref b), (2, .int p2), (3, .int v3_32)]) hx hb dX4_roomsOf_32 hl (k := 4) rfl e_v7.symm (by decide) rfl (fun ls hl => ?_)
          refine lv_goto (tgt := 5) hx hb dX4_roomsOf_35 (by decide) ?_
          exact ih5 v3_32 v7 H locs ls hI (lv_sub hl [1, 2, 3, 4, 0] rfl) i_v3_32 (iv_w (lo' := 0) (hi' := 8) i_v7 (by decide) (by decide)) (by have h9 := (h_inc e_v7 i4 ki_1 (by decide) (by decide)); omega)
        refine lv_icmp_ne (tgt := 32) hx hb dX4_roomsOf_22 (by decide) (fun c8 => ?_) (fun c8 => ?_)
        · exact J32 v3_5 H locs ls hI hl i_v3_5
        · have i9 : iv p2 (-1) 5 := iv_eq2 c8 i_v6 (iv_any p2)
          refine lv_iload_n hx hb dX4_roomsOf_25 rfl (lv_at hl 3 rfl) ?_
          refine lv_iconst (v := 1) hx hb dX4_roomsOf_26 (by decide) ?_
          refine lv_iload hx hb dX4_roomsOf_27 (lv_at hl 4 rfl) ?_
          refine lv_ishl hx hb dX4_roomsOf_29 ?_
          refine h_nm (lo := 1) (hi := 128) (iv_shl1 7 i4 (by decide) (by decide) (by decide) (by decide) (by decide)) (fun v10 e_v10 i_v10 => ?_)
          refine lv_ior hx hb dX4_roomsOf_30 ?_
          refine h_nm (lo := 0) (hi := 255) (iv_or 8 i_v3_5 i_v10 (by decide) (by decide) (by decide) (by decide) (by decide) (by decide)) (fun v11 e_v11 i_v11 => ?_)
          refine lv_istore_n (lv' := [(3, .int v11), (0, .ref a), (1, .ref b), (2, .int p2), (4, .int v4_5)]) hx hb dX4_roomsOf_31 rfl hl (by decide) rfl (fun ls hl => ?_)
          exact J32 v11 H locs ls hI (lv_sub hl [1, 2, 3, 0, 4] rfl) i_v11
  refine lv_istore (lv' := [(4, .int (0 : Int32)), (3, .int (0 : Int32)), (0, .ref a), (1, .ref b), (2, .int p2)]) hx hb dX4_roomsOf_3 hl (by decide) rfl (fun ls hl => ?_)
  exact J5 9 (0 : Int32) (0 : Int32) H locs ls hI (lv_sub hl [2, 3, 4, 1, 0] rfl) (iv_w (lo' := 0) (hi' := 255) kc_0 (by decide) (by decide)) (iv_w (lo' := 0) (hi' := 8) kc_0 (by decide) (by decide)) (by have h9 := kc_0; simp only [iv] at h9; omega)
abbrev e_h_tenantsOf_X4 : List (Nat × Nat) := []
set_option maxHeartbeats 4000000 in
set_option maxRecDepth 100000 in
theorem h_tenantsOf_X4 (l : Launch) (D : va_G) (g : Nat → ClassId) (σ : Nat → Option Nat) (Z : State → Heap → Prop) (hZ0 : hZ σ Z) (M : hM) (N : hN) (R : hR) (a : Nat) (g_a : σ a = some 4) (b : Nat) (g_b : σ b = some 7) (p2 : Int32) : Met l yX4_tenantsOf wsX4_tenantsOf ({ frames := 1, cells := 0, slots := 0, locals := 21 }) (va_Pc [.ref a, .ref b, .int p2] (hPre D g σ Z M N R)) (hQi D g σ e_h_tenantsOf_X4 M (fun (r : Int32) (M1 : hM) (N1 : hN) (R1 : hR) => M = M1 ∧ N = N1 ∧ R = R1 ∧ iv r 0 255)) 0 0 (hA σ) := by
  refine h_head (cc := cX4_tenantsOf) (maxL := 6) (ret := (some .int)) (by decide) rfl (Nat.le_of_ble_eq_true rfl) e_h_tenantsOf_X4 ?_
  intro p e s m below meth c ls Q ar hQ hx hb hr hlocks hml hown hts hK hE H locs hI hl
  have hown : s.vm.findClass RX4 = some m.cls := hown
  have hl : lv_has ls 6 [(0, .ref a), (1, .ref b), (2, .int p2)] := hl
  refine lv_iconst (v := 0) hx hb dX4_tenantsOf_0 (by decide) ?_
  refine lv_istore_n (lv' := [(3, .int (0 : Int32)), (0, .ref a), (1, .ref b), (2, .int p2)]) hx hb dX4_tenantsOf_1 rfl hl (by decide) rfl (fun ls hl => ?_)
  refine lv_iconst (v := 0) hx hb dX4_tenantsOf_2 (by decide) ?_
  have J5 : ∀ (n : Nat) (v3_5 : Int32) (v4_5 : Int32) (H : Heap) (locs : List Loc) (ls : Array Slot), kI D g σ e_h_tenantsOf_X4 M s.heap M N R H locs → lv_has ls 6 [(0, .ref a), (1, .ref b), (2, .int p2), (3, .int v3_5), (4, .int v4_5)] → iv v3_5 0 255 → iv v4_5 0 7 → 8 ≤ v4_5.toInt + (n : Int) → W p l e (headSpec wsX4_tenantsOf ({ frames := 1, cells := 0, slots := 0, locals := 21 })).room s m ar below meth c H locs 0 0 Q (F0 m 5 ls []) := by
    intro n
    induction n with
    | zero => intro v3_5 v4_5 H locs ls hI hl i_v3_5 i_v4_5 hn; exfalso; have hz := i_v4_5; simp only [iv] at hz; omega
    | succ n ih5 =>
      intro v3_5 v4_5 H locs ls hI hl i_v3_5 i_v4_5 hn5
      refine lv_iload hx hb dX4_tenantsOf_5 (lv_at hl 4 rfl) ?_
      refine lv_aload_n hx hb dX4_tenantsOf_7 rfl (lv_at hl 0 rfl) ?_
      refine h_geti (lo := 0) (hi := 7) hx hb hts iX4_tenantsOf_X4 hown hK hI g_a (by decide) rfl rfl 2 (by decide) rfl rfl (hts (.fieldLink RX4 18 "CatLeases$Mews" "tenants" "I") (List.mem_of_getElem? (i := 1) rfl)) (fun _ h9 => h9) dX4_tenantsOf_8 (fun v1 e_v1 i_v1 => ?_)
      refine lv_icmp_ge (tgt := 56) hx hb dX4_tenantsOf_11 (by decide) (fun c2 => ?_) (fun c2 => ?_)
      · refine lv_iload_n hx hb dX4_tenantsOf_56 rfl (lv_at hl 3 rfl) ?_
        exact h_iret hQ hx hb hr hlocks rfl hK hI ⟨rfl, rfl, rfl, i_v3_5⟩ dX4_tenantsOf_57
      · have i3 : iv v1 1 7 := iv_nle1 c2 i_v1 i_v4_5 (by decide)
        have i4 : iv v4_5 0 6 := iv_nle2 c2 i_v1 i_v4_5 (by decide)
        refine lv_aload_n hx hb dX4_tenantsOf_14 rfl (lv_at hl 1 rfl) ?_
        refine h_getr hx hb hts iX4_tenantsOf_X7 hown hK hI g_b (by decide) rfl rfl 1 (by decide) rfl 13 rfl (hts (.fieldLink RX4 61 "CatLeases$State" "places" "[I") (List.mem_of_getElem? (i := 2) rfl)) (fun _ h9 => h9) dX4_tenantsOf_15 (fun a5 e_a5 g_a5 => ?_)
        refine lv_iload hx hb dX4_tenantsOf_18 (lv_at hl 4 rfl) ?_
        refine h_iald (j := v4_5.toNatClampNeg) (lo := (-1)) (hi := 7) hx hb hK hI g_a5 (by decide) rfl (iv_in (n := 7) i4 (by decide) (by decide)) rfl (hI.iv1 (n := 7) g_a5 rfl (in_lt (iv_in (n := 7) i4 (by decide) (by decide))) rfl) dX4_tenantsOf_20 (fun v6 e_v6 i_v6 => ?_)
        refine lv_istore (lv' := [(5, .int v6), (0, .ref a), (1, .ref b), (2, .int p2), (3, .int v3_5), (4, .int v4_5)]) hx hb dX4_tenantsOf_21 hl (by decide) rfl (fun ls hl => ?_)
        refine lv_aload_n hx hb dX4_tenantsOf_23 rfl (lv_at hl 2 rfl) ?_
        refine lv_iload hx hb dX4_tenantsOf_24 (lv_at hl 0 rfl) ?_
        refine h_goi hI (by decide) (va_runV (As := [.int v6]) (rest := []) ⟨hx, hb, hml, hown, hts⟩ (h_isKept_X7 l D g σ Z hZ0 M N R b g_b v6) (cwV 1 hts gX4_tenantsOf_X7_isKept rfl rfl rfl (by decide +kernel) ⟨Nat.le_of_ble_eq_true rfl, Nat.le_of_ble_eq_true rfl⟩) (h_preV hZ0 hK hE hI g_b (by decide) rfl) rfl rfl hl.1 rfl (lv_room (Nat.le_of_ble_eq_true rfl)) dX4_tenantsOf_26 ⟨Nat.le_of_ble_eq_true rfl, Nat.le_of_ble_eq_true rfl⟩) (fun r7 M8 N9 R10 H locs q11 z_M8 hI => ?_)
        obtain ⟨rfl, rfl, rfl, i_r7, z12, z13⟩ := q11
        have J50 : ∀ (v3_50 : Int32) (H : Heap) (locs : List Loc) (ls : Array Slot), kI D g σ e_h_tenantsOf_X4 M s.heap M N R H locs → lv_has ls 6 [(0, .ref a), (1, .ref b), (2, .int p2), (3, .int v3_50), (4, .int v4_5)] → iv v3_50 0 255 → W p l e (headSpec wsX4_tenantsOf ({ frames := 1, cells := 0, slots := 0, locals := 21 })).room s m ar below meth c H locs 0 0 Q (F0 m 50 ls []) := by
          intro v3_50 H locs ls hI hl i_v3_50
          obtain ⟨v14, e_v14⟩ : ∃ z : Int32, z = v4_5 + Int32.ofInt 1 := ⟨_, rfl⟩
          have i_v14 : iv v14 1 7 := by rw [e_v14]; exact iv_add i4 (ki_1) (by decide) (by decide) (by decide) (by decide)
          refine lv_iinc (v := v14) (lv' := [(4, .int v14), (0, .ref a), (1, .ref b), (2, .int p2), (3, .int v3_50)]) hx hb dX4_tenantsOf_50 hl (k := 4) rfl e_v14.symm (by decide) rfl (fun ls hl => ?_)
          refine lv_goto (tgt := 5) hx hb dX4_tenantsOf_53 (by decide) ?_
          exact ih5 v3_50 v14 H locs ls hI (lv_sub hl [1, 2, 3, 4, 0] rfl) i_v3_50 (iv_w (lo' := 0) (hi' := 7) i_v14 (by decide) (by decide)) (by have h9 := (h_inc e_v14 i4 ki_1 (by decide) (by decide)); omega)
        refine lv_if_eq (tgt := 50) hx hb dX4_tenantsOf_29 (by decide) (fun c15 => ?_) (fun c15 => ?_)
        · have i16 : iv r7 0 0 := iv_eq1 c15 i_r7 kc_0
          exact J50 v3_5 H locs ls hI (lv_sub hl [1, 2, 3, 4, 5] rfl) i_v3_5
        · have i17 : iv v6 0 7 := z12 c15
          have i18 := z13 c15
          have i19 : iv r7 1 1 := iv_neL c15 i_r7 (by decide) (by decide)
          refine lv_aload_n hx hb dX4_tenantsOf_32 rfl (lv_at hl 2 rfl) ?_
          refine h_getr hx hb hts iX4_tenantsOf_X7 hown hK hI g_b (by decide) rfl rfl 0 (by decide) rfl 12 rfl (hts (.fieldLink RX4 58 "CatLeases$State" "keepers" "[I") (List.mem_of_getElem? (i := 3) rfl)) (fun _ h9 => h9) dX4_tenantsOf_33 (fun a20 e_a20 g_a20 => ?_)
          refine lv_iload hx hb dX4_tenantsOf_36 (lv_at hl 0 rfl) ?_
          refine h_iald (j := v6.toNatClampNeg) (lo := (-1)) (hi := 5) hx hb hK hI g_a20 (by decide) rfl (iv_in (n := 8) i17 (by decide) (by decide)) rfl (hI.iv1 (n := 8) g_a20 rfl (in_lt (iv_in (n := 8) i17 (by decide) (by decide))) rfl) dX4_tenantsOf_38 (fun v21 e_v21 i_v21 => ?_)
          have i22 : iv v21 0 5 := by rw [e_v21, e_a20]; exact i18
          refine lv_iload_n hx hb dX4_tenantsOf_39 rfl (lv_at hl 3 rfl) ?_
          refine lv_icmp_ne (tgt := 50) hx hb dX4_tenantsOf_40 (by decide) (fun c23 => ?_) (fun c23 => ?_)
          · exact J50 v3_5 H locs ls hI (lv_sub hl [1, 2, 3, 4, 5] rfl) i_v3_5
          · have i24 : iv p2 0 5 := iv_eq2 c23 i22 (iv_any p2)
            refine lv_iload_n hx hb dX4_tenantsOf_43 rfl (lv_at hl 4 rfl) ?_
            refine lv_iconst (v := 1) hx hb dX4_tenantsOf_44 (by decide) ?_
            refine lv_iload hx hb dX4_tenantsOf_45 (lv_at hl 5 rfl) ?_
            refine lv_ishl hx hb dX4_tenantsOf_47 ?_
            refine h_nm (lo := 1) (hi := 64) (iv_shl1 6 i4 (by decide) (by decide) (by decide) (by decide) (by decide)) (fun v25 e_v25 i_v25 => ?_)
            refine lv_ior hx hb dX4_tenantsOf_48 ?_
            refine h_nm (lo := 0) (hi := 255) (iv_or 8 i_v3_5 i_v25 (by decide) (by decide) (by decide) (by decide) (by decide) (by decide)) (fun v26 e_v26 i_v26 => ?_)
            refine lv_istore_n (lv' := [(3, .int v26), (5, .int v6), (0, .ref a), (1, .ref b), (2, .int p2), (4, .int v4_5)]) hx hb dX4_tenantsOf_49 rfl hl (by decide) rfl (fun ls hl => ?_)
            exact J50 v26 H locs ls hI (lv_sub hl [2, 3, 4, 0, 5] rfl) i_v26
  refine lv_istore (lv' := [(4, .int (0 : Int32)), (3, .int (0 : Int32)), (0, .ref a), (1, .ref b), (2, .int p2)]) hx hb dX4_tenantsOf_3 hl (by decide) rfl (fun ls hl => ?_)
  exact J5 8 (0 : Int32) (0 : Int32) H locs ls hI (lv_sub hl [2, 3, 4, 1, 0] rfl) (iv_w (lo' := 0) (hi' := 255) kc_0 (by decide) (by decide)) (iv_w (lo' := 0) (hi' := 7) kc_0 (by decide) (by decide)) (by have h9 := kc_0; simp only [iv] at h9; omega)
abbrev e_h_whoIsIn_X4 : List (Nat × Nat) := []
set_option maxHeartbeats 4000000 in
set_option maxRecDepth 100000 in
theorem h_whoIsIn_X4 (l : Launch) (D : va_G) (g : Nat → ClassId) (σ : Nat → Option Nat) (Z : State → Heap → Prop) (hZ0 : hZ σ Z) (M : hM) (N : hN) (R : hR) (a : Nat) (g_a : σ a = some 4) (b : Nat) (g_b : σ b = some 7) (p2 : Int32) : Met l yX4_whoIsIn wsX4_whoIsIn ({ frames := 0, cells := 0, slots := 0, locals := 0 }) (va_Pc [.ref a, .ref b, .int p2] (hPre D g σ Z M N R)) (hQi D g σ e_h_whoIsIn_X4 M (fun (r : Int32) (M1 : hM) (N1 : hN) (R1 : hR) => M = M1 ∧ N = N1 ∧ R = R1 ∧ iv r (-1) 6)) 0 0 (hA σ) := by
  refine h_head (cc := cX4_whoIsIn) (maxL := 4) (ret := (some .int)) (by decide) rfl (Nat.le_of_ble_eq_true rfl) e_h_whoIsIn_X4 ?_
  intro p e s m below meth c ls Q ar hQ hx hb hr hlocks hml hown hts hK hE H locs hI hl
  have hown : s.vm.findClass RX4 = some m.cls := hown
  have hl : lv_has ls 4 [(0, .ref a), (1, .ref b), (2, .int p2)] := hl
  refine lv_iconst (v := 0) hx hb dX4_whoIsIn_0 (by decide) ?_
  have J2 : ∀ (n : Nat) (v3_2 : Int32) (H : Heap) (locs : List Loc) (ls : Array Slot), kI D g σ e_h_whoIsIn_X4 M s.heap M N R H locs → lv_has ls 4 [(0, .ref a), (1, .ref b), (2, .int p2), (3, .int v3_2)] → iv v3_2 0 7 → 8 ≤ v3_2.toInt + (n : Int) → W p l e (headSpec wsX4_whoIsIn ({ frames := 0, cells := 0, slots := 0, locals := 0 })).room s m ar below meth c H locs 0 0 Q (F0 m 2 ls []) := by
    intro n
    induction n with
    | zero => intro v3_2 H locs ls hI hl i_v3_2 hn; exfalso; have hz := i_v3_2; simp only [iv] at hz; omega
    | succ n ih2 =>
      intro v3_2 H locs ls hI hl i_v3_2 hn2
      refine lv_iload_n hx hb dX4_whoIsIn_2 rfl (lv_at hl 3 rfl) ?_
      refine lv_aload_n hx hb dX4_whoIsIn_3 rfl (lv_at hl 0 rfl) ?_
      refine h_geti (lo := 0) (hi := 7) hx hb hts iX4_whoIsIn_X4 hown hK hI g_a (by decide) rfl rfl 2 (by decide) rfl rfl (hts (.fieldLink RX4 18 "CatLeases$Mews" "tenants" "I") (List.mem_of_getElem? (i := 1) rfl)) (fun _ h9 => h9) dX4_whoIsIn_4 (fun v1 e_v1 i_v1 => ?_)
      refine lv_icmp_ge (tgt := 28) hx hb dX4_whoIsIn_7 (by decide) (fun c2 => ?_) (fun c2 => ?_)
      · refine lv_iconst (v := (-1)) hx hb dX4_whoIsIn_28 (by decide) ?_
        exact h_iret hQ hx hb hr hlocks rfl hK hI ⟨rfl, rfl, rfl, (iv_w (lo' := (-1)) (hi' := 6) kc_m1 (by decide) (by decide))⟩ dX4_whoIsIn_29
      · have i3 : iv v1 1 7 := iv_nle1 c2 i_v1 i_v3_2 (by decide)
        have i4 : iv v3_2 0 6 := iv_nle2 c2 i_v1 i_v3_2 (by decide)
        refine lv_aload_n hx hb dX4_whoIsIn_10 rfl (lv_at hl 1 rfl) ?_
        refine h_getr hx hb hts iX4_whoIsIn_X7 hown hK hI g_b (by decide) rfl rfl 1 (by decide) rfl 13 rfl (hts (.fieldLink RX4 61 "CatLeases$State" "places" "[I") (List.mem_of_getElem? (i := 2) rfl)) (fun _ h9 => h9) dX4_whoIsIn_11 (fun a5 e_a5 g_a5 => ?_)
        refine lv_iload_n hx hb dX4_whoIsIn_14 rfl (lv_at hl 3 rfl) ?_
        refine h_iald (j := v3_2.toNatClampNeg) (lo := (-1)) (hi := 7) hx hb hK hI g_a5 (by decide) rfl (iv_in (n := 7) i4 (by decide) (by decide)) rfl (hI.iv1 (n := 7) g_a5 rfl (in_lt (iv_in (n := 7) i4 (by decide) (by decide))) rfl) dX4_whoIsIn_15 (fun v6 e_v6 i_v6 => ?_)
        refine lv_iload_n hx hb dX4_whoIsIn_16 rfl (lv_at hl 2 rfl) ?_
        refine lv_icmp_ne (tgt := 22) hx hb dX4_whoIsIn_17 (by decide) (fun c7 => ?_) (fun c7 => ?_)
        · obtain ⟨v8, e_v8⟩ : ∃ z : Int32, z = v3_2 + Int32.ofInt 1 := ⟨_, rfl⟩
          have i_v8 : iv v8 1 7 := by rw [e_v8]; exact iv_add i4 (ki_1) (by decide) (by decide) (by decide) (by decide)
          refine lv_iinc (v := v8) (lv' := [(3, .int v8), (0, .ref a), (1, .ref b), (2, .int p2)]) hx hb dX4_whoIsIn_22 hl (k := 3) rfl e_v8.symm (by decide) rfl (fun ls hl => ?_)
          refine lv_goto (tgt := 2) hx hb dX4_whoIsIn_25 (by decide) ?_
          exact ih2 v8 H locs ls hI (lv_sub hl [1, 2, 3, 0] rfl) (iv_w (lo' := 0) (hi' := 7) i_v8 (by decide) (by decide)) (by have h9 := (h_inc e_v8 i4 ki_1 (by decide) (by decide)); omega)
        · have i9 : iv p2 (-1) 7 := iv_eq2 c7 i_v6 (iv_any p2)
          refine lv_iload_n hx hb dX4_whoIsIn_20 rfl (lv_at hl 3 rfl) ?_
          exact h_iret hQ hx hb hr hlocks rfl hK hI ⟨rfl, rfl, rfl, (iv_w (lo' := (-1)) (hi' := 6) i4 (by decide) (by decide))⟩ dX4_whoIsIn_21
  refine lv_istore_n (lv' := [(3, .int (0 : Int32)), (0, .ref a), (1, .ref b), (2, .int p2)]) hx hb dX4_whoIsIn_1 rfl hl (by decide) rfl (fun ls hl => ?_)
  exact J2 8 (0 : Int32) H locs ls hI (lv_sub hl [1, 2, 3, 0] rfl) (iv_w (lo' := 0) (hi' := 7) kc_0 (by decide) (by decide)) (by have h9 := kc_0; simp only [iv] at h9; omega)
abbrev e_h_whoIsOut_X4 : List (Nat × Nat) := []
set_option maxHeartbeats 4000000 in
set_option maxRecDepth 100000 in
theorem h_whoIsOut_X4 (l : Launch) (D : va_G) (g : Nat → ClassId) (σ : Nat → Option Nat) (Z : State → Heap → Prop) (hZ0 : hZ σ Z) (M : hM) (N : hN) (R : hR) (a : Nat) (g_a : σ a = some 4) (b : Nat) (g_b : σ b = some 7) : Met l yX4_whoIsOut wsX4_whoIsOut ({ frames := 0, cells := 0, slots := 0, locals := 0 }) (va_Pc [.ref a, .ref b] (hPre D g σ Z M N R)) (hQi D g σ e_h_whoIsOut_X4 M (fun (r : Int32) (M1 : hM) (N1 : hN) (R1 : hR) => M = M1 ∧ N = N1 ∧ R = R1 ∧ iv r 0 255)) 0 0 (hA σ) := by
  refine h_head (cc := cX4_whoIsOut) (maxL := 4) (ret := (some .int)) (by decide) rfl (Nat.le_of_ble_eq_true rfl) e_h_whoIsOut_X4 ?_
  intro p e s m below meth c ls Q ar hQ hx hb hr hlocks hml hown hts hK hE H locs hI hl
  have hown : s.vm.findClass RX4 = some m.cls := hown
  have hl : lv_has ls 4 [(0, .ref a), (1, .ref b)] := hl
  refine lv_iconst (v := 0) hx hb dX4_whoIsOut_0 (by decide) ?_
  refine lv_istore_n (lv' := [(2, .int (0 : Int32)), (0, .ref a), (1, .ref b)]) hx hb dX4_whoIsOut_1 rfl hl (by decide) rfl (fun ls hl => ?_)
  refine lv_iconst (v := 0) hx hb dX4_whoIsOut_2 (by decide) ?_
  have J4 : ∀ (n : Nat) (v2_4 : Int32) (v3_4 : Int32) (H : Heap) (locs : List Loc) (ls : Array Slot), kI D g σ e_h_whoIsOut_X4 M s.heap M N R H locs → lv_has ls 4 [(0, .ref a), (1, .ref b), (2, .int v2_4), (3, .int v3_4)] → iv v2_4 0 255 → iv v3_4 0 7 → 8 ≤ v3_4.toInt + (n : Int) → W p l e (headSpec wsX4_whoIsOut ({ frames := 0, cells := 0, slots := 0, locals := 0 })).room s m ar below meth c H locs 0 0 Q (F0 m 4 ls []) := by
    intro n
    induction n with
    | zero => intro v2_4 v3_4 H locs ls hI hl i_v2_4 i_v3_4 hn; exfalso; have hz := i_v3_4; simp only [iv] at hz; omega
    | succ n ih4 =>
      intro v2_4 v3_4 H locs ls hI hl i_v2_4 i_v3_4 hn4
      refine lv_iload_n hx hb dX4_whoIsOut_4 rfl (lv_at hl 3 rfl) ?_
      refine lv_aload_n hx hb dX4_whoIsOut_5 rfl (lv_at hl 0 rfl) ?_
      refine h_geti (lo := 0) (hi := 7) hx hb hts iX4_whoIsOut_X4 hown hK hI g_a (by decide) rfl rfl 2 (by decide) rfl rfl (hts (.fieldLink RX4 18 "CatLeases$Mews" "tenants" "I") (List.mem_of_getElem? (i := 1) rfl)) (fun _ h9 => h9) dX4_whoIsOut_6 (fun v1 e_v1 i_v1 => ?_)
      refine lv_icmp_ge (tgt := 34) hx hb dX4_whoIsOut_9 (by decide) (fun c2 => ?_) (fun c2 => ?_)
      · refine lv_iload_n hx hb dX4_whoIsOut_34 rfl (lv_at hl 2 rfl) ?_
        exact h_iret hQ hx hb hr hlocks rfl hK hI ⟨rfl, rfl, rfl, i_v2_4⟩ dX4_whoIsOut_35
      · have i3 : iv v1 1 7 := iv_nle1 c2 i_v1 i_v3_4 (by decide)
        have i4 : iv v3_4 0 6 := iv_nle2 c2 i_v1 i_v3_4 (by decide)
        refine lv_aload_n hx hb dX4_whoIsOut_12 rfl (lv_at hl 1 rfl) ?_
        refine h_getr hx hb hts iX4_whoIsOut_X7 hown hK hI g_b (by decide) rfl rfl 1 (by decide) rfl 13 rfl (hts (.fieldLink RX4 61 "CatLeases$State" "places" "[I") (List.mem_of_getElem? (i := 2) rfl)) (fun _ h9 => h9) dX4_whoIsOut_13 (fun a5 e_a5 g_a5 => ?_)
        refine lv_iload_n hx hb dX4_whoIsOut_16 rfl (lv_at hl 3 rfl) ?_
        refine h_iald (j := v3_4.toNatClampNeg) (lo := (-1)) (hi := 7) hx hb hK hI g_a5 (by decide) rfl (iv_in (n := 7) i4 (by decide) (by decide)) rfl (hI.iv1 (n := 7) g_a5 rfl (in_lt (iv_in (n := 7) i4 (by decide) (by decide))) rfl) dX4_whoIsOut_17 (fun v6 e_v6 i_v6 => ?_)
        refine lv_iconst (v := (-1)) hx hb dX4_whoIsOut_18 (by decide) ?_
        have J28 : ∀ (v2_28 : Int32) (H : Heap) (locs : List Loc) (ls : Array Slot), kI D g σ e_h_whoIsOut_X4 M s.heap M N R H locs → lv_has ls 4 [(0, .ref a), (1, .ref b), (2, .int v2_28), (3, .int v3_4)] → iv v2_28 0 255 → W p l e (headSpec wsX4_whoIsOut ({ frames := 0, cells := 0, slots := 0, locals := 0 })).room s m ar below meth c H locs 0 0 Q (F0 m 28 ls []) := by
          intro v2_28 H locs ls hI hl i_v2_28
          obtain ⟨v7, e_v7⟩ : ∃ z : Int32, z = v3_4 + Int32.ofInt 1 := ⟨_, rfl⟩
          have i_v7 : iv v7 1 7 := by rw [e_v7]; exact iv_add i4 (ki_1) (by decide) (by decide) (by decide) (by decide)
          refine lv_iinc (v := v7) (lv' := [(3, .int v7), (0, .ref a), (1, .ref b), (2, .int v2_28)]) hx hb dX4_whoIsOut_28 hl (k := 3) rfl e_v7.symm (by decide) rfl (fun ls hl => ?_)
          refine lv_goto (tgt := 4) hx hb dX4_whoIsOut_31 (by decide) ?_
          exact ih4 v2_28 v7 H locs ls hI (lv_sub hl [1, 2, 3, 0] rfl) i_v2_28 (iv_w (lo' := 0) (hi' := 7) i_v7 (by decide) (by decide)) (by have h9 := (h_inc e_v7 i4 ki_1 (by decide) (by decide)); omega)
        refine lv_icmp_ne (tgt := 28) hx hb dX4_whoIsOut_19 (by decide) (fun c8 => ?_) (fun c8 => ?_)
        · have i9 : iv v6 0 7 := iv_neL c8 i_v6 (by decide) (by decide)
          exact J28 v2_4 H locs ls hI hl i_v2_4
        · have i10 : iv v6 (-1) (-1) := iv_eq1 c8 i_v6 kc_m1
          refine lv_iload_n hx hb dX4_whoIsOut_22 rfl (lv_at hl 2 rfl) ?_
          refine lv_iconst (v := 1) hx hb dX4_whoIsOut_23 (by decide) ?_
          refine lv_iload_n hx hb dX4_whoIsOut_24 rfl (lv_at hl 3 rfl) ?_
          refine lv_ishl hx hb dX4_whoIsOut_25 ?_
          refine h_nm (lo := 1) (hi := 64) (iv_shl1 6 i4 (by decide) (by decide) (by decide) (by decide) (by decide)) (fun v11 e_v11 i_v11 => ?_)
          refine lv_ior hx hb dX4_whoIsOut_26 ?_
          refine h_nm (lo := 0) (hi := 255) (iv_or 8 i_v2_4 i_v11 (by decide) (by decide) (by decide) (by decide) (by decide) (by decide)) (fun v12 e_v12 i_v12 => ?_)
          refine lv_istore_n (lv' := [(2, .int v12), (0, .ref a), (1, .ref b), (3, .int v3_4)]) hx hb dX4_whoIsOut_27 rfl hl (by decide) rfl (fun ls hl => ?_)
          exact J28 v12 H locs ls hI (lv_sub hl [1, 2, 0, 3] rfl) i_v12
  refine lv_istore_n (lv' := [(3, .int (0 : Int32)), (2, .int (0 : Int32)), (0, .ref a), (1, .ref b)]) hx hb dX4_whoIsOut_3 rfl hl (by decide) rfl (fun ls hl => ?_)
  exact J4 8 (0 : Int32) (0 : Int32) H locs ls hI (lv_sub hl [2, 3, 1, 0] rfl) (iv_w (lo' := 0) (hi' := 255) kc_0 (by decide) (by decide)) (iv_w (lo' := 0) (hi' := 7) kc_0 (by decide) (by decide)) (by have h9 := kc_0; simp only [iv] at h9; omega)
abbrev e_h_consider_X4 : List (Nat × Nat) := [(14, 999)]
set_option maxHeartbeats 4000000 in
set_option maxRecDepth 100000 in
theorem h_consider_X4 (l : Launch) (D : va_G) (g : Nat → ClassId) (σ : Nat → Option Nat) (Z : State → Heap → Prop) (hZ0 : hZ σ Z) (M : hM) (N : hN) (R : hR) (a : Nat) (g_a : σ a = some 4) (b : Nat) (g_b : σ b = some 7) (p2 : Int32) (p3 : Int32) : Met l yX4_consider wsX4_consider ({ frames := 1, cells := 0, slots := 0, locals := 23 }) (va_Pc [.ref a, .ref b, .int p2, .int p3] (hPre D g σ Z M N R)) (hQv D g σ e_h_consider_X4 M (fun (M1 : hM) (N1 : hN) (R1 : hR) => N = N1 ∧ R = R1)) 0 0 (hA σ) := by
  refine h_head (cc := cX4_consider) (maxL := 5) (ret := none) (by decide) rfl (Nat.le_of_ble_eq_true rfl) e_h_consider_X4 ?_
  intro p e s m below meth c ls Q ar hQ hx hb hr hlocks hml hown hts hK hE H locs hI hl
  have hown : s.vm.findClass RX4 = some m.cls := hown
  have hl : lv_has ls 5 [(0, .ref a), (1, .ref b), (2, .int p2), (3, .int p3)] := hl
  refine lv_iload_n hx hb dX4_consider_0 rfl (lv_at hl 2 rfl) ?_
  refine lv_if_lt (tgt := 20) hx hb dX4_consider_1 (by decide) (fun c1 => ?_) (fun c1 => ?_)
  · have i2 : iv p2 (-2147483648) (-1) := iv_lt1 c1 (iv_any p2) kc_0 (by decide)
    exact h_vret hQ hx hb hr hlocks hK hI ⟨rfl, rfl⟩ dX4_consider_20
  · have i3 : iv p2 0 2147483647 := iv_nlt1 c1 (iv_any p2) kc_0 (by decide)
    refine lv_iload_n hx hb dX4_consider_4 rfl (lv_at hl 2 rfl) ?_
    refine lv_aload_n hx hb dX4_consider_5 rfl (lv_at hl 0 rfl) ?_
    refine h_geti (lo := 0) (hi := 7) hx hb hts iX4_consider_X4 hown hK hI g_a (by decide) rfl rfl 2 (by decide) rfl rfl (hts (.fieldLink RX4 18 "CatLeases$Mews" "tenants" "I") (List.mem_of_getElem? (i := 1) rfl)) (fun _ h9 => h9) dX4_consider_6 (fun v4 e_v4 i_v4 => ?_)
    refine lv_icmp_ge (tgt := 20) hx hb dX4_consider_9 (by decide) (fun c5 => ?_) (fun c5 => ?_)
    · exact h_vret hQ hx hb hr hlocks hK hI ⟨rfl, rfl⟩ dX4_consider_20
    · have i6 : iv v4 1 7 := iv_nle1 c5 i_v4 i3 (by decide)
      have i7 : iv p2 0 6 := iv_nle2 c5 i_v4 i3 (by decide)
      refine lv_aload_n hx hb dX4_consider_12 rfl (lv_at hl 1 rfl) ?_
      refine lv_iload_n hx hb dX4_consider_13 rfl (lv_at hl 3 rfl) ?_
      refine h_goi hI (by decide) (va_runV (As := [.int p3]) (rest := []) ⟨hx, hb, hml, hown, hts⟩ (h_isKept_X7 l D g σ Z hZ0 M N R b g_b p3) (cwV 1 hts gX4_consider_X7_isKept rfl rfl rfl (by decide +kernel) ⟨Nat.le_of_ble_eq_true rfl, Nat.le_of_ble_eq_true rfl⟩) (h_preV hZ0 hK hE hI g_b (by decide) rfl) rfl rfl hl.1 rfl (lv_room (Nat.le_of_ble_eq_true rfl)) dX4_consider_14 ⟨Nat.le_of_ble_eq_true rfl, Nat.le_of_ble_eq_true rfl⟩) (fun r8 M9 N10 R11 H locs q12 z_M9 hI => ?_)
      obtain ⟨rfl, rfl, rfl, i_r8, z13, z14⟩ := q12
      refine lv_if_ne (tgt := 21) hx hb dX4_consider_17 (by decide) (fun c15 => ?_) (fun c15 => ?_)
      · have i16 : iv p3 0 7 := z13 c15
        have i17 := z14 c15
        have i18 : iv r8 1 1 := iv_neL c15 i_r8 (by decide) (by decide)
        refine lv_aload_n hx hb dX4_consider_21 rfl (lv_at hl 1 rfl) ?_
        refine h_getr hx hb hts iX4_consider_X7 hown hK hI g_b (by decide) rfl rfl 0 (by decide) rfl 12 rfl (hts (.fieldLink RX4 58 "CatLeases$State" "keepers" "[I") (List.mem_of_getElem? (i := 2) rfl)) (fun _ h9 => h9) dX4_consider_22 (fun a19 e_a19 g_a19 => ?_)
        refine lv_iload_n hx hb dX4_consider_25 rfl (lv_at hl 3 rfl) ?_
        refine h_iald (j := p3.toNatClampNeg) (lo := (-1)) (hi := 5) hx hb hK hI g_a19 (by decide) rfl (iv_in (n := 8) i16 (by decide) (by decide)) rfl (hI.iv1 (n := 8) g_a19 rfl (in_lt (iv_in (n := 8) i16 (by decide) (by decide))) rfl) dX4_consider_26 (fun v20 e_v20 i_v20 => ?_)
        have i21 : iv v20 0 5 := by rw [e_v20, e_a19]; exact i17
        refine lv_istore (lv' := [(4, .int v20), (0, .ref a), (1, .ref b), (2, .int p2), (3, .int p3)]) hx hb dX4_consider_27 hl (by decide) rfl (fun ls hl => ?_)
        refine lv_aload_n hx hb dX4_consider_29 rfl (lv_at hl 1 rfl) ?_
        refine h_getr hx hb hts iX4_consider_X4 hown hK hI g_a (by decide) rfl rfl 10 (by decide) rfl 14 rfl (hts (.fieldLink RX4 51 "CatLeases$Mews" "terms" "[I") (List.mem_of_getElem? (i := 3) rfl)) (fun _ h9 => h9) dX4_consider_30 (fun a22 e_a22 g_a22 => ?_)
        refine lv_iconst (v := 0) hx hb dX4_consider_33 (by decide) ?_
        refine lv_aload_n hx hb dX4_consider_34 rfl (lv_at hl 2 rfl) ?_
        refine h_getr hx hb hts iX4_consider_X7 hown hK hI g_b (by decide) rfl rfl 3 (by decide) rfl 14 rfl (hts (.fieldLink RX4 68 "CatLeases$State" "hours" "[I") (List.mem_of_getElem? (i := 4) rfl)) (fun _ h9 => h9) dX4_consider_35 (fun a23 e_a23 g_a23 => ?_)
        refine lv_iload_n hx hb dX4_consider_38 rfl (lv_at hl 3 rfl) ?_
        refine h_iald (j := p2.toNatClampNeg) (lo := (-2147483648)) (hi := 2147483647) hx hb hK hI g_a23 (by decide) rfl (iv_in (n := 7) i7 (by decide) (by decide)) rfl (iv_any _) dX4_consider_39 (fun v24 e_v24 i_v24 => ?_)
        refine h_iast (j := 0) hx hb hK hI g_a22 (by decide) rfl (iv_in (n := 7) kc_0 (by decide) (by decide)) (by decide) (iv_any _) rfl dX4_consider_40 (fun M25 H locs e_M25 hI => ?_)
        refine lv_aload_n hx hb dX4_consider_41 rfl (lv_at hl 1 rfl) ?_
        refine h_getr hx hb hts iX4_consider_X4 hown hK hI g_a (by decide) rfl rfl 10 (by decide) rfl 14 rfl (hts (.fieldLink RX4 51 "CatLeases$Mews" "terms" "[I") (List.mem_of_getElem? (i := 3) rfl)) (fun _ h9 => h9) dX4_consider_42 (fun a26 e_a26 g_a26 => ?_)
        have q27 : a22 = a26 := (e_a22).trans e_a26.symm
        subst q27
        refine lv_iconst (v := 1) hx hb dX4_consider_45 (by decide) ?_
        refine lv_iload hx hb dX4_consider_46 (lv_at hl 0 rfl) ?_
        refine lv_aload_n hx hb dX4_consider_48 rfl (lv_at hl 1 rfl) ?_
        refine h_getr hx hb hts iX4_consider_X4 hown hK hI g_a (by decide) rfl rfl 5 (by decide) rfl 15 rfl (hts (.fieldLink RX4 27 "CatLeases$Mews" "wants" "[I") (List.mem_of_getElem? (i := 5) rfl)) (fun _ h9 => h9) dX4_consider_49 (fun a28 e_a28 g_a28 => ?_)
        refine h_alen (v := 6) hx hb hK hI g_a28 (by decide) rfl (by decide) (by decide) dX4_consider_52 ?_
        have J67 : ∀ (t2_67 : Int32) (H : Heap) (locs : List Loc) (ls : Array Slot), kI D g σ e_h_consider_X4 M s.heap M25 N R H locs → lv_has ls 5 [(0, .ref a), (1, .ref b), (2, .int p2), (3, .int p3), (4, .int v20)] → W p l e (headSpec wsX4_consider ({ frames := 1, cells := 0, slots := 0, locals := 23 })).room s m ar below meth c H locs 0 0 Q (F0 m 67 ls [.int t2_67, .int (1 : Int32), .ref a22]) := by
          intro t2_67 H locs ls hI hl
          refine h_iast (j := 1) hx hb hK hI g_a22 (by decide) rfl (iv_in (n := 7) kc_1 (by decide) (by decide)) (by decide) (iv_any _) rfl dX4_consider_67 (fun M29 H locs e_M29 hI => ?_)
          refine lv_aload_n hx hb dX4_consider_68 rfl (lv_at hl 0 rfl) ?_
          refine h_getr hx hb hts iX4_consider_X4 hown hK hI g_a (by decide) rfl rfl 10 (by decide) rfl 14 rfl (hts (.fieldLink RX4 51 "CatLeases$Mews" "terms" "[I") (List.mem_of_getElem? (i := 3) rfl)) (fun _ h9 => h9) dX4_consider_69 (fun a30 e_a30 g_a30 => ?_)
          have q31 : a22 = a30 := (e_a22).trans e_a30.symm
          subst q31
          refine lv_iconst (v := 2) hx hb dX4_consider_72 (by decide) ?_
          refine lv_aload_n hx hb dX4_consider_73 rfl (lv_at hl 0 rfl) ?_
          refine h_getr hx hb hts iX4_consider_X4 hown hK hI g_a (by decide) rfl rfl 7 (by decide) rfl 14 rfl (hts (.fieldLink RX4 34 "CatLeases$Mews" "warmths" "[I") (List.mem_of_getElem? (i := 6) rfl)) (fun _ h9 => h9) dX4_consider_74 (fun a32 e_a32 g_a32 => ?_)
          refine lv_iload_n hx hb dX4_consider_77 rfl (lv_at hl 2 rfl) ?_
          refine h_iald (j := p2.toNatClampNeg) (lo := (-2147483648)) (hi := 2147483647) hx hb hK hI g_a32 (by decide) rfl (iv_in (n := 7) i7 (by decide) (by decide)) rfl (iv_any _) dX4_consider_78 (fun v33 e_v33 i_v33 => ?_)
          refine h_iast (j := 2) hx hb hK hI g_a22 (by decide) rfl (iv_in (n := 7) kc_2 (by decide) (by decide)) (by decide) (iv_any _) rfl dX4_consider_79 (fun M34 H locs e_M34 hI => ?_)
          refine lv_aload_n hx hb dX4_consider_80 rfl (lv_at hl 0 rfl) ?_
          refine h_getr hx hb hts iX4_consider_X4 hown hK hI g_a (by decide) rfl rfl 10 (by decide) rfl 14 rfl (hts (.fieldLink RX4 51 "CatLeases$Mews" "terms" "[I") (List.mem_of_getElem? (i := 3) rfl)) (fun _ h9 => h9) dX4_consider_81 (fun a35 e_a35 g_a35 => ?_)
          have q36 : a22 = a35 := (e_a22).trans e_a35.symm
          subst q36
          refine lv_iconst (v := 3) hx hb dX4_consider_84 (by decide) ?_
          refine lv_aload_n hx hb dX4_consider_85 rfl (lv_at hl 1 rfl) ?_
          refine h_getr hx hb hts iX4_consider_X7 hown hK hI g_b (by decide) rfl rfl 4 (by decide) rfl 14 rfl (hts (.fieldLink RX4 71 "CatLeases$State" "fidgets" "[I") (List.mem_of_getElem? (i := 7) rfl)) (fun _ h9 => h9) dX4_consider_86 (fun a37 e_a37 g_a37 => ?_)
          refine lv_iload_n hx hb dX4_consider_89 rfl (lv_at hl 2 rfl) ?_
          refine h_iald (j := p2.toNatClampNeg) (lo := (-2147483648)) (hi := 2147483647) hx hb hK hI g_a37 (by decide) rfl (iv_in (n := 7) i7 (by decide) (by decide)) rfl (iv_any _) dX4_consider_90 (fun v38 e_v38 i_v38 => ?_)
          refine h_iast (j := 3) hx hb hK hI g_a22 (by decide) rfl (iv_in (n := 7) kc_3 (by decide) (by decide)) (by decide) (iv_any _) rfl dX4_consider_91 (fun M39 H locs e_M39 hI => ?_)
          refine lv_aload_n hx hb dX4_consider_92 rfl (lv_at hl 0 rfl) ?_
          refine h_getr hx hb hts iX4_consider_X4 hown hK hI g_a (by decide) rfl rfl 10 (by decide) rfl 14 rfl (hts (.fieldLink RX4 51 "CatLeases$Mews" "terms" "[I") (List.mem_of_getElem? (i := 3) rfl)) (fun _ h9 => h9) dX4_consider_93 (fun a40 e_a40 g_a40 => ?_)
          have q41 : a22 = a40 := (e_a22).trans e_a40.symm
          subst q41
          refine lv_iconst (v := 4) hx hb dX4_consider_96 (by decide) ?_
          refine lv_aload_n hx hb dX4_consider_97 rfl (lv_at hl 1 rfl) ?_
          refine h_getr hx hb hts iX4_consider_X7 hown hK hI g_b (by decide) rfl rfl 1 (by decide) rfl 13 rfl (hts (.fieldLink RX4 61 "CatLeases$State" "places" "[I") (List.mem_of_getElem? (i := 8) rfl)) (fun _ h9 => h9) dX4_consider_98 (fun a42 e_a42 g_a42 => ?_)
          refine lv_iload_n hx hb dX4_consider_101 rfl (lv_at hl 2 rfl) ?_
          refine h_iald (j := p2.toNatClampNeg) (lo := (-1)) (hi := 7) hx hb hK hI g_a42 (by decide) rfl (iv_in (n := 7) i7 (by decide) (by decide)) rfl (hI.iv1 (n := 7) g_a42 rfl (in_lt (iv_in (n := 7) i7 (by decide) (by decide))) rfl) dX4_consider_102 (fun v43 e_v43 i_v43 => ?_)
          refine lv_iload_n hx hb dX4_consider_103 rfl (lv_at hl 3 rfl) ?_
          have J117 : ∀ (t2_117 : Int32) (H : Heap) (locs : List Loc) (ls : Array Slot), kI D g σ e_h_consider_X4 M s.heap M39 N R H locs → lv_has ls 5 [(0, .ref a), (1, .ref b), (4, .int v20)] → W p l e (headSpec wsX4_consider ({ frames := 1, cells := 0, slots := 0, locals := 23 })).room s m ar below meth c H locs 0 0 Q (F0 m 117 ls [.int t2_117, .int (4 : Int32), .ref a22]) := by
            intro t2_117 H locs ls hI hl
            refine h_iast (j := 4) hx hb hK hI g_a22 (by decide) rfl (iv_in (n := 7) kc_4 (by decide) (by decide)) (by decide) (iv_any _) rfl dX4_consider_117 (fun M44 H locs e_M44 hI => ?_)
            refine lv_aload_n hx hb dX4_consider_118 rfl (lv_at hl 0 rfl) ?_
            refine h_getr hx hb hts iX4_consider_X4 hown hK hI g_a (by decide) rfl rfl 10 (by decide) rfl 14 rfl (hts (.fieldLink RX4 51 "CatLeases$Mews" "terms" "[I") (List.mem_of_getElem? (i := 3) rfl)) (fun _ h9 => h9) dX4_consider_119 (fun a45 e_a45 g_a45 => ?_)
            have q46 : a22 = a45 := (e_a22).trans e_a45.symm
            subst q46
            refine lv_iconst (v := 5) hx hb dX4_consider_122 (by decide) ?_
            refine lv_aload_n hx hb dX4_consider_123 rfl (lv_at hl 1 rfl) ?_
            refine lv_iload hx hb dX4_consider_124 (lv_at hl 2 rfl) ?_
            refine h_goi hI (by decide) (va_runV (As := [.int v20]) (rest := [.int (5 : Int32), .ref a22]) ⟨hx, hb, hml, hown, hts⟩ (h_roomCount_X7 l D g σ Z hZ0 M44 N R b g_b v20) (cwV 1 hts gX4_consider_X7_roomCount rfl rfl rfl (by decide +kernel) ⟨Nat.le_of_ble_eq_true rfl, Nat.le_of_ble_eq_true rfl⟩) (h_preV hZ0 hK hE hI g_b (by decide) rfl) rfl rfl hl.1 rfl (lv_room (Nat.le_of_ble_eq_true rfl)) dX4_consider_126 ⟨Nat.le_of_ble_eq_true rfl, Nat.le_of_ble_eq_true rfl⟩) (fun r47 M48 N49 R50 H locs q51 z_M48 hI => ?_)
            obtain ⟨rfl, rfl, rfl⟩ := q51
            refine h_iast (j := 5) hx hb hK hI g_a22 (by decide) rfl (iv_in (n := 7) kc_5 (by decide) (by decide)) (by decide) (iv_any _) rfl dX4_consider_129 (fun M52 H locs e_M52 hI => ?_)
            refine lv_aload_n hx hb dX4_consider_130 rfl (lv_at hl 0 rfl) ?_
            refine h_getr hx hb hts iX4_consider_X4 hown hK hI g_a (by decide) rfl rfl 10 (by decide) rfl 14 rfl (hts (.fieldLink RX4 51 "CatLeases$Mews" "terms" "[I") (List.mem_of_getElem? (i := 3) rfl)) (fun _ h9 => h9) dX4_consider_131 (fun a53 e_a53 g_a53 => ?_)
            have q54 : a22 = a53 := (e_a22).trans e_a53.symm
            subst q54
            refine lv_bipush (v := 6) hx hb dX4_consider_134 (by decide) ?_
            refine lv_aload_n hx hb dX4_consider_136 rfl (lv_at hl 1 rfl) ?_
            refine h_geti (lo := (-2147483648)) (hi := 2147483647) hx hb hts iX4_consider_X7 hown hK hI g_b (by decide) rfl rfl 6 (by decide) rfl rfl (hts (.fieldLink RX4 81 "CatLeases$State" "quarters" "I") (List.mem_of_getElem? (i := 10) rfl)) (fun _ h9 => h9) dX4_consider_137 (fun v55 e_v55 i_v55 => ?_)
            refine h_iast (j := 6) hx hb hK hI g_a22 (by decide) rfl (iv_in (n := 7) kc_6 (by decide) (by decide)) (by decide) (iv_any _) rfl dX4_consider_140 (fun M56 H locs e_M56 hI => ?_)
            exact h_vret hQ hx hb hr hlocks hK hI ⟨rfl, rfl⟩ dX4_consider_141
          refine lv_icmp_ne (tgt := 116) hx hb dX4_consider_104 (by decide) (fun c57 => ?_) (fun c57 => ?_)
          · refine lv_iconst (v := 0) hx hb dX4_consider_116 (by decide) ?_
            exact J117 (0 : Int32) H locs ls hI (lv_sub hl [0, 1, 4] rfl)
          · have i58 : iv v43 0 7 := iv_eq1 c57 i_v43 i16
            refine lv_aload_n hx hb dX4_consider_107 rfl (lv_at hl 1 rfl) ?_
            refine h_getr hx hb hts iX4_consider_X7 hown hK hI g_b (by decide) rfl rfl 2 (by decide) rfl 14 rfl (hts (.fieldLink RX4 74 "CatLeases$State" "stays" "[I") (List.mem_of_getElem? (i := 9) rfl)) (fun _ h9 => h9) dX4_consider_108 (fun a59 e_a59 g_a59 => ?_)
            refine lv_iload_n hx hb dX4_consider_111 rfl (lv_at hl 2 rfl) ?_
            refine h_iald (j := p2.toNatClampNeg) (lo := (-2147483648)) (hi := 2147483647) hx hb hK hI g_a59 (by decide) rfl (iv_in (n := 7) i7 (by decide) (by decide)) rfl (iv_any _) dX4_consider_112 (fun v60 e_v60 i_v60 => ?_)
            refine lv_goto (tgt := 117) hx hb dX4_consider_113 (by decide) ?_
            exact J117 v60 H locs ls hI (lv_sub hl [0, 1, 4] rfl)
        refine lv_icmp_ge (tgt := 66) hx hb dX4_consider_53 (by decide) (fun c61 => ?_) (fun c61 => ?_)
        · exfalso; have h8 := kc_6; have h9 := i21; simp only [iv] at h8 h9; rw [Int32.le_iff_toInt_le] at c61; omega
        · refine lv_aload_n hx hb dX4_consider_56 rfl (lv_at hl 1 rfl) ?_
          refine h_getr hx hb hts iX4_consider_X4 hown hK hI g_a (by decide) rfl rfl 5 (by decide) rfl 15 rfl (hts (.fieldLink RX4 27 "CatLeases$Mews" "wants" "[I") (List.mem_of_getElem? (i := 5) rfl)) (fun _ h9 => h9) dX4_consider_57 (fun a62 e_a62 g_a62 => ?_)
          have q63 : a28 = a62 := (e_a28).trans e_a62.symm
          subst q63
          refine lv_iload hx hb dX4_consider_60 (lv_at hl 0 rfl) ?_
          refine h_iald (j := v20.toNatClampNeg) (lo := (-2147483648)) (hi := 2147483647) hx hb hK hI g_a28 (by decide) rfl (iv_in (n := 6) i21 (by decide) (by decide)) rfl (iv_any _) dX4_consider_62 (fun v64 e_v64 i_v64 => ?_)
          refine lv_goto (tgt := 67) hx hb dX4_consider_63 (by decide) ?_
          exact J67 v64 H locs ls hI (lv_sub hl [1, 2, 3, 4, 0] rfl)
      · have i65 : iv r8 0 0 := iv_eq1 c15 i_r8 kc_0
        exact h_vret hQ hx hb hr hlocks hK hI ⟨rfl, rfl⟩ dX4_consider_20
abbrev e_h_likes_X4 : List (Nat × Nat) := [(14, 999), (18, 999)]
set_option maxHeartbeats 4000000 in
set_option maxRecDepth 100000 in
theorem h_likes_X4 (l : Launch) (D : va_G) (g : Nat → ClassId) (σ : Nat → Option Nat) (Z : State → Heap → Prop) (hZ0 : hZ σ Z) (M : hM) (N : hN) (R : hR) (a : Nat) (g_a : σ a = some 4) (b : Nat) (g_b : σ b = some 7) (p2 : Int32) (p3 : Int32) : Met l yX4_likes wsX4_likes ({ frames := 2, cells := 0, slots := 0, locals := 47 }) (va_Pc [.ref a, .ref b, .int p2, .int p3] (hPre D g σ Z M N R)) (hQi D g σ e_h_likes_X4 M (fun (r : Int32) (M1 : hM) (N1 : hN) (R1 : hR) => N = N1 ∧ R = R1)) 0 0 (hA σ) := by
  refine h_head (cc := cX4_likes) (maxL := 4) (ret := (some .int)) (by decide) rfl (Nat.le_of_ble_eq_true rfl) e_h_likes_X4 ?_
  intro p e s m below meth c ls Q ar hQ hx hb hr hlocks hml hown hts hK hE H locs hI hl
  have hown : s.vm.findClass RX4 = some m.cls := hown
  have hl : lv_has ls 4 [(0, .ref a), (1, .ref b), (2, .int p2), (3, .int p3)] := hl
  refine lv_aload_n hx hb dX4_likes_0 rfl (lv_at hl 0 rfl) ?_
  refine lv_aload_n hx hb dX4_likes_1 rfl (lv_at hl 1 rfl) ?_
  refine lv_iload_n hx hb dX4_likes_2 rfl (lv_at hl 2 rfl) ?_
  refine lv_iload_n hx hb dX4_likes_3 rfl (lv_at hl 3 rfl) ?_
  refine h_gov hI (by decide) (va_runV (As := [.ref b, .int p2, .int p3]) (rest := []) ⟨hx, hb, hml, hown, hts⟩ (h_consider_X4 l D g σ Z hZ0 M N R a g_a b g_b p2 p3) (cwV 3 hts gX4_likes_X4_consider rfl rfl rfl (by decide +kernel) ⟨Nat.le_of_ble_eq_true rfl, Nat.le_of_ble_eq_true rfl⟩) (h_preV hZ0 hK hE hI g_a (by decide) rfl) rfl rfl hl.1 rfl (lv_room (Nat.le_of_ble_eq_true rfl)) dX4_likes_4 ⟨Nat.le_of_ble_eq_true rfl, Nat.le_of_ble_eq_true rfl⟩) (fun M2 N3 R4 H locs q5 z_M2 hI => ?_)
  obtain ⟨rfl, rfl⟩ := q5
  refine lv_aload_n hx hb dX4_likes_7 rfl (lv_at hl 0 rfl) ?_
  refine h_getr hx hb hts iX4_likes_X4 hown hK hI g_a (by decide) rfl rfl 9 (by decide) rfl 2 rfl (hts (.fieldLink RX4 47 "CatLeases$Mews" "formula" "LCatLeases$Formula;") (List.mem_of_getElem? (i := 1) rfl)) (fun _ h9 => h9) dX4_likes_8 (fun a6 e_a6 g_a6 => ?_)
  refine lv_aload_n hx hb dX4_likes_11 rfl (lv_at hl 0 rfl) ?_
  refine h_getr hx hb hts iX4_likes_X4 hown hK hI g_a (by decide) rfl rfl 10 (by decide) rfl 14 rfl (hts (.fieldLink RX4 51 "CatLeases$Mews" "terms" "[I") (List.mem_of_getElem? (i := 2) rfl)) (fun _ h9 => h9) dX4_likes_12 (fun a7 e_a7 g_a7 => ?_)
  refine h_goi hI (by decide) (va_runV (As := [.ref a7]) (rest := []) ⟨hx, hb, hml, hown, hts⟩ (h_value_X2 l D g σ Z hZ0 M2 N R a6 g_a6 a7 g_a7) (cwV 1 hts gX4_likes_X2_value rfl rfl rfl (by decide +kernel) ⟨Nat.le_of_ble_eq_true rfl, Nat.le_of_ble_eq_true rfl⟩) (h_preV hZ0 hK hE hI g_a6 (by decide) rfl) rfl rfl hl.1 rfl (lv_room (Nat.le_of_ble_eq_true rfl)) dX4_likes_15 ⟨Nat.le_of_ble_eq_true rfl, Nat.le_of_ble_eq_true rfl⟩) (fun r8 M9 N10 R11 H locs q12 z_M9 hI => ?_)
  obtain ⟨rfl, rfl⟩ := q12
  exact h_iret hQ hx hb hr hlocks rfl hK hI ⟨rfl, rfl⟩ dX4_likes_18
abbrev e_h_likesBy_X4 : List (Nat × Nat) := [(14, 999), (18, 999)]
set_option maxHeartbeats 4000000 in
set_option maxRecDepth 100000 in
theorem h_likesBy_X4 (l : Launch) (D : va_G) (g : Nat → ClassId) (σ : Nat → Option Nat) (Z : State → Heap → Prop) (hZ0 : hZ σ Z) (M : hM) (N : hN) (R : hR) (a : Nat) (g_a : σ a = some 4) (p1 : Int32) (p2 : Int32) : Met l yX4_likesBy wsX4_likesBy ({ frames := 2, cells := 0, slots := 0, locals := 46 }) (va_Pc [.ref a, .int p1, .int p2] (hPre D g σ Z M N R)) (hQi D g σ e_h_likesBy_X4 M (fun (r : Int32) (M1 : hM) (N1 : hN) (R1 : hR) => N = N1 ∧ R = R1)) 0 0 (hA σ) := by
  refine h_head (cc := cX4_likesBy) (maxL := 3) (ret := (some .int)) (by decide) rfl (Nat.le_of_ble_eq_true rfl) e_h_likesBy_X4 ?_
  intro p e s m below meth c ls Q ar hQ hx hb hr hlocks hml hown hts hK hE H locs hI hl
  have hown : s.vm.findClass RX4 = some m.cls := hown
  have hl : lv_has ls 3 [(0, .ref a), (1, .int p1), (2, .int p2)] := hl
  refine lv_iload_n hx hb dX4_likesBy_0 rfl (lv_at hl 1 rfl) ?_
  have J20 : ∀ (M_20 : hM) (H : Heap) (locs : List Loc) (ls : Array Slot), kI D g σ e_h_likesBy_X4 M s.heap M_20 N R H locs → lv_has ls 3 [(0, .ref a)] → W p l e (headSpec wsX4_likesBy ({ frames := 2, cells := 0, slots := 0, locals := 46 })).room s m ar below meth c H locs 0 0 Q (F0 m 20 ls []) := by
    intro M_20 H locs ls hI hl
    refine lv_aload_n hx hb dX4_likesBy_20 rfl (lv_at hl 0 rfl) ?_
    refine h_getr hx hb hts iX4_likesBy_X4 hown hK hI g_a (by decide) rfl rfl 9 (by decide) rfl 2 rfl (hts (.fieldLink RX4 47 "CatLeases$Mews" "formula" "LCatLeases$Formula;") (List.mem_of_getElem? (i := 2) rfl)) (fun _ h9 => h9) dX4_likesBy_21 (fun a1 e_a1 g_a1 => ?_)
    refine lv_aload_n hx hb dX4_likesBy_24 rfl (lv_at hl 0 rfl) ?_
    refine h_getr hx hb hts iX4_likesBy_X4 hown hK hI g_a (by decide) rfl rfl 10 (by decide) rfl 14 rfl (hts (.fieldLink RX4 51 "CatLeases$Mews" "terms" "[I") (List.mem_of_getElem? (i := 1) rfl)) (fun _ h9 => h9) dX4_likesBy_25 (fun a2 e_a2 g_a2 => ?_)
    refine h_goi hI (by decide) (va_runV (As := [.ref a2]) (rest := []) ⟨hx, hb, hml, hown, hts⟩ (h_value_X2 l D g σ Z hZ0 M_20 N R a1 g_a1 a2 g_a2) (cwV 1 hts gX4_likesBy_X2_value rfl rfl rfl (by decide +kernel) ⟨Nat.le_of_ble_eq_true rfl, Nat.le_of_ble_eq_true rfl⟩) (h_preV hZ0 hK hE hI g_a1 (by decide) rfl) rfl rfl hl.1 rfl (lv_room (Nat.le_of_ble_eq_true rfl)) dX4_likesBy_28 ⟨Nat.le_of_ble_eq_true rfl, Nat.le_of_ble_eq_true rfl⟩) (fun r3 M4 N5 R6 H locs q7 z_M4 hI => ?_)
    obtain ⟨rfl, rfl⟩ := q7
    exact h_iret hQ hx hb hr hlocks rfl hK hI ⟨rfl, rfl⟩ dX4_likesBy_31
  refine lv_if_lt (tgt := 20) hx hb dX4_likesBy_1 (by decide) (fun c8 => ?_) (fun c8 => ?_)
  · have i9 : iv p1 (-2147483648) (-1) := iv_lt1 c8 (iv_any p1) kc_0 (by decide)
    exact J20 M H locs ls hI (lv_sub hl [0] rfl)
  · have i10 : iv p1 0 2147483647 := iv_nlt1 c8 (iv_any p1) kc_0 (by decide)
    refine lv_iload_n hx hb dX4_likesBy_4 rfl (lv_at hl 1 rfl) ?_
    refine lv_aload_n hx hb dX4_likesBy_5 rfl (lv_at hl 0 rfl) ?_
    refine h_getr hx hb hts iX4_likesBy_X4 hown hK hI g_a (by decide) rfl rfl 10 (by decide) rfl 14 rfl (hts (.fieldLink RX4 51 "CatLeases$Mews" "terms" "[I") (List.mem_of_getElem? (i := 1) rfl)) (fun _ h9 => h9) dX4_likesBy_6 (fun a11 e_a11 g_a11 => ?_)
    refine h_alen (v := 7) hx hb hK hI g_a11 (by decide) rfl (by decide) (by decide) dX4_likesBy_9 ?_
    refine lv_icmp_ge (tgt := 20) hx hb dX4_likesBy_10 (by decide) (fun c12 => ?_) (fun c12 => ?_)
    · have i13 : iv p1 7 2147483647 := iv_le2 c12 kc_7 i10 (by decide)
      exact J20 M H locs ls hI (lv_sub hl [0] rfl)
    · have i14 : iv p1 0 6 := iv_nle2 c12 kc_7 i10 (by decide)
      refine lv_aload_n hx hb dX4_likesBy_13 rfl (lv_at hl 0 rfl) ?_
      refine h_getr hx hb hts iX4_likesBy_X4 hown hK hI g_a (by decide) rfl rfl 10 (by decide) rfl 14 rfl (hts (.fieldLink RX4 51 "CatLeases$Mews" "terms" "[I") (List.mem_of_getElem? (i := 1) rfl)) (fun _ h9 => h9) dX4_likesBy_14 (fun a15 e_a15 g_a15 => ?_)
      have q16 : a11 = a15 := (e_a11).trans e_a15.symm
      subst q16
      refine lv_iload_n hx hb dX4_likesBy_17 rfl (lv_at hl 1 rfl) ?_
      refine lv_iload_n hx hb dX4_likesBy_18 rfl (lv_at hl 2 rfl) ?_
      refine h_iast (j := p1.toNatClampNeg) hx hb hK hI g_a11 (by decide) rfl (iv_in (n := 7) i14 (by decide) (by decide)) rfl (iv_any _) rfl dX4_likesBy_19 (fun M17 H locs e_M17 hI => ?_)
      exact J20 M17 H locs ls hI (lv_sub hl [0] rfl)
abbrev e_h_thrownOut_X4 : List (Nat × Nat) := [(14, 999), (18, 999)]
set_option maxHeartbeats 4000000 in
set_option maxRecDepth 100000 in
theorem h_thrownOut_X4 (l : Launch) (D : va_G) (g : Nat → ClassId) (σ : Nat → Option Nat) (Z : State → Heap → Prop) (hZ0 : hZ σ Z) (M : hM) (N : hN) (R : hR) (a : Nat) (g_a : σ a = some 4) (b : Nat) (g_b : σ b = some 7) : Met l yX4_thrownOut wsX4_thrownOut ({ frames := 3, cells := 0, slots := 0, locals := 70 }) (va_Pc [.ref a, .ref b] (hPre D g σ Z M N R)) (hQi D g σ e_h_thrownOut_X4 M (fun (r : Int32) (M1 : hM) (N1 : hN) (R1 : hR) => N = N1 ∧ R = R1 ∧ iv r 0 255)) 0 0 (hA σ) := by
  refine h_head (cc := cX4_thrownOut) (maxL := 5) (ret := (some .int)) (by decide) rfl (Nat.le_of_ble_eq_true rfl) e_h_thrownOut_X4 ?_
  intro p e s m below meth c ls Q ar hQ hx hb hr hlocks hml hown hts hK hE H locs hI hl
  have hown : s.vm.findClass RX4 = some m.cls := hown
  have hl : lv_has ls 5 [(0, .ref a), (1, .ref b)] := hl
  refine lv_iconst (v := 0) hx hb dX4_thrownOut_0 (by decide) ?_
  refine lv_istore_n (lv' := [(2, .int (0 : Int32)), (0, .ref a), (1, .ref b)]) hx hb dX4_thrownOut_1 rfl hl (by decide) rfl (fun ls hl => ?_)
  refine lv_iconst (v := 0) hx hb dX4_thrownOut_2 (by decide) ?_
  have J4 : ∀ (n : Nat) (M_4 : hM) (v2_4 : Int32) (v3_4 : Int32) (H : Heap) (locs : List Loc) (ls : Array Slot), kI D g σ e_h_thrownOut_X4 M s.heap M_4 N R H locs → lv_has ls 5 [(0, .ref a), (1, .ref b), (2, .int v2_4), (3, .int v3_4)] → iv v2_4 0 255 → iv v3_4 0 7 → 8 ≤ v3_4.toInt + (n : Int) → W p l e (headSpec wsX4_thrownOut ({ frames := 3, cells := 0, slots := 0, locals := 70 })).room s m ar below meth c H locs 0 0 Q (F0 m 4 ls []) := by
    intro n
    induction n with
    | zero => intro M_4 v2_4 v3_4 H locs ls hI hl i_v2_4 i_v3_4 hn; exfalso; have hz := i_v3_4; simp only [iv] at hz; omega
    | succ n ih4 =>
      intro M_4 v2_4 v3_4 H locs ls hI hl i_v2_4 i_v3_4 hn4
      refine lv_iload_n hx hb dX4_thrownOut_4 rfl (lv_at hl 3 rfl) ?_
      refine lv_aload_n hx hb dX4_thrownOut_5 rfl (lv_at hl 0 rfl) ?_
      refine h_geti (lo := 0) (hi := 7) hx hb hts iX4_thrownOut_X4 hown hK hI g_a (by decide) rfl rfl 2 (by decide) rfl rfl (hts (.fieldLink RX4 18 "CatLeases$Mews" "tenants" "I") (List.mem_of_getElem? (i := 1) rfl)) (fun _ h9 => h9) dX4_thrownOut_6 (fun v1 e_v1 i_v1 => ?_)
      refine lv_icmp_ge (tgt := 52) hx hb dX4_thrownOut_9 (by decide) (fun c2 => ?_) (fun c2 => ?_)
      · refine lv_iload_n hx hb dX4_thrownOut_52 rfl (lv_at hl 2 rfl) ?_
        exact h_iret hQ hx hb hr hlocks rfl hK hI ⟨rfl, rfl, i_v2_4⟩ dX4_thrownOut_53
      · have i3 : iv v1 1 7 := iv_nle1 c2 i_v1 i_v3_4 (by decide)
        have i4 : iv v3_4 0 6 := iv_nle2 c2 i_v1 i_v3_4 (by decide)
        refine lv_aload_n hx hb dX4_thrownOut_12 rfl (lv_at hl 1 rfl) ?_
        refine h_getr hx hb hts iX4_thrownOut_X7 hown hK hI g_b (by decide) rfl rfl 1 (by decide) rfl 13 rfl (hts (.fieldLink RX4 61 "CatLeases$State" "places" "[I") (List.mem_of_getElem? (i := 2) rfl)) (fun _ h9 => h9) dX4_thrownOut_13 (fun a5 e_a5 g_a5 => ?_)
        refine lv_iload_n hx hb dX4_thrownOut_16 rfl (lv_at hl 3 rfl) ?_
        refine h_iald (j := v3_4.toNatClampNeg) (lo := (-1)) (hi := 7) hx hb hK hI g_a5 (by decide) rfl (iv_in (n := 7) i4 (by decide) (by decide)) rfl (hI.iv1 (n := 7) g_a5 rfl (in_lt (iv_in (n := 7) i4 (by decide) (by decide))) rfl) dX4_thrownOut_17 (fun v6 e_v6 i_v6 => ?_)
        refine lv_istore (lv' := [(4, .int v6), (0, .ref a), (1, .ref b), (2, .int v2_4), (3, .int v3_4)]) hx hb dX4_thrownOut_18 hl (by decide) rfl (fun ls hl => ?_)
        refine lv_aload_n hx hb dX4_thrownOut_20 rfl (lv_at hl 2 rfl) ?_
        refine lv_iload hx hb dX4_thrownOut_21 (lv_at hl 0 rfl) ?_
        refine h_goi hI (by decide) (va_runV (As := [.int v6]) (rest := []) ⟨hx, hb, hml, hown, hts⟩ (h_isKept_X7 l D g σ Z hZ0 M_4 N R b g_b v6) (cwV 1 hts gX4_thrownOut_X7_isKept rfl rfl rfl (by decide +kernel) ⟨Nat.le_of_ble_eq_true rfl, Nat.le_of_ble_eq_true rfl⟩) (h_preV hZ0 hK hE hI g_b (by decide) rfl) rfl rfl hl.1 rfl (lv_room (Nat.le_of_ble_eq_true rfl)) dX4_thrownOut_23 ⟨Nat.le_of_ble_eq_true rfl, Nat.le_of_ble_eq_true rfl⟩) (fun r7 M8 N9 R10 H locs q11 z_M8 hI => ?_)
        obtain ⟨rfl, rfl, rfl, i_r7, z12, z13⟩ := q11
        have J46 : ∀ (M_46 : hM) (v2_46 : Int32) (H : Heap) (locs : List Loc) (ls : Array Slot), kI D g σ e_h_thrownOut_X4 M s.heap M_46 N R H locs → lv_has ls 5 [(0, .ref a), (1, .ref b), (2, .int v2_46), (3, .int v3_4)] → v1 = M_46 a 2 → iv v2_46 0 255 → W p l e (headSpec wsX4_thrownOut ({ frames := 3, cells := 0, slots := 0, locals := 70 })).room s m ar below meth c H locs 0 0 Q (F0 m 46 ls []) := by
          intro M_46 v2_46 H locs ls hI hl k0_46 i_v2_46
          obtain ⟨v14, e_v14⟩ : ∃ z : Int32, z = v3_4 + Int32.ofInt 1 := ⟨_, rfl⟩
          have i_v14 : iv v14 1 7 := by rw [e_v14]; exact iv_add i4 (ki_1) (by decide) (by decide) (by decide) (by decide)
          refine lv_iinc (v := v14) (lv' := [(3, .int v14), (0, .ref a), (1, .ref b), (2, .int v2_46)]) hx hb dX4_thrownOut_46 hl (k := 3) rfl e_v14.symm (by decide) rfl (fun ls hl => ?_)
          refine lv_goto (tgt := 4) hx hb dX4_thrownOut_49 (by decide) ?_
          exact ih4 M_46 v2_46 v14 H locs ls hI (lv_sub hl [1, 2, 3, 0] rfl) i_v2_46 (iv_w (lo' := 0) (hi' := 7) i_v14 (by decide) (by decide)) (by have h9 := (h_inc e_v14 i4 ki_1 (by decide) (by decide)); omega)
        refine lv_if_eq (tgt := 46) hx hb dX4_thrownOut_26 (by decide) (fun c15 => ?_) (fun c15 => ?_)
        · have i16 : iv r7 0 0 := iv_eq1 c15 i_r7 kc_0
          exact J46 M_4 v2_4 H locs ls hI (lv_sub hl [1, 2, 3, 4] rfl) (e_v1) i_v2_4
        · have i17 : iv v6 0 7 := z12 c15
          have i18 := z13 c15
          have i19 : iv r7 1 1 := iv_neL c15 i_r7 (by decide) (by decide)
          refine lv_aload_n hx hb dX4_thrownOut_29 rfl (lv_at hl 1 rfl) ?_
          refine lv_aload_n hx hb dX4_thrownOut_30 rfl (lv_at hl 2 rfl) ?_
          refine lv_iload_n hx hb dX4_thrownOut_31 rfl (lv_at hl 4 rfl) ?_
          refine lv_iload hx hb dX4_thrownOut_32 (lv_at hl 0 rfl) ?_
          refine h_goi hI (by decide) (va_runV (As := [.ref b, .int v3_4, .int v6]) (rest := []) ⟨hx, hb, hml, hown, hts⟩ (h_likes_X4 l D g σ Z hZ0 M_4 N R a g_a b g_b v3_4 v6) (cwV 3 hts gX4_thrownOut_X4_likes rfl rfl rfl (by decide +kernel) ⟨Nat.le_of_ble_eq_true rfl, Nat.le_of_ble_eq_true rfl⟩) (h_preV hZ0 hK hE hI g_a (by decide) rfl) rfl rfl hl.1 rfl (lv_room (Nat.le_of_ble_eq_true rfl)) dX4_thrownOut_34 ⟨Nat.le_of_ble_eq_true rfl, Nat.le_of_ble_eq_true rfl⟩) (fun r20 M21 N22 R23 H locs q24 z_M21 hI => ?_)
          obtain ⟨rfl, rfl⟩ := q24
          refine lv_if_gt (tgt := 46) hx hb dX4_thrownOut_37 (by decide) (fun c25 => ?_) (fun c25 => ?_)
          · have i26 : iv r20 1 2147483647 := iv_lt2 c25 kc_0 (iv_any r20) (by decide)
            exact J46 M21 v2_4 H locs ls hI (lv_sub hl [1, 2, 3, 4] rfl) ((e_v1).trans (z_M21 a 4 2 g_a rfl).symm) i_v2_4
          · have i27 : iv r20 (-2147483648) 0 := iv_nlt2 c25 kc_0 (iv_any r20) (by decide)
            refine lv_iload_n hx hb dX4_thrownOut_40 rfl (lv_at hl 3 rfl) ?_
            refine lv_iconst (v := 1) hx hb dX4_thrownOut_41 (by decide) ?_
            refine lv_iload_n hx hb dX4_thrownOut_42 rfl (lv_at hl 4 rfl) ?_
            refine lv_ishl hx hb dX4_thrownOut_43 ?_
            refine h_nm (lo := 1) (hi := 64) (iv_shl1 6 i4 (by decide) (by decide) (by decide) (by decide) (by decide)) (fun v28 e_v28 i_v28 => ?_)
            refine lv_ior hx hb dX4_thrownOut_44 ?_
            refine h_nm (lo := 0) (hi := 255) (iv_or 8 i_v2_4 i_v28 (by decide) (by decide) (by decide) (by decide) (by decide) (by decide)) (fun v29 e_v29 i_v29 => ?_)
            refine lv_istore_n (lv' := [(2, .int v29), (4, .int v6), (0, .ref a), (1, .ref b), (3, .int v3_4)]) hx hb dX4_thrownOut_45 rfl hl (by decide) rfl (fun ls hl => ?_)
            exact J46 M21 v29 H locs ls hI (lv_sub hl [2, 3, 0, 4] rfl) ((e_v1).trans (z_M21 a 4 2 g_a rfl).symm) i_v29
  refine lv_istore_n (lv' := [(3, .int (0 : Int32)), (2, .int (0 : Int32)), (0, .ref a), (1, .ref b)]) hx hb dX4_thrownOut_3 rfl hl (by decide) rfl (fun ls hl => ?_)
  exact J4 8 M (0 : Int32) (0 : Int32) H locs ls hI (lv_sub hl [2, 3, 1, 0] rfl) (iv_w (lo' := 0) (hi' := 255) kc_0 (by decide) (by decide)) (iv_w (lo' := 0) (hi' := 7) kc_0 (by decide) (by decide)) (by have h9 := kc_0; simp only [iv] at h9; omega)
abbrev e_h_thrownOutAt_X4 : List (Nat × Nat) := [(14, 999), (18, 999)]
set_option maxHeartbeats 4000000 in
set_option maxRecDepth 100000 in
theorem h_thrownOutAt_X4 (l : Launch) (D : va_G) (g : Nat → ClassId) (σ : Nat → Option Nat) (Z : State → Heap → Prop) (hZ0 : hZ σ Z) (M : hM) (N : hN) (R : hR) (a : Nat) (g_a : σ a = some 4) (b : Nat) (g_b : σ b = some 7) (p2 : Int32) : Met l yX4_thrownOutAt wsX4_thrownOutAt ({ frames := 3, cells := 0, slots := 0, locals := 68 }) (va_Pc [.ref a, .ref b, .int p2] (hPre D g σ Z M N R)) (hQi D g σ e_h_thrownOutAt_X4 M (fun (r : Int32) (M1 : hM) (N1 : hN) (R1 : hR) => N = N1 ∧ R = R1 ∧ iv r 0 255)) 0 0 (hA σ) := by
  refine h_head (cc := cX4_thrownOutAt) (maxL := 6) (ret := (some .int)) (by decide) rfl (Nat.le_of_ble_eq_true rfl) e_h_thrownOutAt_X4 ?_
  intro p e s m below meth c ls Q ar hQ hx hb hr hlocks hml hown hts hK hE H locs hI hl
  have hown : s.vm.findClass RX4 = some m.cls := hown
  have hl : lv_has ls 6 [(0, .ref a), (1, .ref b), (2, .int p2)] := hl
  refine lv_iconst (v := 0) hx hb dX4_thrownOutAt_0 (by decide) ?_
  refine lv_istore_n (lv' := [(3, .int (0 : Int32)), (0, .ref a), (1, .ref b), (2, .int p2)]) hx hb dX4_thrownOutAt_1 rfl hl (by decide) rfl (fun ls hl => ?_)
  refine lv_iconst (v := 0) hx hb dX4_thrownOutAt_2 (by decide) ?_
  have J5 : ∀ (n : Nat) (M_5 : hM) (v3_5 : Int32) (v4_5 : Int32) (H : Heap) (locs : List Loc) (ls : Array Slot), kI D g σ e_h_thrownOutAt_X4 M s.heap M_5 N R H locs → lv_has ls 6 [(0, .ref a), (1, .ref b), (2, .int p2), (3, .int v3_5), (4, .int v4_5)] → iv v3_5 0 255 → iv v4_5 0 7 → 8 ≤ v4_5.toInt + (n : Int) → W p l e (headSpec wsX4_thrownOutAt ({ frames := 3, cells := 0, slots := 0, locals := 68 })).room s m ar below meth c H locs 0 0 Q (F0 m 5 ls []) := by
    intro n
    induction n with
    | zero => intro M_5 v3_5 v4_5 H locs ls hI hl i_v3_5 i_v4_5 hn; exfalso; have hz := i_v4_5; simp only [iv] at hz; omega
    | succ n ih5 =>
      intro M_5 v3_5 v4_5 H locs ls hI hl i_v3_5 i_v4_5 hn5
      refine lv_iload hx hb dX4_thrownOutAt_5 (lv_at hl 4 rfl) ?_
      refine lv_aload_n hx hb dX4_thrownOutAt_7 rfl (lv_at hl 0 rfl) ?_
      refine h_geti (lo := 0) (hi := 7) hx hb hts iX4_thrownOutAt_X4 hown hK hI g_a (by decide) rfl rfl 2 (by decide) rfl rfl (hts (.fieldLink RX4 18 "CatLeases$Mews" "tenants" "I") (List.mem_of_getElem? (i := 1) rfl)) (fun _ h9 => h9) dX4_thrownOutAt_8 (fun v1 e_v1 i_v1 => ?_)
      refine lv_icmp_ge (tgt := 63) hx hb dX4_thrownOutAt_11 (by decide) (fun c2 => ?_) (fun c2 => ?_)
      · refine lv_iload_n hx hb dX4_thrownOutAt_63 rfl (lv_at hl 3 rfl) ?_
        exact h_iret hQ hx hb hr hlocks rfl hK hI ⟨rfl, rfl, i_v3_5⟩ dX4_thrownOutAt_64
      · have i3 : iv v1 1 7 := iv_nle1 c2 i_v1 i_v4_5 (by decide)
        have i4 : iv v4_5 0 6 := iv_nle2 c2 i_v1 i_v4_5 (by decide)
        refine lv_aload_n hx hb dX4_thrownOutAt_14 rfl (lv_at hl 1 rfl) ?_
        refine h_getr hx hb hts iX4_thrownOutAt_X7 hown hK hI g_b (by decide) rfl rfl 1 (by decide) rfl 13 rfl (hts (.fieldLink RX4 61 "CatLeases$State" "places" "[I") (List.mem_of_getElem? (i := 2) rfl)) (fun _ h9 => h9) dX4_thrownOutAt_15 (fun a5 e_a5 g_a5 => ?_)
        refine lv_iload hx hb dX4_thrownOutAt_18 (lv_at hl 4 rfl) ?_
        refine h_iald (j := v4_5.toNatClampNeg) (lo := (-1)) (hi := 7) hx hb hK hI g_a5 (by decide) rfl (iv_in (n := 7) i4 (by decide) (by decide)) rfl (hI.iv1 (n := 7) g_a5 rfl (in_lt (iv_in (n := 7) i4 (by decide) (by decide))) rfl) dX4_thrownOutAt_20 (fun v6 e_v6 i_v6 => ?_)
        refine lv_istore (lv' := [(5, .int v6), (0, .ref a), (1, .ref b), (2, .int p2), (3, .int v3_5), (4, .int v4_5)]) hx hb dX4_thrownOutAt_21 hl (by decide) rfl (fun ls hl => ?_)
        refine lv_aload_n hx hb dX4_thrownOutAt_23 rfl (lv_at hl 1 rfl) ?_
        refine lv_aload_n hx hb dX4_thrownOutAt_24 rfl (lv_at hl 2 rfl) ?_
        refine lv_iload hx hb dX4_thrownOutAt_25 (lv_at hl 5 rfl) ?_
        refine lv_iload hx hb dX4_thrownOutAt_27 (lv_at hl 0 rfl) ?_
        refine h_gov hI (by decide) (va_runV (As := [.ref b, .int v4_5, .int v6]) (rest := []) ⟨hx, hb, hml, hown, hts⟩ (h_consider_X4 l D g σ Z hZ0 M_5 N R a g_a b g_b v4_5 v6) (cwV 3 hts gX4_thrownOutAt_X4_consider rfl rfl rfl (by decide +kernel) ⟨Nat.le_of_ble_eq_true rfl, Nat.le_of_ble_eq_true rfl⟩) (h_preV hZ0 hK hE hI g_a (by decide) rfl) rfl rfl hl.1 rfl (lv_room (Nat.le_of_ble_eq_true rfl)) dX4_thrownOutAt_29 ⟨Nat.le_of_ble_eq_true rfl, Nat.le_of_ble_eq_true rfl⟩) (fun M8 N9 R10 H locs q11 z_M8 hI => ?_)
        obtain ⟨rfl, rfl⟩ := q11
        refine lv_aload_n hx hb dX4_thrownOutAt_32 rfl (lv_at hl 2 rfl) ?_
        refine lv_iload hx hb dX4_thrownOutAt_33 (lv_at hl 0 rfl) ?_
        refine h_goi hI (by decide) (va_runV (As := [.int v6]) (rest := []) ⟨hx, hb, hml, hown, hts⟩ (h_isKept_X7 l D g σ Z hZ0 M8 N R b g_b v6) (cwV 1 hts gX4_thrownOutAt_X7_isKept rfl rfl rfl (by decide +kernel) ⟨Nat.le_of_ble_eq_true rfl, Nat.le_of_ble_eq_true rfl⟩) (h_preV hZ0 hK hE hI g_b (by decide) rfl) rfl rfl hl.1 rfl (lv_room (Nat.le_of_ble_eq_true rfl)) dX4_thrownOutAt_35 ⟨Nat.le_of_ble_eq_true rfl, Nat.le_of_ble_eq_true rfl⟩) (fun r12 M13 N14 R15 H locs q16 z_M13 hI => ?_)
        obtain ⟨rfl, rfl, rfl, i_r12, z17, z18⟩ := q16
        have J57 : ∀ (M_57 : hM) (v3_57 : Int32) (H : Heap) (locs : List Loc) (ls : Array Slot), kI D g σ e_h_thrownOutAt_X4 M s.heap M_57 N R H locs → lv_has ls 6 [(0, .ref a), (1, .ref b), (2, .int p2), (3, .int v3_57), (4, .int v4_5)] → v1 = M_57 a 2 → iv v3_57 0 255 → W p l e (headSpec wsX4_thrownOutAt ({ frames := 3, cells := 0, slots := 0, locals := 68 })).room s m ar below meth c H locs 0 0 Q (F0 m 57 ls []) := by
          intro M_57 v3_57 H locs ls hI hl k0_57 i_v3_57
          obtain ⟨v19, e_v19⟩ : ∃ z : Int32, z = v4_5 + Int32.ofInt 1 := ⟨_, rfl⟩
          have i_v19 : iv v19 1 7 := by rw [e_v19]; exact iv_add i4 (ki_1) (by decide) (by decide) (by decide) (by decide)
          refine lv_iinc (v := v19) (lv' := [(4, .int v19), (0, .ref a), (1, .ref b), (2, .int p2), (3, .int v3_57)]) hx hb dX4_thrownOutAt_57 hl (k := 4) rfl e_v19.symm (by decide) rfl (fun ls hl => ?_)
          refine lv_goto (tgt := 5) hx hb dX4_thrownOutAt_60 (by decide) ?_
          exact ih5 M_57 v3_57 v19 H locs ls hI (lv_sub hl [1, 2, 3, 4, 0] rfl) i_v3_57 (iv_w (lo' := 0) (hi' := 7) i_v19 (by decide) (by decide)) (by have h9 := (h_inc e_v19 i4 ki_1 (by decide) (by decide)); omega)
        refine lv_if_eq (tgt := 57) hx hb dX4_thrownOutAt_38 (by decide) (fun c20 => ?_) (fun c20 => ?_)
        · have i21 : iv r12 0 0 := iv_eq1 c20 i_r12 kc_0
          exact J57 M8 v3_5 H locs ls hI (lv_sub hl [1, 2, 3, 4, 5] rfl) ((e_v1).trans (z_M8 a 4 2 g_a rfl).symm) i_v3_5
        · have i22 : iv v6 0 7 := z17 c20
          have i23 := z18 c20
          have i24 : iv r12 1 1 := iv_neL c20 i_r12 (by decide) (by decide)
          refine lv_aload_n hx hb dX4_thrownOutAt_41 rfl (lv_at hl 1 rfl) ?_
          refine lv_iconst (v := 1) hx hb dX4_thrownOutAt_42 (by decide) ?_
          refine lv_iload_n hx hb dX4_thrownOutAt_43 rfl (lv_at hl 3 rfl) ?_
          refine h_goi hI (by decide) (va_runV (As := [.int (1 : Int32), .int p2]) (rest := []) ⟨hx, hb, hml, hown, hts⟩ (h_likesBy_X4 l D g σ Z hZ0 M8 N R a g_a (1 : Int32) p2) (cwV 2 hts gX4_thrownOutAt_X4_likesBy rfl rfl rfl (by decide +kernel) ⟨Nat.le_of_ble_eq_true rfl, Nat.le_of_ble_eq_true rfl⟩) (h_preV hZ0 hK hE hI g_a (by decide) rfl) rfl rfl hl.1 rfl (lv_room (Nat.le_of_ble_eq_true rfl)) dX4_thrownOutAt_44 ⟨Nat.le_of_ble_eq_true rfl, Nat.le_of_ble_eq_true rfl⟩) (fun r25 M26 N27 R28 H locs q29 z_M26 hI => ?_)
          obtain ⟨rfl, rfl⟩ := q29
          refine lv_if_gt (tgt := 57) hx hb dX4_thrownOutAt_47 (by decide) (fun c30 => ?_) (fun c30 => ?_)
          · have i31 : iv r25 1 2147483647 := iv_lt2 c30 kc_0 (iv_any r25) (by decide)
            exact J57 M26 v3_5 H locs ls hI (lv_sub hl [1, 2, 3, 4, 5] rfl) (((e_v1).trans (z_M8 a 4 2 g_a rfl).symm).trans (z_M26 a 4 2 g_a rfl).symm) i_v3_5
          · have i32 : iv r25 (-2147483648) 0 := iv_nlt2 c30 kc_0 (iv_any r25) (by decide)
            refine lv_iload_n hx hb dX4_thrownOutAt_50 rfl (lv_at hl 4 rfl) ?_
            refine lv_iconst (v := 1) hx hb dX4_thrownOutAt_51 (by decide) ?_
            refine lv_iload hx hb dX4_thrownOutAt_52 (lv_at hl 5 rfl) ?_
            refine lv_ishl hx hb dX4_thrownOutAt_54 ?_
            refine h_nm (lo := 1) (hi := 64) (iv_shl1 6 i4 (by decide) (by decide) (by decide) (by decide) (by decide)) (fun v33 e_v33 i_v33 => ?_)
            refine lv_ior hx hb dX4_thrownOutAt_55 ?_
            refine h_nm (lo := 0) (hi := 255) (iv_or 8 i_v3_5 i_v33 (by decide) (by decide) (by decide) (by decide) (by decide) (by decide)) (fun v34 e_v34 i_v34 => ?_)
            refine lv_istore_n (lv' := [(3, .int v34), (5, .int v6), (0, .ref a), (1, .ref b), (2, .int p2), (4, .int v4_5)]) hx hb dX4_thrownOutAt_56 rfl hl (by decide) rfl (fun ls hl => ?_)
            exact J57 M26 v34 H locs ls hI (lv_sub hl [2, 3, 4, 0, 5] rfl) (((e_v1).trans (z_M8 a 4 2 g_a rfl).symm).trans (z_M26 a 4 2 g_a rfl).symm) i_v34
  refine lv_istore (lv' := [(4, .int (0 : Int32)), (3, .int (0 : Int32)), (0, .ref a), (1, .ref b), (2, .int p2)]) hx hb dX4_thrownOutAt_3 hl (by decide) rfl (fun ls hl => ?_)
  exact J5 8 M (0 : Int32) (0 : Int32) H locs ls hI (lv_sub hl [2, 3, 4, 1, 0] rfl) (iv_w (lo' := 0) (hi' := 255) kc_0 (by decide) (by decide)) (iv_w (lo' := 0) (hi' := 7) kc_0 (by decide) (by decide)) (by have h9 := kc_0; simp only [iv] at h9; omega)
abbrev e_h_livingHeir_X4 : List (Nat × Nat) := []
set_option maxHeartbeats 4000000 in
set_option maxRecDepth 100000 in
theorem h_livingHeir_X4 (l : Launch) (D : va_G) (g : Nat → ClassId) (σ : Nat → Option Nat) (Z : State → Heap → Prop) (hZ0 : hZ σ Z) (M : hM) (N : hN) (R : hR) (a : Nat) (g_a : σ a = some 4) (p1 : Int32) (p2 : Int32) : Met l yX4_livingHeir wsX4_livingHeir ({ frames := 0, cells := 0, slots := 0, locals := 0 }) (va_Pc [.ref a, .int p1, .int p2] (hPre D g σ Z M N R)) (hQi D g σ e_h_livingHeir_X4 M (fun (r : Int32) (M1 : hM) (N1 : hN) (R1 : hR) => M = M1 ∧ N = N1 ∧ R = R1 ∧ iv r (-1) 5)) 0 0 (hA σ) := by
  refine h_head (cc := cX4_livingHeir) (maxL := 5) (ret := (some .int)) (by decide) rfl (Nat.le_of_ble_eq_true rfl) e_h_livingHeir_X4 ?_
  intro p e s m below meth c ls Q ar hQ hx hb hr hlocks hml hown hts hK hE H locs hI hl
  have hown : s.vm.findClass RX4 = some m.cls := hown
  have hl : lv_has ls 5 [(0, .ref a), (1, .int p1), (2, .int p2)] := hl
  refine lv_iload_n hx hb dX4_livingHeir_0 rfl (lv_at hl 1 rfl) ?_
  refine lv_istore_n (lv' := [(3, .int p1), (0, .ref a), (1, .int p1), (2, .int p2)]) hx hb dX4_livingHeir_1 rfl hl (by decide) rfl (fun ls hl => ?_)
  refine lv_iconst (v := 0) hx hb dX4_livingHeir_2 (by decide) ?_
  have J5 : ∀ (n : Nat) (v3_5 : Int32) (v4_5 : Int32) (H : Heap) (locs : List Loc) (ls : Array Slot), kI D g σ e_h_livingHeir_X4 M s.heap M N R H locs → lv_has ls 5 [(0, .ref a), (2, .int p2), (3, .int v3_5), (4, .int v4_5)] → iv v4_5 0 7 → 8 ≤ v4_5.toInt + (n : Int) → W p l e (headSpec wsX4_livingHeir ({ frames := 0, cells := 0, slots := 0, locals := 0 })).room s m ar below meth c H locs 0 0 Q (F0 m 5 ls []) := by
    intro n
    induction n with
    | zero => intro v3_5 v4_5 H locs ls hI hl i_v4_5 hn; exfalso; have hz := i_v4_5; simp only [iv] at hz; omega
    | succ n ih5 =>
      intro v3_5 v4_5 H locs ls hI hl i_v4_5 hn5
      refine lv_iload hx hb dX4_livingHeir_5 (lv_at hl 3 rfl) ?_
      refine lv_bipush (v := 6) hx hb dX4_livingHeir_7 (by decide) ?_
      refine lv_icmp_gt (tgt := 49) hx hb dX4_livingHeir_9 (by decide) (fun c1 => ?_) (fun c1 => ?_)
      · have i2 : iv v4_5 7 7 := iv_lt2 c1 kc_6 i_v4_5 (by decide)
        refine lv_iconst (v := (-1)) hx hb dX4_livingHeir_49 (by decide) ?_
        exact h_iret hQ hx hb hr hlocks rfl hK hI ⟨rfl, rfl, rfl, (iv_w (lo' := (-1)) (hi' := 5) kc_m1 (by decide) (by decide))⟩ dX4_livingHeir_50
      · have i3 : iv v4_5 0 6 := iv_nlt2 c1 kc_6 i_v4_5 (by decide)
        refine lv_iload_n hx hb dX4_livingHeir_12 rfl (lv_at hl 2 rfl) ?_
        refine lv_if_lt (tgt := 24) hx hb dX4_livingHeir_13 (by decide) (fun c4 => ?_) (fun c4 => ?_)
        · have i5 : iv v3_5 (-2147483648) (-1) := iv_lt1 c4 (iv_any v3_5) kc_0 (by decide)
          refine lv_iconst (v := (-1)) hx hb dX4_livingHeir_24 (by decide) ?_
          exact h_iret hQ hx hb hr hlocks rfl hK hI ⟨rfl, rfl, rfl, (iv_w (lo' := (-1)) (hi' := 5) kc_m1 (by decide) (by decide))⟩ dX4_livingHeir_25
        · have i6 : iv v3_5 0 2147483647 := iv_nlt1 c4 (iv_any v3_5) kc_0 (by decide)
          refine lv_iload_n hx hb dX4_livingHeir_16 rfl (lv_at hl 2 rfl) ?_
          refine lv_aload_n hx hb dX4_livingHeir_17 rfl (lv_at hl 0 rfl) ?_
          refine h_geti (lo := 0) (hi := 6) hx hb hts iX4_livingHeir_X4 hown hK hI g_a (by decide) rfl rfl 0 (by decide) rfl rfl (hts (.fieldLink RX4 9 "CatLeases$Mews" "cats" "I") (List.mem_of_getElem? (i := 1) rfl)) (fun _ h9 => h9) dX4_livingHeir_18 (fun v7 e_v7 i_v7 => ?_)
          refine lv_icmp_lt (tgt := 26) hx hb dX4_livingHeir_21 (by decide) (fun c8 => ?_) (fun c8 => ?_)
          · have i9 : iv v3_5 0 5 := iv_lt1 c8 i6 i_v7 (by decide)
            have i10 : iv v7 1 6 := iv_lt2 c8 i6 i_v7 (by decide)
            refine lv_iload_n hx hb dX4_livingHeir_26 rfl (lv_at hl 1 rfl) ?_
            refine lv_iload_n hx hb dX4_livingHeir_27 rfl (lv_at hl 2 rfl) ?_
            refine lv_ishr hx hb dX4_livingHeir_28 ?_
            refine h_nm (lo := (-2147483648)) (hi := 2147483647) (iv_any _) (fun v11 e_v11 i_v11 => ?_)
            refine lv_iconst (v := 1) hx hb dX4_livingHeir_29 (by decide) ?_
            refine lv_iand hx hb dX4_livingHeir_30 ?_
            refine h_nm (lo := 0) (hi := 1) (iv_and 1 (by decide) (by decide) (by decide)) (fun v12 e_v12 i_v12 => ?_)
            refine lv_if_eq (tgt := 36) hx hb dX4_livingHeir_31 (by decide) (fun c13 => ?_) (fun c13 => ?_)
            · have i14 : iv v12 0 0 := iv_eq1 c13 i_v12 kc_0
              refine lv_aload_n hx hb dX4_livingHeir_36 rfl (lv_at hl 0 rfl) ?_
              refine h_getr hx hb hts iX4_livingHeir_X4 hown hK hI g_a (by decide) rfl rfl 6 (by decide) rfl 15 rfl (hts (.fieldLink RX4 31 "CatLeases$Mews" "heirs" "[I") (List.mem_of_getElem? (i := 2) rfl)) (fun _ h9 => h9) dX4_livingHeir_37 (fun a15 e_a15 g_a15 => ?_)
              refine lv_iload_n hx hb dX4_livingHeir_40 rfl (lv_at hl 2 rfl) ?_
              refine h_iald (j := v3_5.toNatClampNeg) (lo := (-2147483648)) (hi := 2147483647) hx hb hK hI g_a15 (by decide) rfl (iv_in (n := 6) i9 (by decide) (by decide)) rfl (iv_any _) dX4_livingHeir_41 (fun v16 e_v16 i_v16 => ?_)
              refine lv_istore_n (lv' := [(3, .int v16), (0, .ref a), (2, .int p2), (4, .int v4_5)]) hx hb dX4_livingHeir_42 rfl hl (by decide) rfl (fun ls hl => ?_)
              obtain ⟨v17, e_v17⟩ : ∃ z : Int32, z = v4_5 + Int32.ofInt 1 := ⟨_, rfl⟩
              have i_v17 : iv v17 1 7 := by rw [e_v17]; exact iv_add i3 (ki_1) (by decide) (by decide) (by decide) (by decide)
              refine lv_iinc (v := v17) (lv' := [(4, .int v17), (3, .int v16), (0, .ref a), (2, .int p2)]) hx hb dX4_livingHeir_43 hl (k := 3) rfl e_v17.symm (by decide) rfl (fun ls hl => ?_)
              refine lv_goto (tgt := 5) hx hb dX4_livingHeir_46 (by decide) ?_
              exact ih5 v16 v17 H locs ls hI (lv_sub hl [2, 3, 1, 0] rfl) (iv_w (lo' := 0) (hi' := 7) i_v17 (by decide) (by decide)) (by have h9 := (h_inc e_v17 i3 ki_1 (by decide) (by decide)); omega)
            · have i18 : iv v12 1 1 := iv_neL c13 i_v12 (by decide) (by decide)
              refine lv_iload_n hx hb dX4_livingHeir_34 rfl (lv_at hl 2 rfl) ?_
              exact h_iret hQ hx hb hr hlocks rfl hK hI ⟨rfl, rfl, rfl, (iv_w (lo' := (-1)) (hi' := 5) i9 (by decide) (by decide))⟩ dX4_livingHeir_35
          · refine lv_iconst (v := (-1)) hx hb dX4_livingHeir_24 (by decide) ?_
            exact h_iret hQ hx hb hr hlocks rfl hK hI ⟨rfl, rfl, rfl, (iv_w (lo' := (-1)) (hi' := 5) kc_m1 (by decide) (by decide))⟩ dX4_livingHeir_25
  refine lv_istore (lv' := [(4, .int (0 : Int32)), (3, .int p1), (0, .ref a), (1, .int p1), (2, .int p2)]) hx hb dX4_livingHeir_3 hl (by decide) rfl (fun ls hl => ?_)
  exact J5 8 p1 (0 : Int32) H locs ls hI (lv_sub hl [2, 4, 1, 0] rfl) (iv_w (lo' := 0) (hi' := 7) kc_0 (by decide) (by decide)) (by have h9 := kc_0; simp only [iv] at h9; omega)
abbrev e_h_die_X4 : List (Nat × Nat) := [(7, 5), (12, 999)]
set_option maxHeartbeats 4000000 in
set_option maxRecDepth 100000 in
theorem h_die_X4 (l : Launch) (D : va_G) (g : Nat → ClassId) (σ : Nat → Option Nat) (Z : State → Heap → Prop) (hZ0 : hZ σ Z) (M : hM) (N : hN) (R : hR) (a : Nat) (g_a : σ a = some 4) (b : Nat) (g_b : σ b = some 7) (p2 : Int32) : Met l yX4_die wsX4_die ({ frames := 1, cells := 0, slots := 0, locals := 24 }) (va_Pc [.ref a, .ref b, .int p2] (hPre D g σ Z M N R)) (hQv D g σ e_h_die_X4 M (fun (M1 : hM) (N1 : hN) (R1 : hR) => N = N1 ∧ R = R1)) 0 0 (hA σ) := by
  refine h_head (cc := cX4_die) (maxL := 4) (ret := none) (by decide) rfl (Nat.le_of_ble_eq_true rfl) e_h_die_X4 ?_
  intro p e s m below meth c ls Q ar hQ hx hb hr hlocks hml hown hts hK hE H locs hI hl
  have hown : s.vm.findClass RX4 = some m.cls := hown
  have hl : lv_has ls 4 [(0, .ref a), (1, .ref b), (2, .int p2)] := hl
  refine lv_aload_n hx hb dX4_die_0 rfl (lv_at hl 1 rfl) ?_
  refine lv_dup hx hb dX4_die_1 rfl ?_
  refine h_geti (lo := (-2147483648)) (hi := 2147483647) hx hb hts iX4_die_X7 hown hK hI g_b (by decide) rfl rfl 5 (by decide) rfl rfl (hts (.fieldLink RX4 121 "CatLeases$State" "living" "I") (List.mem_of_getElem? (i := 1) rfl)) (fun _ h9 => h9) dX4_die_2 (fun v1 e_v1 i_v1 => ?_)
  refine lv_iload_n hx hb dX4_die_5 rfl (lv_at hl 2 rfl) ?_
  refine lv_iconst (v := (-1)) hx hb dX4_die_6 (by decide) ?_
  refine lv_ixor hx hb dX4_die_7 ?_
  refine h_nm (lo := (-2147483648)) (hi := 2147483647) (iv_any _) (fun v2 e_v2 i_v2 => ?_)
  refine lv_iand hx hb dX4_die_8 ?_
  refine h_nm (lo := (-2147483648)) (hi := 2147483647) (iv_any _) (fun v3 e_v3 i_v3 => ?_)
  refine h_puti hx hb hts iX4_die_X7 tyX7 tyX7_ok nmX7 hown hK hI g_b (by decide) rfl rfl 5 (by decide) rfl (hts (.fieldLink RX4 121 "CatLeases$State" "living" "I") (List.mem_of_getElem? (i := 1) rfl)) (fun _ h9 => h9) rfl .int (by decide +kernel) rfl rfl i_v3 rfl dX4_die_9 (fun M4 H locs e_M4 hI => ?_)
  refine lv_iconst (v := 0) hx hb dX4_die_12 (by decide) ?_
  have J14 : ∀ (n : Nat) (M_14 : hM) (v3_14 : Int32) (H : Heap) (locs : List Loc) (ls : Array Slot), kI D g σ e_h_die_X4 M s.heap M_14 N R H locs → lv_has ls 4 [(0, .ref a), (1, .ref b), (3, .int v3_14)] → v3 = M_14 b 5 → iv v3_14 0 8 → 9 ≤ v3_14.toInt + (n : Int) → W p l e (headSpec wsX4_die ({ frames := 1, cells := 0, slots := 0, locals := 24 })).room s m ar below meth c H locs 0 0 Q (F0 m 14 ls []) := by
    intro n
    induction n with
    | zero => intro M_14 v3_14 H locs ls hI hl k0_14 i_v3_14 hn; exfalso; have hz := i_v3_14; simp only [iv] at hz; omega
    | succ n ih14 =>
      intro M_14 v3_14 H locs ls hI hl k0_14 i_v3_14 hn14
      refine lv_iload_n hx hb dX4_die_14 rfl (lv_at hl 2 rfl) ?_
      refine lv_aload_n hx hb dX4_die_15 rfl (lv_at hl 0 rfl) ?_
      refine h_geti (lo := 0) (hi := 8) hx hb hts iX4_die_X4 hown hK hI g_a (by decide) rfl rfl 1 (by decide) rfl rfl (hts (.fieldLink RX4 15 "CatLeases$Mews" "rooms" "I") (List.mem_of_getElem? (i := 2) rfl)) (fun _ h9 => h9) dX4_die_16 (fun v5 e_v5 i_v5 => ?_)
      refine lv_icmp_ge (tgt := 48) hx hb dX4_die_19 (by decide) (fun c6 => ?_) (fun c6 => ?_)
      · exact h_vret hQ hx hb hr hlocks hK hI ⟨rfl, rfl⟩ dX4_die_48
      · have i7 : iv v5 1 8 := iv_nle1 c6 i_v5 i_v3_14 (by decide)
        have i8 : iv v3_14 0 7 := iv_nle2 c6 i_v5 i_v3_14 (by decide)
        refine lv_aload_n hx hb dX4_die_22 rfl (lv_at hl 1 rfl) ?_
        refine h_getr hx hb hts iX4_die_X7 hown hK hI g_b (by decide) rfl rfl 0 (by decide) rfl 12 rfl (hts (.fieldLink RX4 58 "CatLeases$State" "keepers" "[I") (List.mem_of_getElem? (i := 3) rfl)) (fun _ h9 => h9) dX4_die_23 (fun a9 e_a9 g_a9 => ?_)
        refine lv_iload_n hx hb dX4_die_26 rfl (lv_at hl 2 rfl) ?_
        refine lv_aload_n hx hb dX4_die_27 rfl (lv_at hl 0 rfl) ?_
        refine lv_aload_n hx hb dX4_die_28 rfl (lv_at hl 1 rfl) ?_
        refine h_getr hx hb hts iX4_die_X7 hown hK hI g_b (by decide) rfl rfl 0 (by decide) rfl 12 rfl (hts (.fieldLink RX4 58 "CatLeases$State" "keepers" "[I") (List.mem_of_getElem? (i := 3) rfl)) (fun _ h9 => h9) dX4_die_29 (fun a10 e_a10 g_a10 => ?_)
        have q11 : a9 = a10 := (e_a9).trans e_a10.symm
        subst q11
        refine lv_iload_n hx hb dX4_die_32 rfl (lv_at hl 2 rfl) ?_
        refine h_iald (j := v3_14.toNatClampNeg) (lo := (-1)) (hi := 5) hx hb hK hI g_a9 (by decide) rfl (iv_in (n := 8) i8 (by decide) (by decide)) rfl (hI.iv1 (n := 8) g_a9 rfl (in_lt (iv_in (n := 8) i8 (by decide) (by decide))) rfl) dX4_die_33 (fun v12 e_v12 i_v12 => ?_)
        refine lv_aload_n hx hb dX4_die_34 rfl (lv_at hl 1 rfl) ?_
        refine h_geti (lo := (-2147483648)) (hi := 2147483647) hx hb hts iX4_die_X7 hown hK hI g_b (by decide) rfl rfl 5 (by decide) rfl rfl (hts (.fieldLink RX4 121 "CatLeases$State" "living" "I") (List.mem_of_getElem? (i := 1) rfl)) (fun _ h9 => h9) dX4_die_35 (fun v13 e_v13 i_v13 => ?_)
        have q14 : v3 = v13 := (k0_14).trans e_v13.symm
        subst q14
        refine h_goi hI (by decide) (va_runV (As := [.int v12, .int v3]) (rest := [.int v3_14, .ref a9]) ⟨hx, hb, hml, hown, hts⟩ (h_livingHeir_X4 l D g σ Z hZ0 M_14 N R a g_a v12 v3) (cwV 2 hts gX4_die_X4_livingHeir rfl rfl rfl (by decide +kernel) ⟨Nat.le_of_ble_eq_true rfl, Nat.le_of_ble_eq_true rfl⟩) (h_preV hZ0 hK hE hI g_a (by decide) rfl) rfl rfl hl.1 rfl (lv_room (Nat.le_of_ble_eq_true rfl)) dX4_die_38 ⟨Nat.le_of_ble_eq_true rfl, Nat.le_of_ble_eq_true rfl⟩) (fun r15 M16 N17 R18 H locs q19 z_M16 hI => ?_)
        obtain ⟨rfl, rfl, rfl, i_r15⟩ := q19
        refine h_iast (j := v3_14.toNatClampNeg) hx hb hK hI g_a9 (by decide) rfl (iv_in (n := 8) i8 (by decide) (by decide)) rfl i_r15 rfl dX4_die_41 (fun M20 H locs e_M20 hI => ?_)
        obtain ⟨v21, e_v21⟩ : ∃ z : Int32, z = v3_14 + Int32.ofInt 1 := ⟨_, rfl⟩
        have i_v21 : iv v21 1 8 := by rw [e_v21]; exact iv_add i8 (ki_1) (by decide) (by decide) (by decide) (by decide)
        refine lv_iinc (v := v21) (lv' := [(3, .int v21), (0, .ref a), (1, .ref b)]) hx hb dX4_die_42 hl (k := 2) rfl e_v21.symm (by decide) rfl (fun ls hl => ?_)
        refine lv_goto (tgt := 14) hx hb dX4_die_45 (by decide) ?_
        exact ih14 M20 v21 H locs ls hI (lv_sub hl [1, 2, 0] rfl) ((k0_14).trans (u2_st (a := b) (k := 5) e_M20 (u2_a (so_ne g_b g_a9 (by decide)))).symm) (iv_w (lo' := 0) (hi' := 8) i_v21 (by decide) (by decide)) (by have h9 := (h_inc e_v21 i8 ki_1 (by decide) (by decide)); omega)
  refine lv_istore_n (lv' := [(3, .int (0 : Int32)), (0, .ref a), (1, .ref b), (2, .int p2)]) hx hb dX4_die_13 rfl hl (by decide) rfl (fun ls hl => ?_)
  exact J14 9 M4 (0 : Int32) H locs ls hI (lv_sub hl [1, 2, 0] rfl) ((u2_wr e_M4)) (iv_w (lo' := 0) (hi' := 8) kc_0 (by decide) (by decide)) (by have h9 := kc_0; simp only [iv] at h9; omega)
abbrev e_h_draw_X4 : List (Nat × Nat) := [(7, 7)]
set_option maxHeartbeats 4000000 in
set_option maxRecDepth 100000 in
theorem h_draw_X4 (l : Launch) (D : va_G) (g : Nat → ClassId) (σ : Nat → Option Nat) (Z : State → Heap → Prop) (hZ0 : hZ σ Z) (M : hM) (N : hN) (R : hR) (a : Nat) (g_a : σ a = some 4) (b : Nat) (g_b : σ b = some 7) : Met l yX4_draw wsX4_draw ({ frames := 1, cells := 0, slots := 0, locals := 21 }) (va_Pc [.ref a, .ref b] (hPre D g σ Z M N R)) (hQi D g σ e_h_draw_X4 M (fun (r : Int32) (M1 : hM) (N1 : hN) (R1 : hR) => N = N1 ∧ R = R1 ∧ iv r 0 255)) 0 0 (hA σ) := by
  refine h_head (cc := cX4_draw) (maxL := 4) (ret := (some .int)) (by decide) rfl (Nat.le_of_ble_eq_true rfl) e_h_draw_X4 ?_
  intro p e s m below meth c ls Q ar hQ hx hb hr hlocks hml hown hts hK hE H locs hI hl
  have hown : s.vm.findClass RX4 = some m.cls := hown
  have hl : lv_has ls 4 [(0, .ref a), (1, .ref b)] := hl
  refine lv_iconst (v := 0) hx hb dX4_draw_0 (by decide) ?_
  refine lv_istore_n (lv' := [(2, .int (0 : Int32)), (0, .ref a), (1, .ref b)]) hx hb dX4_draw_1 rfl hl (by decide) rfl (fun ls hl => ?_)
  refine lv_iconst (v := 0) hx hb dX4_draw_2 (by decide) ?_
  have J4 : ∀ (n : Nat) (M_4 : hM) (v2_4 : Int32) (v3_4 : Int32) (H : Heap) (locs : List Loc) (ls : Array Slot), kI D g σ e_h_draw_X4 M s.heap M_4 N R H locs → lv_has ls 4 [(0, .ref a), (1, .ref b), (2, .int v2_4), (3, .int v3_4)] → iv v2_4 0 255 → iv v3_4 0 6 → 7 ≤ v3_4.toInt + (n : Int) → W p l e (headSpec wsX4_draw ({ frames := 1, cells := 0, slots := 0, locals := 21 })).room s m ar below meth c H locs 0 0 Q (F0 m 4 ls []) := by
    intro n
    induction n with
    | zero => intro M_4 v2_4 v3_4 H locs ls hI hl i_v2_4 i_v3_4 hn; exfalso; have hz := i_v3_4; simp only [iv] at hz; omega
    | succ n ih4 =>
      intro M_4 v2_4 v3_4 H locs ls hI hl i_v2_4 i_v3_4 hn4
      refine lv_iload_n hx hb dX4_draw_4 rfl (lv_at hl 3 rfl) ?_
      refine lv_aload_n hx hb dX4_draw_5 rfl (lv_at hl 0 rfl) ?_
      refine h_geti (lo := 0) (hi := 6) hx hb hts iX4_draw_X4 hown hK hI g_a (by decide) rfl rfl 0 (by decide) rfl rfl (hts (.fieldLink RX4 9 "CatLeases$Mews" "cats" "I") (List.mem_of_getElem? (i := 1) rfl)) (fun _ h9 => h9) dX4_draw_6 (fun v1 e_v1 i_v1 => ?_)
      refine lv_icmp_ge (tgt := 65) hx hb dX4_draw_9 (by decide) (fun c2 => ?_) (fun c2 => ?_)
      · refine lv_iload_n hx hb dX4_draw_65 rfl (lv_at hl 2 rfl) ?_
        exact h_iret hQ hx hb hr hlocks rfl hK hI ⟨rfl, rfl, i_v2_4⟩ dX4_draw_66
      · have i3 : iv v1 1 6 := iv_nle1 c2 i_v1 i_v3_4 (by decide)
        have i4 : iv v3_4 0 5 := iv_nle2 c2 i_v1 i_v3_4 (by decide)
        refine lv_aload_n hx hb dX4_draw_12 rfl (lv_at hl 1 rfl) ?_
        refine lv_iload_n hx hb dX4_draw_13 rfl (lv_at hl 3 rfl) ?_
        refine h_goi hI (by decide) (va_runV (As := [.int v3_4]) (rest := []) ⟨hx, hb, hml, hown, hts⟩ (h_isLiving_X7 l D g σ Z hZ0 M_4 N R b g_b v3_4) (cwV 1 hts gX4_draw_X7_isLiving rfl rfl rfl (by decide +kernel) ⟨Nat.le_of_ble_eq_true rfl, Nat.le_of_ble_eq_true rfl⟩) (h_preV hZ0 hK hE hI g_b (by decide) rfl) rfl rfl hl.1 rfl (lv_room (Nat.le_of_ble_eq_true rfl)) dX4_draw_14 ⟨Nat.le_of_ble_eq_true rfl, Nat.le_of_ble_eq_true rfl⟩) (fun r5 M6 N7 R8 H locs q9 z_M6 hI => ?_)
        obtain ⟨rfl, rfl, rfl, i_r5⟩ := q9
        have J59 : ∀ (M_59 : hM) (v2_59 : Int32) (H : Heap) (locs : List Loc) (ls : Array Slot), kI D g σ e_h_draw_X4 M s.heap M_59 N R H locs → lv_has ls 4 [(0, .ref a), (1, .ref b), (2, .int v2_59), (3, .int v3_4)] → v1 = M_59 a 0 → iv v2_59 0 255 → W p l e (headSpec wsX4_draw ({ frames := 1, cells := 0, slots := 0, locals := 21 })).room s m ar below meth c H locs 0 0 Q (F0 m 59 ls []) := by
          intro M_59 v2_59 H locs ls hI hl k0_59 i_v2_59
          obtain ⟨v10, e_v10⟩ : ∃ z : Int32, z = v3_4 + Int32.ofInt 1 := ⟨_, rfl⟩
          have i_v10 : iv v10 1 6 := by rw [e_v10]; exact iv_add i4 (ki_1) (by decide) (by decide) (by decide) (by decide)
          refine lv_iinc (v := v10) (lv' := [(3, .int v10), (0, .ref a), (1, .ref b), (2, .int v2_59)]) hx hb dX4_draw_59 hl (k := 3) rfl e_v10.symm (by decide) rfl (fun ls hl => ?_)
          refine lv_goto (tgt := 4) hx hb dX4_draw_62 (by decide) ?_
          exact ih4 M_59 v2_59 v10 H locs ls hI (lv_sub hl [1, 2, 3, 0] rfl) i_v2_59 (iv_w (lo' := 0) (hi' := 6) i_v10 (by decide) (by decide)) (by have h9 := (h_inc e_v10 i4 ki_1 (by decide) (by decide)); omega)
        refine lv_if_eq (tgt := 59) hx hb dX4_draw_17 (by decide) (fun c11 => ?_) (fun c11 => ?_)
        · have i12 : iv r5 0 0 := iv_eq1 c11 i_r5 kc_0
          exact J59 M_4 v2_4 H locs ls hI hl (e_v1) i_v2_4
        · have i13 : iv r5 1 1 := iv_neL c11 i_r5 (by decide) (by decide)
          refine lv_aload_n hx hb dX4_draw_20 rfl (lv_at hl 1 rfl) ?_
          refine lv_aload_n hx hb dX4_draw_21 rfl (lv_at hl 1 rfl) ?_
          refine h_geti (lo := (-2147483648)) (hi := 2147483647) hx hb hts iX4_draw_X7 hown hK hI g_b (by decide) rfl rfl 7 (by decide) rfl rfl (hts (.fieldLink RX4 118 "CatLeases$State" "seed" "I") (List.mem_of_getElem? (i := 2) rfl)) (fun _ h9 => h9) dX4_draw_22 (fun v14 e_v14 i_v14 => ?_)
          refine lv_sipush (v := 137) hx hb dX4_draw_25 (by decide) ?_
          refine lv_imul hx hb dX4_draw_28 ?_
          refine h_nm (lo := (-2147483648)) (hi := 2147483647) (iv_any _) (fun v15 e_v15 i_v15 => ?_)
          refine lv_bipush (v := 71) hx hb dX4_draw_29 (by decide) ?_
          refine lv_iadd hx hb dX4_draw_31 ?_
          refine h_nm (lo := (-2147483648)) (hi := 2147483647) (iv_any _) (fun v16 e_v16 i_v16 => ?_)
          refine lv_sipush (v := 1000) hx hb dX4_draw_32 (by decide) ?_
          refine lv_irem hx hb dX4_draw_35 (by decide) ?_
          refine h_nm (lo := (-2147483648)) (hi := 2147483647) (iv_any _) (fun v17 e_v17 i_v17 => ?_)
          refine h_puti hx hb hts iX4_draw_X7 tyX7 tyX7_ok nmX7 hown hK hI g_b (by decide) rfl rfl 7 (by decide) rfl (hts (.fieldLink RX4 118 "CatLeases$State" "seed" "I") (List.mem_of_getElem? (i := 2) rfl)) (fun _ h9 => h9) rfl .int (by decide +kernel) rfl rfl i_v17 rfl dX4_draw_36 (fun M18 H locs e_M18 hI => ?_)
          refine lv_aload_n hx hb dX4_draw_39 rfl (lv_at hl 1 rfl) ?_
          refine h_geti (lo := (-2147483648)) (hi := 2147483647) hx hb hts iX4_draw_X7 hown hK hI g_b (by decide) rfl rfl 7 (by decide) rfl rfl (hts (.fieldLink RX4 118 "CatLeases$State" "seed" "I") (List.mem_of_getElem? (i := 2) rfl)) (fun _ h9 => h9) dX4_draw_40 (fun v19 e_v19 i_v19 => ?_)
          have q20 : v17 = v19 := ((u2_wr e_M18)).trans e_v19.symm
          subst q20
          refine lv_bipush (v := 100) hx hb dX4_draw_43 (by decide) ?_
          refine lv_irem hx hb dX4_draw_45 (by decide) ?_
          refine h_nm (lo := (-2147483648)) (hi := 2147483647) (iv_any _) (fun v21 e_v21 i_v21 => ?_)
          refine lv_aload_n hx hb dX4_draw_46 rfl (lv_at hl 0 rfl) ?_
          refine h_geti (lo := (-2147483648)) (hi := 2147483647) hx hb hts iX4_draw_X4 hown hK hI g_a (by decide) rfl rfl 3 (by decide) rfl rfl (hts (.fieldLink RX4 21 "CatLeases$Mews" "dies" "I") (List.mem_of_getElem? (i := 3) rfl)) (fun _ h9 => h9) dX4_draw_47 (fun v22 e_v22 i_v22 => ?_)
          refine lv_icmp_ge (tgt := 59) hx hb dX4_draw_50 (by decide) (fun c23 => ?_) (fun c23 => ?_)
          · exact J59 M18 v2_4 H locs ls hI hl ((e_v1).trans (u2_st (a := a) (k := 0) e_M18 (u2_a (so_ne g_a g_b (by decide)))).symm) i_v2_4
          · have i24 : iv v22 (-2147483647) 2147483647 := iv_nle1 c23 i_v22 i_v21 (by decide)
            have i25 : iv v21 (-2147483648) 2147483646 := iv_nle2 c23 i_v22 i_v21 (by decide)
            refine lv_iload_n hx hb dX4_draw_53 rfl (lv_at hl 2 rfl) ?_
            refine lv_iconst (v := 1) hx hb dX4_draw_54 (by decide) ?_
            refine lv_iload_n hx hb dX4_draw_55 rfl (lv_at hl 3 rfl) ?_
            refine lv_ishl hx hb dX4_draw_56 ?_
            refine h_nm (lo := 1) (hi := 32) (iv_shl1 5 i4 (by decide) (by decide) (by decide) (by decide) (by decide)) (fun v26 e_v26 i_v26 => ?_)
            refine lv_ior hx hb dX4_draw_57 ?_
            refine h_nm (lo := 0) (hi := 255) (iv_or 8 i_v2_4 i_v26 (by decide) (by decide) (by decide) (by decide) (by decide) (by decide)) (fun v27 e_v27 i_v27 => ?_)
            refine lv_istore_n (lv' := [(2, .int v27), (0, .ref a), (1, .ref b), (3, .int v3_4)]) hx hb dX4_draw_58 rfl hl (by decide) rfl (fun ls hl => ?_)
            exact J59 M18 v27 H locs ls hI (lv_sub hl [1, 2, 0, 3] rfl) ((e_v1).trans (u2_st (a := a) (k := 0) e_M18 (u2_a (so_ne g_a g_b (by decide)))).symm) i_v27
  refine lv_istore_n (lv' := [(3, .int (0 : Int32)), (2, .int (0 : Int32)), (0, .ref a), (1, .ref b)]) hx hb dX4_draw_3 rfl hl (by decide) rfl (fun ls hl => ?_)
  exact J4 7 M (0 : Int32) (0 : Int32) H locs ls hI (lv_sub hl [2, 3, 1, 0] rfl) (iv_w (lo' := 0) (hi' := 255) kc_0 (by decide) (by decide)) (iv_w (lo' := 0) (hi' := 6) kc_0 (by decide) (by decide)) (by have h9 := kc_0; simp only [iv] at h9; omega)
abbrev e_h_pass_X4 : List (Nat × Nat) := [(7, 5), (7, 6), (7, 7), (12, 999), (13, 999), (14, 999), (18, 999)]
set_option maxHeartbeats 4000000 in
set_option maxRecDepth 100000 in
theorem h_pass_X4 (l : Launch) (D : va_G) (g : Nat → ClassId) (σ : Nat → Option Nat) (Z : State → Heap → Prop) (hZ0 : hZ σ Z) (M : hM) (N : hN) (R : hR) (a : Nat) (g_a : σ a = some 4) (b : Nat) (g_b : σ b = some 7) : Met l yX4_pass wsX4_pass ({ frames := 4, cells := 0, slots := 0, locals := 94 }) (va_Pc [.ref a, .ref b] (hPre D g σ Z M N R)) (hQi D g σ e_h_pass_X4 M (fun (r : Int32) (M1 : hM) (N1 : hN) (R1 : hR) => N = N1 ∧ R = R1 ∧ iv r 0 255)) 0 0 (hA σ) := by
  refine h_head (cc := cX4_pass) (maxL := 4) (ret := (some .int)) (by decide) rfl (Nat.le_of_ble_eq_true rfl) e_h_pass_X4 ?_
  intro p e s m below meth c ls Q ar hQ hx hb hr hlocks hml hown hts hK hE H locs hI hl
  have hown : s.vm.findClass RX4 = some m.cls := hown
  have hl : lv_has ls 4 [(0, .ref a), (1, .ref b)] := hl
  refine lv_aload_n hx hb dX4_pass_0 rfl (lv_at hl 0 rfl) ?_
  refine lv_aload_n hx hb dX4_pass_1 rfl (lv_at hl 1 rfl) ?_
  refine h_goi hI (by decide) (va_runV (As := [.ref b]) (rest := []) ⟨hx, hb, hml, hown, hts⟩ (h_thrownOut_X4 l D g σ Z hZ0 M N R a g_a b g_b) (cwV 1 hts gX4_pass_X4_thrownOut rfl rfl rfl (by decide +kernel) ⟨Nat.le_of_ble_eq_true rfl, Nat.le_of_ble_eq_true rfl⟩) (h_preV hZ0 hK hE hI g_a (by decide) rfl) rfl rfl hl.1 rfl (lv_room (Nat.le_of_ble_eq_true rfl)) dX4_pass_2 ⟨Nat.le_of_ble_eq_true rfl, Nat.le_of_ble_eq_true rfl⟩) (fun r1 M2 N3 R4 H locs q5 z_M2 hI => ?_)
  obtain ⟨rfl, rfl, i_r1⟩ := q5
  refine lv_istore_n (lv' := [(2, .int r1), (0, .ref a), (1, .ref b)]) hx hb dX4_pass_5 rfl hl (by decide) rfl (fun ls hl => ?_)
  refine lv_iconst (v := 0) hx hb dX4_pass_6 (by decide) ?_
  have J8 : ∀ (n : Nat) (M_8 : hM) (v3_8 : Int32) (H : Heap) (locs : List Loc) (ls : Array Slot), kI D g σ e_h_pass_X4 M s.heap M_8 N R H locs → lv_has ls 4 [(0, .ref a), (1, .ref b), (2, .int r1), (3, .int v3_8)] → iv v3_8 0 7 → 8 ≤ v3_8.toInt + (n : Int) → W p l e (headSpec wsX4_pass ({ frames := 4, cells := 0, slots := 0, locals := 94 })).room s m ar below meth c H locs 0 0 Q (F0 m 8 ls []) := by
    intro n
    induction n with
    | zero => intro M_8 v3_8 H locs ls hI hl i_v3_8 hn; exfalso; have hz := i_v3_8; simp only [iv] at hz; omega
    | succ n ih8 =>
      intro M_8 v3_8 H locs ls hI hl i_v3_8 hn8
      refine lv_iload_n hx hb dX4_pass_8 rfl (lv_at hl 3 rfl) ?_
      refine lv_aload_n hx hb dX4_pass_9 rfl (lv_at hl 0 rfl) ?_
      refine h_geti (lo := 0) (hi := 7) hx hb hts iX4_pass_X4 hown hK hI g_a (by decide) rfl rfl 2 (by decide) rfl rfl (hts (.fieldLink RX4 18 "CatLeases$Mews" "tenants" "I") (List.mem_of_getElem? (i := 1) rfl)) (fun _ h9 => h9) dX4_pass_10 (fun v6 e_v6 i_v6 => ?_)
      refine lv_icmp_ge (tgt := 71) hx hb dX4_pass_13 (by decide) (fun c7 => ?_) (fun c7 => ?_)
      · refine lv_aload_n hx hb dX4_pass_71 rfl (lv_at hl 0 rfl) ?_
        refine lv_aload_n hx hb dX4_pass_72 rfl (lv_at hl 1 rfl) ?_
        refine lv_aload_n hx hb dX4_pass_73 rfl (lv_at hl 0 rfl) ?_
        refine lv_aload_n hx hb dX4_pass_74 rfl (lv_at hl 1 rfl) ?_
        refine h_goi hI (by decide) (va_runV (As := [.ref b]) (rest := [.ref b, .ref a]) ⟨hx, hb, hml, hown, hts⟩ (h_draw_X4 l D g σ Z hZ0 M_8 N R a g_a b g_b) (cwV 1 hts gX4_pass_X4_draw rfl rfl rfl (by decide +kernel) ⟨Nat.le_of_ble_eq_true rfl, Nat.le_of_ble_eq_true rfl⟩) (h_preV hZ0 hK hE hI g_a (by decide) rfl) rfl rfl hl.1 rfl (lv_room (Nat.le_of_ble_eq_true rfl)) dX4_pass_75 ⟨Nat.le_of_ble_eq_true rfl, Nat.le_of_ble_eq_true rfl⟩) (fun r8 M9 N10 R11 H locs q12 z_M9 hI => ?_)
        obtain ⟨rfl, rfl, i_r8⟩ := q12
        refine h_gov hI (by decide) (va_runV (As := [.ref b, .int r8]) (rest := []) ⟨hx, hb, hml, hown, hts⟩ (h_die_X4 l D g σ Z hZ0 M9 N R a g_a b g_b r8) (cwV 2 hts gX4_pass_X4_die rfl rfl rfl (by decide +kernel) ⟨Nat.le_of_ble_eq_true rfl, Nat.le_of_ble_eq_true rfl⟩) (h_preV hZ0 hK hE hI g_a (by decide) rfl) rfl rfl hl.1 rfl (lv_room (Nat.le_of_ble_eq_true rfl)) dX4_pass_78 ⟨Nat.le_of_ble_eq_true rfl, Nat.le_of_ble_eq_true rfl⟩) (fun M14 N15 R16 H locs q17 z_M14 hI => ?_)
        obtain ⟨rfl, rfl⟩ := q17
        refine lv_aload_n hx hb dX4_pass_81 rfl (lv_at hl 1 rfl) ?_
        refine lv_dup hx hb dX4_pass_82 rfl ?_
        refine h_geti (lo := (-2147483648)) (hi := 2147483647) hx hb hts iX4_pass_X7 hown hK hI g_b (by decide) rfl rfl 6 (by decide) rfl rfl (hts (.fieldLink RX4 81 "CatLeases$State" "quarters" "I") (List.mem_of_getElem? (i := 4) rfl)) (fun _ h9 => h9) dX4_pass_83 (fun v18 e_v18 i_v18 => ?_)
        refine lv_iconst (v := 1) hx hb dX4_pass_86 (by decide) ?_
        refine lv_iadd hx hb dX4_pass_87 ?_
        refine h_nm (lo := (-2147483648)) (hi := 2147483647) (iv_any _) (fun v19 e_v19 i_v19 => ?_)
        refine h_puti hx hb hts iX4_pass_X7 tyX7 tyX7_ok nmX7 hown hK hI g_b (by decide) rfl rfl 6 (by decide) rfl (hts (.fieldLink RX4 81 "CatLeases$State" "quarters" "I") (List.mem_of_getElem? (i := 4) rfl)) (fun _ h9 => h9) rfl .int (by decide +kernel) rfl rfl i_v19 rfl dX4_pass_88 (fun M20 H locs e_M20 hI => ?_)
        refine lv_iload_n hx hb dX4_pass_91 rfl (lv_at hl 2 rfl) ?_
        exact h_iret hQ hx hb hr hlocks rfl hK hI ⟨rfl, rfl, i_r1⟩ dX4_pass_92
      · have i21 : iv v6 1 7 := iv_nle1 c7 i_v6 i_v3_8 (by decide)
        have i22 : iv v3_8 0 6 := iv_nle2 c7 i_v6 i_v3_8 (by decide)
        refine lv_iload_n hx hb dX4_pass_16 rfl (lv_at hl 2 rfl) ?_
        refine lv_iload_n hx hb dX4_pass_17 rfl (lv_at hl 3 rfl) ?_
        refine lv_ishr hx hb dX4_pass_18 ?_
        refine h_nm (lo := (-2147483648)) (hi := 2147483647) (iv_any _) (fun v23 e_v23 i_v23 => ?_)
        refine lv_iconst (v := 1) hx hb dX4_pass_19 (by decide) ?_
        refine lv_iand hx hb dX4_pass_20 ?_
        refine h_nm (lo := 0) (hi := 1) (iv_and 1 (by decide) (by decide) (by decide)) (fun v24 e_v24 i_v24 => ?_)
        have J65 : ∀ (M_65 : hM) (H : Heap) (locs : List Loc) (ls : Array Slot), kI D g σ e_h_pass_X4 M s.heap M_65 N R H locs → lv_has ls 4 [(0, .ref a), (1, .ref b), (2, .int r1), (3, .int v3_8)] → v6 = M_65 a 2 → W p l e (headSpec wsX4_pass ({ frames := 4, cells := 0, slots := 0, locals := 94 })).room s m ar below meth c H locs 0 0 Q (F0 m 65 ls []) := by
          intro M_65 H locs ls hI hl k0_65
          obtain ⟨v25, e_v25⟩ : ∃ z : Int32, z = v3_8 + Int32.ofInt 1 := ⟨_, rfl⟩
          have i_v25 : iv v25 1 7 := by rw [e_v25]; exact iv_add i22 (ki_1) (by decide) (by decide) (by decide) (by decide)
          refine lv_iinc (v := v25) (lv' := [(3, .int v25), (0, .ref a), (1, .ref b), (2, .int r1)]) hx hb dX4_pass_65 hl (k := 3) rfl e_v25.symm (by decide) rfl (fun ls hl => ?_)
          refine lv_goto (tgt := 8) hx hb dX4_pass_68 (by decide) ?_
          exact ih8 M_65 v25 H locs ls hI (lv_sub hl [1, 2, 3, 0] rfl) (iv_w (lo' := 0) (hi' := 7) i_v25 (by decide) (by decide)) (by have h9 := (h_inc e_v25 i22 ki_1 (by decide) (by decide)); omega)
        refine lv_if_eq (tgt := 33) hx hb dX4_pass_21 (by decide) (fun c26 => ?_) (fun c26 => ?_)
        · have i27 : iv v24 0 0 := iv_eq1 c26 i_v24 kc_0
          refine lv_aload_n hx hb dX4_pass_33 rfl (lv_at hl 1 rfl) ?_
          refine h_getr hx hb hts iX4_pass_X7 hown hK hI g_b (by decide) rfl rfl 1 (by decide) rfl 13 rfl (hts (.fieldLink RX4 61 "CatLeases$State" "places" "[I") (List.mem_of_getElem? (i := 2) rfl)) (fun _ h9 => h9) dX4_pass_34 (fun a28 e_a28 g_a28 => ?_)
          refine lv_iload_n hx hb dX4_pass_37 rfl (lv_at hl 3 rfl) ?_
          refine h_iald (j := v3_8.toNatClampNeg) (lo := (-1)) (hi := 7) hx hb hK hI g_a28 (by decide) rfl (iv_in (n := 7) i22 (by decide) (by decide)) rfl (hI.iv1 (n := 7) g_a28 rfl (in_lt (iv_in (n := 7) i22 (by decide) (by decide))) rfl) dX4_pass_38 (fun v29 e_v29 i_v29 => ?_)
          refine lv_iconst (v := (-1)) hx hb dX4_pass_39 (by decide) ?_
          refine lv_icmp_eq (tgt := 65) hx hb dX4_pass_40 (by decide) (fun c30 => ?_) (fun c30 => ?_)
          · have i31 : iv v29 (-1) (-1) := iv_eq1 c30 i_v29 kc_m1
            exact J65 M_8 H locs ls hI hl (e_v6)
          · have i32 : iv v29 0 7 := iv_neL c30 i_v29 (by decide) (by decide)
            refine lv_aload_n hx hb dX4_pass_43 rfl (lv_at hl 1 rfl) ?_
            refine h_getr hx hb hts iX4_pass_X7 hown hK hI g_b (by decide) rfl rfl 2 (by decide) rfl 14 rfl (hts (.fieldLink RX4 74 "CatLeases$State" "stays" "[I") (List.mem_of_getElem? (i := 3) rfl)) (fun _ h9 => h9) dX4_pass_44 (fun a33 e_a33 g_a33 => ?_)
            refine lv_iload_n hx hb dX4_pass_47 rfl (lv_at hl 3 rfl) ?_
            refine h_iald (j := v3_8.toNatClampNeg) (lo := (-2147483648)) (hi := 2147483647) hx hb hK hI g_a33 (by decide) rfl (iv_in (n := 7) i22 (by decide) (by decide)) rfl (iv_any _) dX4_pass_48 (fun v34 e_v34 i_v34 => ?_)
            refine lv_sipush (v := 999) hx hb dX4_pass_49 (by decide) ?_
            refine lv_icmp_ge (tgt := 65) hx hb dX4_pass_52 (by decide) (fun c35 => ?_) (fun c35 => ?_)
            · have i36 : iv v34 999 2147483647 := iv_le2 c35 kc_999 i_v34 (by decide)
              exact J65 M_8 H locs ls hI hl (e_v6)
            · have i37 : iv v34 (-2147483648) 998 := iv_nle2 c35 kc_999 i_v34 (by decide)
              refine lv_aload_n hx hb dX4_pass_55 rfl (lv_at hl 1 rfl) ?_
              refine h_getr hx hb hts iX4_pass_X7 hown hK hI g_b (by decide) rfl rfl 2 (by decide) rfl 14 rfl (hts (.fieldLink RX4 74 "CatLeases$State" "stays" "[I") (List.mem_of_getElem? (i := 3) rfl)) (fun _ h9 => h9) dX4_pass_56 (fun a38 e_a38 g_a38 => ?_)
              have q39 : a33 = a38 := (e_a33).trans e_a38.symm
              subst q39
              refine lv_iload_n hx hb dX4_pass_59 rfl (lv_at hl 3 rfl) ?_
              refine lv_dup2_11 hx hb dX4_pass_60 rfl rfl ?_
              refine h_iald (j := v3_8.toNatClampNeg) (lo := (-2147483648)) (hi := 2147483647) hx hb hK hI g_a33 (by decide) rfl (iv_in (n := 7) i22 (by decide) (by decide)) rfl (iv_any _) dX4_pass_61 (fun v40 e_v40 i_v40 => ?_)
              have q41 : v34 = v40 := (e_v34).trans e_v40.symm
              subst q41
              refine lv_iconst (v := 1) hx hb dX4_pass_62 (by decide) ?_
              refine lv_iadd hx hb dX4_pass_63 ?_
              refine h_nm (lo := (-2147483647)) (hi := 999) (iv_add i37 kc_1 (by decide) (by decide) (by decide) (by decide)) (fun v42 e_v42 i_v42 => ?_)
              refine h_iast (j := v3_8.toNatClampNeg) hx hb hK hI g_a33 (by decide) rfl (iv_in (n := 7) i22 (by decide) (by decide)) rfl (iv_any _) rfl dX4_pass_64 (fun M43 H locs e_M43 hI => ?_)
              exact J65 M43 H locs ls hI hl ((e_v6).trans (u2_st (a := a) (k := 2) e_M43 (u2_a (so_ne g_a g_a33 (by decide)))).symm)
        · have i44 : iv v24 1 1 := iv_neL c26 i_v24 (by decide) (by decide)
          refine lv_aload_n hx hb dX4_pass_24 rfl (lv_at hl 1 rfl) ?_
          refine lv_iload_n hx hb dX4_pass_25 rfl (lv_at hl 3 rfl) ?_
          refine lv_iconst (v := (-1)) hx hb dX4_pass_26 (by decide) ?_
          refine h_gov hI (by decide) (va_runV (As := [.int v3_8, .int (-1 : Int32)]) (rest := []) ⟨hx, hb, hml, hown, hts⟩ (h_place_X7 l D g σ Z hZ0 M_8 N R b g_b v3_8 (-1 : Int32) (iv_w (lo' := (-1)) (hi' := 7) kc_m1 (by decide) (by decide))) (cwV 2 hts gX4_pass_X7_place rfl rfl rfl (by decide +kernel) ⟨Nat.le_of_ble_eq_true rfl, Nat.le_of_ble_eq_true rfl⟩) (h_preV hZ0 hK hE hI g_b (by decide) rfl) rfl rfl hl.1 rfl (lv_room (Nat.le_of_ble_eq_true rfl)) dX4_pass_27 ⟨Nat.le_of_ble_eq_true rfl, Nat.le_of_ble_eq_true rfl⟩) (fun M46 N47 R48 H locs q49 z_M46 hI => ?_)
          obtain ⟨rfl, rfl⟩ := q49
          refine lv_goto (tgt := 65) hx hb dX4_pass_30 (by decide) ?_
          exact J65 M46 H locs ls hI hl ((e_v6).trans (z_M46 a 4 2 g_a rfl).symm)
  refine lv_istore_n (lv' := [(3, .int (0 : Int32)), (2, .int r1), (0, .ref a), (1, .ref b)]) hx hb dX4_pass_7 rfl hl (by decide) rfl (fun ls hl => ?_)
  exact J8 8 M2 (0 : Int32) H locs ls hI (lv_sub hl [2, 3, 1, 0] rfl) (iv_w (lo' := 0) (hi' := 7) kc_0 (by decide) (by decide)) (by have h9 := kc_0; simp only [iv] at h9; omega)
abbrev e_h_outBehindAsConsidered_X4 : List (Nat × Nat) := [(14, 999), (18, 999)]
set_option maxHeartbeats 4000000 in
set_option maxRecDepth 100000 in
theorem h_outBehindAsConsidered_X4 (l : Launch) (D : va_G) (g : Nat → ClassId) (σ : Nat → Option Nat) (Z : State → Heap → Prop) (hZ0 : hZ σ Z) (M : hM) (N : hN) (R : hR) (a : Nat) (g_a : σ a = some 4) (b : Nat) (g_b : σ b = some 7) (p2 : Int32) (h_p2 : iv p2 0 6) (p3 : Int32) (h_p3 : iv p3 0 99) : Met l yX4_outBehindAsConsidered wsX4_outBehindAsConsidered ({ frames := 2, cells := 0, slots := 0, locals := 46 }) (va_Pc [.ref a, .ref b, .int p2, .int p3] (hPre D g σ Z M N R)) (hQi D g σ e_h_outBehindAsConsidered_X4 M (fun (r : Int32) (M1 : hM) (N1 : hN) (R1 : hR) => N = N1 ∧ R = R1 ∧ iv r 0 100)) 0 0 (hA σ) := by
  refine h_head (cc := cX4_outBehindAsConsidered) (maxL := 5) (ret := (some .int)) (by decide) rfl (Nat.le_of_ble_eq_true rfl) e_h_outBehindAsConsidered_X4 ?_
  intro p e s m below meth c ls Q ar hQ hx hb hr hlocks hml hown hts hK hE H locs hI hl
  have hown : s.vm.findClass RX4 = some m.cls := hown
  have hl : lv_has ls 5 [(0, .ref a), (1, .ref b), (2, .int p2), (3, .int p3)] := hl
  refine lv_aload_n hx hb dX4_outBehindAsConsidered_0 rfl (lv_at hl 1 rfl) ?_
  refine h_getr hx hb hts iX4_outBehindAsConsidered_X7 hown hK hI g_b (by decide) rfl rfl 1 (by decide) rfl 13 rfl (hts (.fieldLink RX4 61 "CatLeases$State" "places" "[I") (List.mem_of_getElem? (i := 1) rfl)) (fun _ h9 => h9) dX4_outBehindAsConsidered_1 (fun a1 e_a1 g_a1 => ?_)
  refine lv_iload_n hx hb dX4_outBehindAsConsidered_4 rfl (lv_at hl 2 rfl) ?_
  refine h_iald (j := p2.toNatClampNeg) (lo := (-1)) (hi := 7) hx hb hK hI g_a1 (by decide) rfl (iv_in (n := 7) h_p2 (by decide) (by decide)) rfl (hI.iv1 (n := 7) g_a1 rfl (in_lt (iv_in (n := 7) h_p2 (by decide) (by decide))) rfl) dX4_outBehindAsConsidered_5 (fun v2 e_v2 i_v2 => ?_)
  refine lv_iconst (v := (-1)) hx hb dX4_outBehindAsConsidered_6 (by decide) ?_
  refine lv_icmp_ne (tgt := 12) hx hb dX4_outBehindAsConsidered_7 (by decide) (fun c3 => ?_) (fun c3 => ?_)
  · have i4 : iv v2 0 7 := iv_neL c3 i_v2 (by decide) (by decide)
    refine lv_aload_n hx hb dX4_outBehindAsConsidered_12 rfl (lv_at hl 1 rfl) ?_
    refine lv_aload_n hx hb dX4_outBehindAsConsidered_13 rfl (lv_at hl 1 rfl) ?_
    refine h_getr hx hb hts iX4_outBehindAsConsidered_X7 hown hK hI g_b (by decide) rfl rfl 1 (by decide) rfl 13 rfl (hts (.fieldLink RX4 61 "CatLeases$State" "places" "[I") (List.mem_of_getElem? (i := 1) rfl)) (fun _ h9 => h9) dX4_outBehindAsConsidered_14 (fun a5 e_a5 g_a5 => ?_)
    have q6 : a1 = a5 := (e_a1).trans e_a5.symm
    subst q6
    refine lv_iload_n hx hb dX4_outBehindAsConsidered_17 rfl (lv_at hl 2 rfl) ?_
    refine h_iald (j := p2.toNatClampNeg) (lo := (-1)) (hi := 7) hx hb hK hI g_a1 (by decide) rfl (iv_in (n := 7) h_p2 (by decide) (by decide)) rfl (hI.iv1 (n := 7) g_a1 rfl (in_lt (iv_in (n := 7) h_p2 (by decide) (by decide))) rfl) dX4_outBehindAsConsidered_18 (fun v7 e_v7 i_v7 => ?_)
    have q8 : v2 = v7 := (e_v2).trans e_v7.symm
    subst q8
    refine h_goi hI (by decide) (va_runV (As := [.int v2]) (rest := []) ⟨hx, hb, hml, hown, hts⟩ (h_isKept_X7 l D g σ Z hZ0 M N R b g_b v2) (cwV 1 hts gX4_outBehindAsConsidered_X7_isKept rfl rfl rfl (by decide +kernel) ⟨Nat.le_of_ble_eq_true rfl, Nat.le_of_ble_eq_true rfl⟩) (h_preV hZ0 hK hE hI g_b (by decide) rfl) rfl rfl hl.1 rfl (lv_room (Nat.le_of_ble_eq_true rfl)) dX4_outBehindAsConsidered_19 ⟨Nat.le_of_ble_eq_true rfl, Nat.le_of_ble_eq_true rfl⟩) (fun r9 M10 N11 R12 H locs q13 z_M10 hI => ?_)
    obtain ⟨rfl, rfl, rfl, i_r9, z14, z15⟩ := q13
    refine lv_if_ne (tgt := 29) hx hb dX4_outBehindAsConsidered_22 (by decide) (fun c16 => ?_) (fun c16 => ?_)
    · have i17 := z15 c16
      have i18 : iv r9 1 1 := iv_neL c16 i_r9 (by decide) (by decide)
      refine lv_iconst (v := 0) hx hb dX4_outBehindAsConsidered_29 (by decide) ?_
      have J32 : ∀ (n : Nat) (M_32 : hM) (v4_32 : Int32) (H : Heap) (locs : List Loc) (ls : Array Slot), kI D g σ e_h_outBehindAsConsidered_X4 M s.heap M_32 N R H locs → lv_has ls 5 [(0, .ref a), (1, .ref b), (2, .int p2), (3, .int p3), (4, .int v4_32)] → iv v4_32 0 99 → 100 ≤ v4_32.toInt + (n : Int) → W p l e (headSpec wsX4_outBehindAsConsidered ({ frames := 2, cells := 0, slots := 0, locals := 46 })).room s m ar below meth c H locs 0 0 Q (F0 m 32 ls []) := by
        intro n
        induction n with
        | zero => intro M_32 v4_32 H locs ls hI hl i_v4_32 hn; exfalso; have hz := i_v4_32; simp only [iv] at hz; omega
        | succ n ih32 =>
          intro M_32 v4_32 H locs ls hI hl i_v4_32 hn32
          refine lv_iload hx hb dX4_outBehindAsConsidered_32 (lv_at hl 4 rfl) ?_
          refine lv_iload_n hx hb dX4_outBehindAsConsidered_34 rfl (lv_at hl 3 rfl) ?_
          refine lv_icmp_ge (tgt := 98) hx hb dX4_outBehindAsConsidered_35 (by decide) (fun c19 => ?_) (fun c19 => ?_)
          · refine lv_iload_n hx hb dX4_outBehindAsConsidered_98 rfl (lv_at hl 3 rfl) ?_
            refine lv_iconst (v := 1) hx hb dX4_outBehindAsConsidered_99 (by decide) ?_
            refine lv_iadd hx hb dX4_outBehindAsConsidered_100 ?_
            refine h_nm (lo := 1) (hi := 100) (iv_add h_p3 kc_1 (by decide) (by decide) (by decide) (by decide)) (fun v20 e_v20 i_v20 => ?_)
            exact h_iret hQ hx hb hr hlocks rfl hK hI ⟨rfl, rfl, (iv_w (lo' := 0) (hi' := 100) i_v20 (by decide) (by decide))⟩ dX4_outBehindAsConsidered_101
          · have i21 : iv p3 1 99 := iv_nle1 c19 h_p3 i_v4_32 (by decide)
            have i22 : iv v4_32 0 98 := iv_nle2 c19 h_p3 i_v4_32 (by decide)
            refine lv_aload_n hx hb dX4_outBehindAsConsidered_38 rfl (lv_at hl 0 rfl) ?_
            refine h_getr hx hb hts iX4_outBehindAsConsidered_X4 hown hK hI g_a (by decide) rfl rfl 10 (by decide) rfl 14 rfl (hts (.fieldLink RX4 51 "CatLeases$Mews" "terms" "[I") (List.mem_of_getElem? (i := 2) rfl)) (fun _ h9 => h9) dX4_outBehindAsConsidered_39 (fun a23 e_a23 g_a23 => ?_)
            refine lv_iconst (v := 4) hx hb dX4_outBehindAsConsidered_42 (by decide) ?_
            refine lv_sipush (v := 999) hx hb dX4_outBehindAsConsidered_43 (by decide) ?_
            refine lv_aload_n hx hb dX4_outBehindAsConsidered_46 rfl (lv_at hl 1 rfl) ?_
            refine h_getr hx hb hts iX4_outBehindAsConsidered_X7 hown hK hI g_b (by decide) rfl rfl 2 (by decide) rfl 14 rfl (hts (.fieldLink RX4 74 "CatLeases$State" "stays" "[I") (List.mem_of_getElem? (i := 3) rfl)) (fun _ h9 => h9) dX4_outBehindAsConsidered_47 (fun a24 e_a24 g_a24 => ?_)
            refine lv_iload_n hx hb dX4_outBehindAsConsidered_50 rfl (lv_at hl 2 rfl) ?_
            refine h_iald (j := p2.toNatClampNeg) (lo := (-2147483648)) (hi := 2147483647) hx hb hK hI g_a24 (by decide) rfl (iv_in (n := 7) h_p2 (by decide) (by decide)) rfl (iv_any _) dX4_outBehindAsConsidered_51 (fun v25 e_v25 i_v25 => ?_)
            refine lv_iload hx hb dX4_outBehindAsConsidered_52 (lv_at hl 4 rfl) ?_
            refine lv_iadd hx hb dX4_outBehindAsConsidered_54 ?_
            refine h_nm (lo := (-2147483648)) (hi := 2147483647) (iv_any _) (fun v26 e_v26 i_v26 => ?_)
            refine va_mmin hx hb (hml.trans hl.1.symm) hown (hts (.methodLink RX4 130 Lib.Math.min.name) (List.mem_of_getElem? (i := 4) rfl)) (hts (.static Lib.Math.min.name) (List.mem_of_getElem? (i := 5) rfl)) (hts (.initialized "java/lang/Math") (List.mem_of_getElem? (i := 6) rfl)) (hts (.code Lib.Math.min.name Lib.Math.min.code 2 (some .int)) (List.mem_of_getElem? (i := 7) rfl)) (Nat.le_of_ble_eq_true rfl) (Nat.le_of_ble_eq_true rfl) (Nat.le_of_ble_eq_true rfl) (Nat.le_of_ble_eq_true rfl) dX4_outBehindAsConsidered_55 ?_
            refine h_nm (lo := (-2147483648)) (hi := 999) (iv_min kc_999 i_v26 (by decide) (by decide) (by decide)) (fun v27 e_v27 i_v27 => ?_)
            refine h_iast (j := 4) hx hb hK hI g_a23 (by decide) rfl (iv_in (n := 7) kc_4 (by decide) (by decide)) (by decide) (iv_any _) rfl dX4_outBehindAsConsidered_58 (fun M28 H locs e_M28 hI => ?_)
            refine lv_aload_n hx hb dX4_outBehindAsConsidered_59 rfl (lv_at hl 0 rfl) ?_
            refine h_getr hx hb hts iX4_outBehindAsConsidered_X4 hown hK hI g_a (by decide) rfl rfl 10 (by decide) rfl 14 rfl (hts (.fieldLink RX4 51 "CatLeases$Mews" "terms" "[I") (List.mem_of_getElem? (i := 2) rfl)) (fun _ h9 => h9) dX4_outBehindAsConsidered_60 (fun a29 e_a29 g_a29 => ?_)
            have q30 : a23 = a29 := (e_a23).trans e_a29.symm
            subst q30
            refine lv_bipush (v := 6) hx hb dX4_outBehindAsConsidered_63 (by decide) ?_
            refine lv_aload_n hx hb dX4_outBehindAsConsidered_65 rfl (lv_at hl 1 rfl) ?_
            refine h_geti (lo := (-2147483648)) (hi := 2147483647) hx hb hts iX4_outBehindAsConsidered_X7 hown hK hI g_b (by decide) rfl rfl 6 (by decide) rfl rfl (hts (.fieldLink RX4 81 "CatLeases$State" "quarters" "I") (List.mem_of_getElem? (i := 8) rfl)) (fun _ h9 => h9) dX4_outBehindAsConsidered_66 (fun v31 e_v31 i_v31 => ?_)
            refine lv_iload hx hb dX4_outBehindAsConsidered_69 (lv_at hl 4 rfl) ?_
            refine lv_iadd hx hb dX4_outBehindAsConsidered_71 ?_
            refine h_nm (lo := (-2147483648)) (hi := 2147483647) (iv_any _) (fun v32 e_v32 i_v32 => ?_)
            refine h_iast (j := 6) hx hb hK hI g_a23 (by decide) rfl (iv_in (n := 7) kc_6 (by decide) (by decide)) (by decide) (iv_any _) rfl dX4_outBehindAsConsidered_72 (fun M33 H locs e_M33 hI => ?_)
            refine lv_aload_n hx hb dX4_outBehindAsConsidered_73 rfl (lv_at hl 0 rfl) ?_
            refine h_getr hx hb hts iX4_outBehindAsConsidered_X4 hown hK hI g_a (by decide) rfl rfl 9 (by decide) rfl 2 rfl (hts (.fieldLink RX4 47 "CatLeases$Mews" "formula" "LCatLeases$Formula;") (List.mem_of_getElem? (i := 9) rfl)) (fun _ h9 => h9) dX4_outBehindAsConsidered_74 (fun a34 e_a34 g_a34 => ?_)
            refine lv_aload_n hx hb dX4_outBehindAsConsidered_77 rfl (lv_at hl 0 rfl) ?_
            refine h_getr hx hb hts iX4_outBehindAsConsidered_X4 hown hK hI g_a (by decide) rfl rfl 10 (by decide) rfl 14 rfl (hts (.fieldLink RX4 51 "CatLeases$Mews" "terms" "[I") (List.mem_of_getElem? (i := 2) rfl)) (fun _ h9 => h9) dX4_outBehindAsConsidered_78 (fun a35 e_a35 g_a35 => ?_)
            have q36 : a23 = a35 := (e_a23).trans e_a35.symm
            subst q36
            refine h_goi hI (by decide) (va_runV (As := [.ref a23]) (rest := []) ⟨hx, hb, hml, hown, hts⟩ (h_value_X2 l D g σ Z hZ0 M33 N R a34 g_a34 a23 g_a23) (cwV 1 hts gX4_outBehindAsConsidered_X2_value rfl rfl rfl (by decide +kernel) ⟨Nat.le_of_ble_eq_true rfl, Nat.le_of_ble_eq_true rfl⟩) (h_preV hZ0 hK hE hI g_a34 (by decide) rfl) rfl rfl hl.1 rfl (lv_room (Nat.le_of_ble_eq_true rfl)) dX4_outBehindAsConsidered_81 ⟨Nat.le_of_ble_eq_true rfl, Nat.le_of_ble_eq_true rfl⟩) (fun r37 M38 N39 R40 H locs q41 z_M38 hI => ?_)
            obtain ⟨rfl, rfl⟩ := q41
            refine lv_if_gt (tgt := 92) hx hb dX4_outBehindAsConsidered_84 (by decide) (fun c42 => ?_) (fun c42 => ?_)
            · have i43 : iv r37 1 2147483647 := iv_lt2 c42 kc_0 (iv_any r37) (by decide)
              obtain ⟨v44, e_v44⟩ : ∃ z : Int32, z = v4_32 + Int32.ofInt 1 := ⟨_, rfl⟩
              have i_v44 : iv v44 1 99 := by rw [e_v44]; exact iv_add i22 (ki_1) (by decide) (by decide) (by decide) (by decide)
              refine lv_iinc (v := v44) (lv' := [(4, .int v44), (0, .ref a), (1, .ref b), (2, .int p2), (3, .int p3)]) hx hb dX4_outBehindAsConsidered_92 hl (k := 4) rfl e_v44.symm (by decide) rfl (fun ls hl => ?_)
              refine lv_goto (tgt := 32) hx hb dX4_outBehindAsConsidered_95 (by decide) ?_
              exact ih32 M38 v44 H locs ls hI (lv_sub hl [1, 2, 3, 4, 0] rfl) (iv_w (lo' := 0) (hi' := 99) i_v44 (by decide) (by decide)) (by have h9 := (h_inc e_v44 i22 ki_1 (by decide) (by decide)); omega)
            · have i45 : iv r37 (-2147483648) 0 := iv_nlt2 c42 kc_0 (iv_any r37) (by decide)
              refine lv_iload hx hb dX4_outBehindAsConsidered_87 (lv_at hl 4 rfl) ?_
              refine lv_iconst (v := 1) hx hb dX4_outBehindAsConsidered_89 (by decide) ?_
              refine lv_iadd hx hb dX4_outBehindAsConsidered_90 ?_
              refine h_nm (lo := 1) (hi := 99) (iv_add i22 kc_1 (by decide) (by decide) (by decide) (by decide)) (fun v46 e_v46 i_v46 => ?_)
              exact h_iret hQ hx hb hr hlocks rfl hK hI ⟨rfl, rfl, (iv_w (lo' := 0) (hi' := 100) i_v46 (by decide) (by decide))⟩ dX4_outBehindAsConsidered_91
      refine lv_istore (lv' := [(4, .int (0 : Int32)), (0, .ref a), (1, .ref b), (2, .int p2), (3, .int p3)]) hx hb dX4_outBehindAsConsidered_30 hl (by decide) rfl (fun ls hl => ?_)
      exact J32 100 M (0 : Int32) H locs ls hI (lv_sub hl [1, 2, 3, 4, 0] rfl) (iv_w (lo' := 0) (hi' := 99) kc_0 (by decide) (by decide)) (by have h9 := kc_0; simp only [iv] at h9; omega)
    · have i47 : iv r9 0 0 := iv_eq1 c16 i_r9 kc_0
      refine lv_iload_n hx hb dX4_outBehindAsConsidered_25 rfl (lv_at hl 3 rfl) ?_
      refine lv_iconst (v := 1) hx hb dX4_outBehindAsConsidered_26 (by decide) ?_
      refine lv_iadd hx hb dX4_outBehindAsConsidered_27 ?_
      refine h_nm (lo := 1) (hi := 100) (iv_add h_p3 kc_1 (by decide) (by decide) (by decide) (by decide)) (fun v48 e_v48 i_v48 => ?_)
      exact h_iret hQ hx hb hr hlocks rfl hK hI ⟨rfl, rfl, (iv_w (lo' := 0) (hi' := 100) i_v48 (by decide) (by decide))⟩ dX4_outBehindAsConsidered_28
  · have i49 : iv v2 (-1) (-1) := iv_eq1 c3 i_v2 kc_m1
    refine lv_iconst (v := 0) hx hb dX4_outBehindAsConsidered_10 (by decide) ?_
    exact h_iret hQ hx hb hr hlocks rfl hK hI ⟨rfl, rfl, (iv_w (lo' := 0) (hi' := 100) kc_0 (by decide) (by decide))⟩ dX4_outBehindAsConsidered_11
abbrev e_h_outBehind_X4 : List (Nat × Nat) := [(14, 999), (18, 999)]
set_option maxHeartbeats 4000000 in
set_option maxRecDepth 100000 in
theorem h_outBehind_X4 (l : Launch) (D : va_G) (g : Nat → ClassId) (σ : Nat → Option Nat) (Z : State → Heap → Prop) (hZ0 : hZ σ Z) (M : hM) (N : hN) (R : hR) (a : Nat) (g_a : σ a = some 4) (b : Nat) (g_b : σ b = some 7) (p2 : Int32) (h_p2 : iv p2 0 6) (p3 : Int32) (h_p3 : iv p3 0 99) : Met l yX4_outBehind wsX4_outBehind ({ frames := 3, cells := 0, slots := 0, locals := 70 }) (va_Pc [.ref a, .ref b, .int p2, .int p3] (hPre D g σ Z M N R)) (hQi D g σ e_h_outBehind_X4 M (fun (r : Int32) (M1 : hM) (N1 : hN) (R1 : hR) => N = N1 ∧ R = R1 ∧ iv r 0 100)) 0 0 (hA σ) := by
  refine h_head (cc := cX4_outBehind) (maxL := 4) (ret := (some .int)) (by decide) rfl (Nat.le_of_ble_eq_true rfl) e_h_outBehind_X4 ?_
  intro p e s m below meth c ls Q ar hQ hx hb hr hlocks hml hown hts hK hE H locs hI hl
  have hown : s.vm.findClass RX4 = some m.cls := hown
  have hl : lv_has ls 4 [(0, .ref a), (1, .ref b), (2, .int p2), (3, .int p3)] := hl
  refine lv_aload_n hx hb dX4_outBehind_0 rfl (lv_at hl 0 rfl) ?_
  refine lv_aload_n hx hb dX4_outBehind_1 rfl (lv_at hl 1 rfl) ?_
  refine lv_iload_n hx hb dX4_outBehind_2 rfl (lv_at hl 2 rfl) ?_
  refine lv_aload_n hx hb dX4_outBehind_3 rfl (lv_at hl 1 rfl) ?_
  refine h_getr hx hb hts iX4_outBehind_X7 hown hK hI g_b (by decide) rfl rfl 1 (by decide) rfl 13 rfl (hts (.fieldLink RX4 61 "CatLeases$State" "places" "[I") (List.mem_of_getElem? (i := 1) rfl)) (fun _ h9 => h9) dX4_outBehind_4 (fun a1 e_a1 g_a1 => ?_)
  refine lv_iload_n hx hb dX4_outBehind_7 rfl (lv_at hl 2 rfl) ?_
  refine h_iald (j := p2.toNatClampNeg) (lo := (-1)) (hi := 7) hx hb hK hI g_a1 (by decide) rfl (iv_in (n := 7) h_p2 (by decide) (by decide)) rfl (hI.iv1 (n := 7) g_a1 rfl (in_lt (iv_in (n := 7) h_p2 (by decide) (by decide))) rfl) dX4_outBehind_8 (fun v2 e_v2 i_v2 => ?_)
  refine h_gov hI (by decide) (va_runV (As := [.ref b, .int p2, .int v2]) (rest := []) ⟨hx, hb, hml, hown, hts⟩ (h_consider_X4 l D g σ Z hZ0 M N R a g_a b g_b p2 v2) (cwV 3 hts gX4_outBehind_X4_consider rfl rfl rfl (by decide +kernel) ⟨Nat.le_of_ble_eq_true rfl, Nat.le_of_ble_eq_true rfl⟩) (h_preV hZ0 hK hE hI g_a (by decide) rfl) rfl rfl hl.1 rfl (lv_room (Nat.le_of_ble_eq_true rfl)) dX4_outBehind_9 ⟨Nat.le_of_ble_eq_true rfl, Nat.le_of_ble_eq_true rfl⟩) (fun M4 N5 R6 H locs q7 z_M4 hI => ?_)
  obtain ⟨rfl, rfl⟩ := q7
  refine lv_aload_n hx hb dX4_outBehind_12 rfl (lv_at hl 0 rfl) ?_
  refine lv_aload_n hx hb dX4_outBehind_13 rfl (lv_at hl 1 rfl) ?_
  refine lv_iload_n hx hb dX4_outBehind_14 rfl (lv_at hl 2 rfl) ?_
  refine lv_iload_n hx hb dX4_outBehind_15 rfl (lv_at hl 3 rfl) ?_
  refine h_goi hI (by decide) (va_runV (As := [.ref b, .int p2, .int p3]) (rest := []) ⟨hx, hb, hml, hown, hts⟩ (h_outBehindAsConsidered_X4 l D g σ Z hZ0 M4 N R a g_a b g_b p2 h_p2 p3 h_p3) (cwV 3 hts gX4_outBehind_X4_outBehindAsConsidered rfl rfl rfl (by decide +kernel) ⟨Nat.le_of_ble_eq_true rfl, Nat.le_of_ble_eq_true rfl⟩) (h_preV hZ0 hK hE hI g_a (by decide) rfl) rfl rfl hl.1 rfl (lv_room (Nat.le_of_ble_eq_true rfl)) dX4_outBehind_16 ⟨Nat.le_of_ble_eq_true rfl, Nat.le_of_ble_eq_true rfl⟩) (fun r8 M9 N10 R11 H locs q12 z_M9 hI => ?_)
  obtain ⟨rfl, rfl, i_r8⟩ := q12
  exact h_iret hQ hx hb hr hlocks rfl hK hI ⟨rfl, rfl, i_r8⟩ dX4_outBehind_19
abbrev e_h_outBehindAtWants_X4 : List (Nat × Nat) := [(14, 999), (18, 999)]
set_option maxHeartbeats 4000000 in
set_option maxRecDepth 100000 in
theorem h_outBehindAtWants_X4 (l : Launch) (D : va_G) (g : Nat → ClassId) (σ : Nat → Option Nat) (Z : State → Heap → Prop) (hZ0 : hZ σ Z) (M : hM) (N : hN) (R : hR) (a : Nat) (g_a : σ a = some 4) (b : Nat) (g_b : σ b = some 7) (p2 : Int32) (h_p2 : iv p2 0 6) (p3 : Int32) (p4 : Int32) (h_p4 : iv p4 0 99) : Met l yX4_outBehindAtWants wsX4_outBehindAtWants ({ frames := 3, cells := 0, slots := 0, locals := 70 }) (va_Pc [.ref a, .ref b, .int p2, .int p3, .int p4] (hPre D g σ Z M N R)) (hQi D g σ e_h_outBehindAtWants_X4 M (fun (r : Int32) (M1 : hM) (N1 : hN) (R1 : hR) => N = N1 ∧ R = R1 ∧ iv r 0 100)) 0 0 (hA σ) := by
  refine h_head (cc := cX4_outBehindAtWants) (maxL := 5) (ret := (some .int)) (by decide) rfl (Nat.le_of_ble_eq_true rfl) e_h_outBehindAtWants_X4 ?_
  intro p e s m below meth c ls Q ar hQ hx hb hr hlocks hml hown hts hK hE H locs hI hl
  have hown : s.vm.findClass RX4 = some m.cls := hown
  have hl : lv_has ls 5 [(0, .ref a), (1, .ref b), (2, .int p2), (3, .int p3), (4, .int p4)] := hl
  refine lv_aload_n hx hb dX4_outBehindAtWants_0 rfl (lv_at hl 0 rfl) ?_
  refine lv_aload_n hx hb dX4_outBehindAtWants_1 rfl (lv_at hl 1 rfl) ?_
  refine lv_iload_n hx hb dX4_outBehindAtWants_2 rfl (lv_at hl 2 rfl) ?_
  refine lv_aload_n hx hb dX4_outBehindAtWants_3 rfl (lv_at hl 1 rfl) ?_
  refine h_getr hx hb hts iX4_outBehindAtWants_X7 hown hK hI g_b (by decide) rfl rfl 1 (by decide) rfl 13 rfl (hts (.fieldLink RX4 61 "CatLeases$State" "places" "[I") (List.mem_of_getElem? (i := 1) rfl)) (fun _ h9 => h9) dX4_outBehindAtWants_4 (fun a1 e_a1 g_a1 => ?_)
  refine lv_iload_n hx hb dX4_outBehindAtWants_7 rfl (lv_at hl 2 rfl) ?_
  refine h_iald (j := p2.toNatClampNeg) (lo := (-1)) (hi := 7) hx hb hK hI g_a1 (by decide) rfl (iv_in (n := 7) h_p2 (by decide) (by decide)) rfl (hI.iv1 (n := 7) g_a1 rfl (in_lt (iv_in (n := 7) h_p2 (by decide) (by decide))) rfl) dX4_outBehindAtWants_8 (fun v2 e_v2 i_v2 => ?_)
  refine h_gov hI (by decide) (va_runV (As := [.ref b, .int p2, .int v2]) (rest := []) ⟨hx, hb, hml, hown, hts⟩ (h_consider_X4 l D g σ Z hZ0 M N R a g_a b g_b p2 v2) (cwV 3 hts gX4_outBehindAtWants_X4_consider rfl rfl rfl (by decide +kernel) ⟨Nat.le_of_ble_eq_true rfl, Nat.le_of_ble_eq_true rfl⟩) (h_preV hZ0 hK hE hI g_a (by decide) rfl) rfl rfl hl.1 rfl (lv_room (Nat.le_of_ble_eq_true rfl)) dX4_outBehindAtWants_9 ⟨Nat.le_of_ble_eq_true rfl, Nat.le_of_ble_eq_true rfl⟩) (fun M4 N5 R6 H locs q7 z_M4 hI => ?_)
  obtain ⟨rfl, rfl⟩ := q7
  refine lv_aload_n hx hb dX4_outBehindAtWants_12 rfl (lv_at hl 0 rfl) ?_
  refine h_getr hx hb hts iX4_outBehindAtWants_X4 hown hK hI g_a (by decide) rfl rfl 10 (by decide) rfl 14 rfl (hts (.fieldLink RX4 51 "CatLeases$Mews" "terms" "[I") (List.mem_of_getElem? (i := 2) rfl)) (fun _ h9 => h9) dX4_outBehindAtWants_13 (fun a8 e_a8 g_a8 => ?_)
  refine lv_iconst (v := 1) hx hb dX4_outBehindAtWants_16 (by decide) ?_
  refine lv_iload_n hx hb dX4_outBehindAtWants_17 rfl (lv_at hl 3 rfl) ?_
  refine h_iast (j := 1) hx hb hK hI g_a8 (by decide) rfl (iv_in (n := 7) kc_1 (by decide) (by decide)) (by decide) (iv_any _) rfl dX4_outBehindAtWants_18 (fun M9 H locs e_M9 hI => ?_)
  refine lv_aload_n hx hb dX4_outBehindAtWants_19 rfl (lv_at hl 0 rfl) ?_
  refine lv_aload_n hx hb dX4_outBehindAtWants_20 rfl (lv_at hl 1 rfl) ?_
  refine lv_iload_n hx hb dX4_outBehindAtWants_21 rfl (lv_at hl 2 rfl) ?_
  refine lv_iload hx hb dX4_outBehindAtWants_22 (lv_at hl 4 rfl) ?_
  refine h_goi hI (by decide) (va_runV (As := [.ref b, .int p2, .int p4]) (rest := []) ⟨hx, hb, hml, hown, hts⟩ (h_outBehindAsConsidered_X4 l D g σ Z hZ0 M9 N R a g_a b g_b p2 h_p2 p4 h_p4) (cwV 3 hts gX4_outBehindAtWants_X4_outBehindAsConsidered rfl rfl rfl (by decide +kernel) ⟨Nat.le_of_ble_eq_true rfl, Nat.le_of_ble_eq_true rfl⟩) (h_preV hZ0 hK hE hI g_a (by decide) rfl) rfl rfl hl.1 rfl (lv_room (Nat.le_of_ble_eq_true rfl)) dX4_outBehindAtWants_24 ⟨Nat.le_of_ble_eq_true rfl, Nat.le_of_ble_eq_true rfl⟩) (fun r10 M11 N12 R13 H locs q14 z_M11 hI => ?_)
  obtain ⟨rfl, rfl, i_r10⟩ := q14
  exact h_iret hQ hx hb hr hlocks rfl hK hI ⟨rfl, rfl, i_r10⟩ dX4_outBehindAtWants_27
abbrev e_h_withRoom_X3 : List (Nat × Nat) := []
set_option maxHeartbeats 4000000 in
set_option maxRecDepth 100000 in
theorem h_withRoom_X3 (l : Launch) (D : va_G) (g : Nat → ClassId) (σ : Nat → Option Nat) (Z : State → Heap → Prop) (hZ0 : hZ σ Z) (M : hM) (N : hN) (R : hR) (a : Nat) (g_a : σ a = some 3) (p1 : Int32) (h_p1 : iv p1 0 6) (p2 : Int32) (h_p2 : iv p2 0 255) (p3 : Int32) (h_p3 : iv p3 0 7) : Met l yX3_withRoom wsX3_withRoom ({ frames := 0, cells := 0, slots := 0, locals := 0 }) (va_Pc [.ref a, .int p1, .int p2, .int p3] (hPre D g σ Z M N R)) (hQi D g σ e_h_withRoom_X3 M (fun (r : Int32) (M1 : hM) (N1 : hN) (R1 : hR) => M = M1 ∧ N = N1 ∧ R = R1)) 0 0 (hA σ) := by
  refine h_head (cc := cX3_withRoom) (maxL := 5) (ret := (some .int)) (by decide) rfl (Nat.le_of_ble_eq_true rfl) e_h_withRoom_X3 ?_
  intro p e s m below meth c ls Q ar hQ hx hb hr hlocks hml hown hts hK hE H locs hI hl
  have hown : s.vm.findClass RX3 = some m.cls := hown
  have hl : lv_has ls 5 [(0, .ref a), (1, .int p1), (2, .int p2), (3, .int p3)] := hl
  refine lv_aload_n hx hb dX3_withRoom_0 rfl (lv_at hl 0 rfl) ?_
  refine h_getr hx hb hts iX3_withRoom_X3 hown hK hI g_a (by decide) rfl rfl 0 (by decide) rfl 28 rfl (hts (.fieldLink RX3 9 "CatLeases$Letting" "worths" "[I") (List.mem_of_getElem? (i := 1) rfl)) (fun _ h9 => h9) dX3_withRoom_1 (fun a1 e_a1 g_a1 => ?_)
  refine lv_iload_n hx hb dX3_withRoom_4 rfl (lv_at hl 1 rfl) ?_
  refine lv_bipush (v := 8) hx hb dX3_withRoom_5 (by decide) ?_
  refine lv_imul hx hb dX3_withRoom_7 ?_
  refine h_nm (lo := 0) (hi := 48) (iv_mul h_p1 kc_8 (by decide) (by decide) (by decide) (by decide) (by decide)) (fun v2 e_v2 i_v2 => ?_)
  refine lv_iload_n hx hb dX3_withRoom_8 rfl (lv_at hl 3 rfl) ?_
  refine lv_iadd hx hb dX3_withRoom_9 ?_
  refine h_nm (lo := 0) (hi := 55) (iv_add i_v2 h_p3 (by decide) (by decide) (by decide) (by decide)) (fun v3 e_v3 i_v3 => ?_)
  refine h_iald (j := v3.toNatClampNeg) (lo := (-2147483648)) (hi := 2147483647) hx hb hK hI g_a1 (by decide) rfl (iv_in (n := 56) i_v3 (by decide) (by decide)) rfl (iv_any _) dX3_withRoom_10 (fun v4 e_v4 i_v4 => ?_)
  refine lv_istore (lv' := [(4, .int v4), (0, .ref a), (1, .int p1), (2, .int p2), (3, .int p3)]) hx hb dX3_withRoom_11 hl (by decide) rfl (fun ls hl => ?_)
  refine lv_iload hx hb dX3_withRoom_13 (lv_at hl 0 rfl) ?_
  refine lv_if_eq (tgt := 26) hx hb dX3_withRoom_15 (by decide) (fun c5 => ?_) (fun c5 => ?_)
  · have i6 : iv v4 0 0 := iv_eq1 c5 i_v4 kc_0
    refine lv_iconst (v := (-1)) hx hb dX3_withRoom_26 (by decide) ?_
    exact h_iret hQ hx hb hr hlocks rfl hK hI ⟨rfl, rfl, rfl⟩ dX3_withRoom_27
  · refine lv_iload_n hx hb dX3_withRoom_18 rfl (lv_at hl 3 rfl) ?_
    refine lv_iload_n hx hb dX3_withRoom_19 rfl (lv_at hl 4 rfl) ?_
    refine lv_ishr hx hb dX3_withRoom_20 ?_
    refine h_nm (lo := (-2147483648)) (hi := 2147483647) (iv_any _) (fun v7 e_v7 i_v7 => ?_)
    refine lv_iconst (v := 1) hx hb dX3_withRoom_21 (by decide) ?_
    refine lv_iand hx hb dX3_withRoom_22 ?_
    refine h_nm (lo := 0) (hi := 1) (iv_and 1 (by decide) (by decide) (by decide)) (fun v8 e_v8 i_v8 => ?_)
    refine lv_if_eq (tgt := 28) hx hb dX3_withRoom_23 (by decide) (fun c9 => ?_) (fun c9 => ?_)
    · have i10 : iv v8 0 0 := iv_eq1 c9 i_v8 kc_0
      refine lv_aload_n hx hb dX3_withRoom_28 rfl (lv_at hl 1 rfl) ?_
      refine h_getr hx hb hts iX3_withRoom_X3 hown hK hI g_a (by decide) rfl rfl 1 (by decide) rfl 29 rfl (hts (.fieldLink RX3 15 "CatLeases$Letting" "best" "[I") (List.mem_of_getElem? (i := 2) rfl)) (fun _ h9 => h9) dX3_withRoom_29 (fun a11 e_a11 g_a11 => ?_)
      refine lv_iload_n hx hb dX3_withRoom_32 rfl (lv_at hl 2 rfl) ?_
      refine lv_iconst (v := 1) hx hb dX3_withRoom_33 (by decide) ?_
      refine lv_iadd hx hb dX3_withRoom_34 ?_
      refine h_nm (lo := 1) (hi := 7) (iv_add h_p1 kc_1 (by decide) (by decide) (by decide) (by decide)) (fun v12 e_v12 i_v12 => ?_)
      refine lv_sipush (v := 256) hx hb dX3_withRoom_35 (by decide) ?_
      refine lv_imul hx hb dX3_withRoom_38 ?_
      refine h_nm (lo := 256) (hi := 1792) (iv_mul i_v12 kc_256 (by decide) (by decide) (by decide) (by decide) (by decide)) (fun v13 e_v13 i_v13 => ?_)
      refine lv_iload_n hx hb dX3_withRoom_39 rfl (lv_at hl 3 rfl) ?_
      refine lv_iconst (v := 1) hx hb dX3_withRoom_40 (by decide) ?_
      refine lv_iload_n hx hb dX3_withRoom_41 rfl (lv_at hl 4 rfl) ?_
      refine lv_ishl hx hb dX3_withRoom_42 ?_
      refine h_nm (lo := 1) (hi := 128) (iv_shl1 7 h_p3 (by decide) (by decide) (by decide) (by decide) (by decide)) (fun v14 e_v14 i_v14 => ?_)
      refine lv_ior hx hb dX3_withRoom_43 ?_
      refine h_nm (lo := 0) (hi := 255) (iv_or 8 h_p2 i_v14 (by decide) (by decide) (by decide) (by decide) (by decide) (by decide)) (fun v15 e_v15 i_v15 => ?_)
      refine lv_iadd hx hb dX3_withRoom_44 ?_
      refine h_nm (lo := 256) (hi := 2047) (iv_add i_v13 i_v15 (by decide) (by decide) (by decide) (by decide)) (fun v16 e_v16 i_v16 => ?_)
      refine h_iald (j := v16.toNatClampNeg) (lo := (-2147483648)) (hi := 2147483647) hx hb hK hI g_a11 (by decide) rfl (iv_in (n := 2048) i_v16 (by decide) (by decide)) rfl (iv_any _) dX3_withRoom_45 (fun v17 e_v17 i_v17 => ?_)
      refine lv_ldc (v := 100000) hx hb hown (hts (.constant RX3 59 (100000)) (List.mem_of_getElem? (i := 3) rfl)) dX3_withRoom_46 ?_
      refine lv_iadd hx hb dX3_withRoom_48 ?_
      refine h_nm (lo := (-2147483648)) (hi := 2147483647) (iv_any _) (fun v18 e_v18 i_v18 => ?_)
      refine lv_iload hx hb dX3_withRoom_49 (lv_at hl 0 rfl) ?_
      refine lv_iadd hx hb dX3_withRoom_51 ?_
      refine h_nm (lo := (-2147483648)) (hi := 2147483647) (iv_any _) (fun v19 e_v19 i_v19 => ?_)
      exact h_iret hQ hx hb hr hlocks rfl hK hI ⟨rfl, rfl, rfl⟩ dX3_withRoom_52
    · have i20 : iv v8 1 1 := iv_neL c9 i_v8 (by decide) (by decide)
      refine lv_iconst (v := (-1)) hx hb dX3_withRoom_26 (by decide) ?_
      exact h_iret hQ hx hb hr hlocks rfl hK hI ⟨rfl, rfl, rfl⟩ dX3_withRoom_27
abbrev e_h_bestFor_X3 : List (Nat × Nat) := []
set_option maxHeartbeats 4000000 in
set_option maxRecDepth 100000 in
theorem h_bestFor_X3 (l : Launch) (D : va_G) (g : Nat → ClassId) (σ : Nat → Option Nat) (Z : State → Heap → Prop) (hZ0 : hZ σ Z) (M : hM) (N : hN) (R : hR) (a : Nat) (g_a : σ a = some 3) (p1 : Int32) (h_p1 : iv p1 0 6) (p2 : Int32) (h_p2 : iv p2 0 255) : Met l yX3_bestFor wsX3_bestFor ({ frames := 1, cells := 0, slots := 0, locals := 24 }) (va_Pc [.ref a, .int p1, .int p2] (hPre D g σ Z M N R)) (hQi D g σ e_h_bestFor_X3 M (fun (r : Int32) (M1 : hM) (N1 : hN) (R1 : hR) => M = M1 ∧ N = N1 ∧ R = R1)) 0 0 (hA σ) := by
  refine h_head (cc := cX3_bestFor) (maxL := 5) (ret := (some .int)) (by decide) rfl (Nat.le_of_ble_eq_true rfl) e_h_bestFor_X3 ?_
  intro p e s m below meth c ls Q ar hQ hx hb hr hlocks hml hown hts hK hE H locs hI hl
  have hown : s.vm.findClass RX3 = some m.cls := hown
  have hl : lv_has ls 5 [(0, .ref a), (1, .int p1), (2, .int p2)] := hl
  refine lv_aload_n hx hb dX3_bestFor_0 rfl (lv_at hl 0 rfl) ?_
  refine h_getr hx hb hts iX3_bestFor_X3 hown hK hI g_a (by decide) rfl rfl 1 (by decide) rfl 29 rfl (hts (.fieldLink RX3 15 "CatLeases$Letting" "best" "[I") (List.mem_of_getElem? (i := 1) rfl)) (fun _ h9 => h9) dX3_bestFor_1 (fun a1 e_a1 g_a1 => ?_)
  refine lv_iload_n hx hb dX3_bestFor_4 rfl (lv_at hl 1 rfl) ?_
  refine lv_iconst (v := 1) hx hb dX3_bestFor_5 (by decide) ?_
  refine lv_iadd hx hb dX3_bestFor_6 ?_
  refine h_nm (lo := 1) (hi := 7) (iv_add h_p1 kc_1 (by decide) (by decide) (by decide) (by decide)) (fun v2 e_v2 i_v2 => ?_)
  refine lv_sipush (v := 256) hx hb dX3_bestFor_7 (by decide) ?_
  refine lv_imul hx hb dX3_bestFor_10 ?_
  refine h_nm (lo := 256) (hi := 1792) (iv_mul i_v2 kc_256 (by decide) (by decide) (by decide) (by decide) (by decide)) (fun v3 e_v3 i_v3 => ?_)
  refine lv_iload_n hx hb dX3_bestFor_11 rfl (lv_at hl 2 rfl) ?_
  refine lv_iadd hx hb dX3_bestFor_12 ?_
  refine h_nm (lo := 256) (hi := 2047) (iv_add i_v3 h_p2 (by decide) (by decide) (by decide) (by decide)) (fun v4 e_v4 i_v4 => ?_)
  refine h_iald (j := v4.toNatClampNeg) (lo := (-2147483648)) (hi := 2147483647) hx hb hK hI g_a1 (by decide) rfl (iv_in (n := 2048) i_v4 (by decide) (by decide)) rfl (iv_any _) dX3_bestFor_13 (fun v5 e_v5 i_v5 => ?_)
  refine lv_istore_n (lv' := [(3, .int v5), (0, .ref a), (1, .int p1), (2, .int p2)]) hx hb dX3_bestFor_14 rfl hl (by decide) rfl (fun ls hl => ?_)
  refine lv_iconst (v := 0) hx hb dX3_bestFor_15 (by decide) ?_
  have J18 : ∀ (n : Nat) (v3_18 : Int32) (v4_18 : Int32) (H : Heap) (locs : List Loc) (ls : Array Slot), kI D g σ e_h_bestFor_X3 M s.heap M N R H locs → lv_has ls 5 [(0, .ref a), (1, .int p1), (2, .int p2), (3, .int v3_18), (4, .int v4_18)] → iv v4_18 0 8 → 9 ≤ v4_18.toInt + (n : Int) → W p l e (headSpec wsX3_bestFor ({ frames := 1, cells := 0, slots := 0, locals := 24 })).room s m ar below meth c H locs 0 0 Q (F0 m 18 ls []) := by
    intro n
    induction n with
    | zero => intro v3_18 v4_18 H locs ls hI hl i_v4_18 hn; exfalso; have hz := i_v4_18; simp only [iv] at hz; omega
    | succ n ih18 =>
      intro v3_18 v4_18 H locs ls hI hl i_v4_18 hn18
      refine lv_iload hx hb dX3_bestFor_18 (lv_at hl 4 rfl) ?_
      refine lv_aload_n hx hb dX3_bestFor_20 rfl (lv_at hl 0 rfl) ?_
      refine h_geti (lo := 0) (hi := 8) hx hb hts iX3_bestFor_X3 hown hK hI g_a (by decide) rfl rfl 3 (by decide) rfl rfl (hts (.fieldLink RX3 22 "CatLeases$Letting" "rooms" "I") (List.mem_of_getElem? (i := 2) rfl)) (fun _ h9 => h9) dX3_bestFor_21 (fun v6 e_v6 i_v6 => ?_)
      refine lv_icmp_ge (tgt := 46) hx hb dX3_bestFor_24 (by decide) (fun c7 => ?_) (fun c7 => ?_)
      · refine lv_iload_n hx hb dX3_bestFor_46 rfl (lv_at hl 3 rfl) ?_
        exact h_iret hQ hx hb hr hlocks rfl hK hI ⟨rfl, rfl, rfl⟩ dX3_bestFor_47
      · have i8 : iv v6 1 8 := iv_nle1 c7 i_v6 i_v4_18 (by decide)
        have i9 : iv v4_18 0 7 := iv_nle2 c7 i_v6 i_v4_18 (by decide)
        refine lv_iload_n hx hb dX3_bestFor_27 rfl (lv_at hl 3 rfl) ?_
        refine lv_aload_n hx hb dX3_bestFor_28 rfl (lv_at hl 0 rfl) ?_
        refine lv_iload_n hx hb dX3_bestFor_29 rfl (lv_at hl 1 rfl) ?_
        refine lv_iload_n hx hb dX3_bestFor_30 rfl (lv_at hl 2 rfl) ?_
        refine lv_iload hx hb dX3_bestFor_31 (lv_at hl 4 rfl) ?_
        refine h_goi hI (by decide) (va_runV (As := [.int p1, .int p2, .int v4_18]) (rest := [.int v3_18]) ⟨hx, hb, hml, hown, hts⟩ (h_withRoom_X3 l D g σ Z hZ0 M N R a g_a p1 h_p1 p2 h_p2 v4_18 i9) (cwV 3 hts gX3_bestFor_X3_withRoom rfl rfl rfl (by decide +kernel) ⟨Nat.le_of_ble_eq_true rfl, Nat.le_of_ble_eq_true rfl⟩) (h_preV hZ0 hK hE hI g_a (by decide) rfl) rfl rfl hl.1 rfl (lv_room (Nat.le_of_ble_eq_true rfl)) dX3_bestFor_33 ⟨Nat.le_of_ble_eq_true rfl, Nat.le_of_ble_eq_true rfl⟩) (fun r10 M11 N12 R13 H locs q14 z_M11 hI => ?_)
        obtain ⟨rfl, rfl, rfl⟩ := q14
        refine va_mmax hx hb (hml.trans hl.1.symm) hown (hts (.methodLink RX3 52 Lib.Math.max.name) (List.mem_of_getElem? (i := 3) rfl)) (hts (.static Lib.Math.max.name) (List.mem_of_getElem? (i := 4) rfl)) (hts (.initialized "java/lang/Math") (List.mem_of_getElem? (i := 5) rfl)) (hts (.code Lib.Math.max.name Lib.Math.max.code 2 (some .int)) (List.mem_of_getElem? (i := 6) rfl)) (Nat.le_of_ble_eq_true rfl) (Nat.le_of_ble_eq_true rfl) (Nat.le_of_ble_eq_true rfl) (Nat.le_of_ble_eq_true rfl) dX3_bestFor_36 ?_
        refine h_nm (lo := (-2147483648)) (hi := 2147483647) (iv_max (iv_any v3_18) (iv_any r10) (by decide) (by decide) (by decide)) (fun v15 e_v15 i_v15 => ?_)
        refine lv_istore_n (lv' := [(3, .int v15), (0, .ref a), (1, .int p1), (2, .int p2), (4, .int v4_18)]) hx hb dX3_bestFor_39 rfl hl (by decide) rfl (fun ls hl => ?_)
        obtain ⟨v16, e_v16⟩ : ∃ z : Int32, z = v4_18 + Int32.ofInt 1 := ⟨_, rfl⟩
        have i_v16 : iv v16 1 8 := by rw [e_v16]; exact iv_add i9 (ki_1) (by decide) (by decide) (by decide) (by decide)
        refine lv_iinc (v := v16) (lv' := [(4, .int v16), (3, .int v15), (0, .ref a), (1, .int p1), (2, .int p2)]) hx hb dX3_bestFor_40 hl (k := 4) rfl e_v16.symm (by decide) rfl (fun ls hl => ?_)
        refine lv_goto (tgt := 18) hx hb dX3_bestFor_43 (by decide) ?_
        exact ih18 v15 v16 H locs ls hI (lv_sub hl [2, 3, 4, 1, 0] rfl) (iv_w (lo' := 0) (hi' := 8) i_v16 (by decide) (by decide)) (by have h9 := (h_inc e_v16 i9 ki_1 (by decide) (by decide)); omega)
  refine lv_istore (lv' := [(4, .int (0 : Int32)), (3, .int v5), (0, .ref a), (1, .int p1), (2, .int p2)]) hx hb dX3_bestFor_16 hl (by decide) rfl (fun ls hl => ?_)
  exact J18 9 v5 (0 : Int32) H locs ls hI (lv_sub hl [2, 3, 4, 1, 0] rfl) (iv_w (lo' := 0) (hi' := 8) kc_0 (by decide) (by decide)) (by have h9 := kc_0; simp only [iv] at h9; omega)
abbrev e_h_weigh_X3 : List (Nat × Nat) := [(14, 999), (18, 999), (28, 999)]
set_option maxHeartbeats 4000000 in
set_option maxRecDepth 100000 in
theorem h_weigh_X3 (l : Launch) (D : va_G) (g : Nat → ClassId) (σ : Nat → Option Nat) (Z : State → Heap → Prop) (hZ0 : hZ σ Z) (M : hM) (N : hN) (R : hR) (a : Nat) (g_a : σ a = some 3) (b : Nat) (g_b : σ b = some 4) (d1 : Nat) (g_d1 : σ d1 = some 7) : Met l yX3_weigh wsX3_weigh ({ frames := 3, cells := 0, slots := 0, locals := 70 }) (va_Pc [.ref a, .ref b, .ref d1] (hPre D g σ Z M N R)) (hQv D g σ e_h_weigh_X3 M (fun (M1 : hM) (N1 : hN) (R1 : hR) => N = N1 ∧ R = R1)) 0 0 (hA σ) := by
  refine h_head (cc := cX3_weigh) (maxL := 6) (ret := none) (by decide) rfl (Nat.le_of_ble_eq_true rfl) e_h_weigh_X3 ?_
  intro p e s m below meth c ls Q ar hQ hx hb hr hlocks hml hown hts hK hE H locs hI hl
  have hown : s.vm.findClass RX3 = some m.cls := hown
  have hl : lv_has ls 6 [(0, .ref a), (1, .ref b), (2, .ref d1)] := hl
  refine lv_iconst (v := 0) hx hb dX3_weigh_0 (by decide) ?_
  have J2 : ∀ (n : Nat) (M_2 : hM) (v3_2 : Int32) (H : Heap) (locs : List Loc) (ls : Array Slot), kI D g σ e_h_weigh_X3 M s.heap M_2 N R H locs → lv_has ls 6 [(0, .ref a), (1, .ref b), (2, .ref d1), (3, .int v3_2)] → iv v3_2 0 7 → 8 ≤ v3_2.toInt + (n : Int) → W p l e (headSpec wsX3_weigh ({ frames := 3, cells := 0, slots := 0, locals := 70 })).room s m ar below meth c H locs 0 0 Q (F0 m 2 ls []) := by
    intro n
    induction n with
    | zero => intro M_2 v3_2 H locs ls hI hl i_v3_2 hn; exfalso; have hz := i_v3_2; simp only [iv] at hz; omega
    | succ n ih2 =>
      intro M_2 v3_2 H locs ls hI hl i_v3_2 hn2
      refine lv_iload_n hx hb dX3_weigh_2 rfl (lv_at hl 3 rfl) ?_
      refine lv_aload_n hx hb dX3_weigh_3 rfl (lv_at hl 0 rfl) ?_
      refine h_geti (lo := 0) (hi := 7) hx hb hts iX3_weigh_X3 hown hK hI g_a (by decide) rfl rfl 2 (by decide) rfl rfl (hts (.fieldLink RX3 18 "CatLeases$Letting" "tenants" "I") (List.mem_of_getElem? (i := 1) rfl)) (fun _ h9 => h9) dX3_weigh_4 (fun v1 e_v1 i_v1 => ?_)
      refine lv_icmp_ge (tgt := 81) hx hb dX3_weigh_7 (by decide) (fun c2 => ?_) (fun c2 => ?_)
      · exact h_vret hQ hx hb hr hlocks hK hI ⟨rfl, rfl⟩ dX3_weigh_81
      · have i3 : iv v1 1 7 := iv_nle1 c2 i_v1 i_v3_2 (by decide)
        have i4 : iv v3_2 0 6 := iv_nle2 c2 i_v1 i_v3_2 (by decide)
        refine lv_iconst (v := 0) hx hb dX3_weigh_10 (by decide) ?_
        have J13 : ∀ (n : Nat) (M_13 : hM) (v4_13 : Int32) (H : Heap) (locs : List Loc) (ls : Array Slot), kI D g σ e_h_weigh_X3 M s.heap M_13 N R H locs → lv_has ls 6 [(0, .ref a), (1, .ref b), (2, .ref d1), (3, .int v3_2), (4, .int v4_13)] → v1 = M_13 a 2 → iv v4_13 0 8 → 9 ≤ v4_13.toInt + (n : Int) → W p l e (headSpec wsX3_weigh ({ frames := 3, cells := 0, slots := 0, locals := 70 })).room s m ar below meth c H locs 0 0 Q (F0 m 13 ls []) := by
          intro n
          induction n with
          | zero => intro M_13 v4_13 H locs ls hI hl k0_13 i_v4_13 hn; exfalso; have hz := i_v4_13; simp only [iv] at hz; omega
          | succ n ih13 =>
            intro M_13 v4_13 H locs ls hI hl k0_13 i_v4_13 hn13
            refine lv_iload hx hb dX3_weigh_13 (lv_at hl 4 rfl) ?_
            refine lv_aload_n hx hb dX3_weigh_15 rfl (lv_at hl 0 rfl) ?_
            refine h_geti (lo := 0) (hi := 8) hx hb hts iX3_weigh_X3 hown hK hI g_a (by decide) rfl rfl 3 (by decide) rfl rfl (hts (.fieldLink RX3 22 "CatLeases$Letting" "rooms" "I") (List.mem_of_getElem? (i := 2) rfl)) (fun _ h9 => h9) dX3_weigh_16 (fun v5 e_v5 i_v5 => ?_)
            refine lv_icmp_ge (tgt := 75) hx hb dX3_weigh_19 (by decide) (fun c6 => ?_) (fun c6 => ?_)
            · obtain ⟨v7, e_v7⟩ : ∃ z : Int32, z = v3_2 + Int32.ofInt 1 := ⟨_, rfl⟩
              have i_v7 : iv v7 1 7 := by rw [e_v7]; exact iv_add i4 (ki_1) (by decide) (by decide) (by decide) (by decide)
              refine lv_iinc (v := v7) (lv' := [(3, .int v7), (0, .ref a), (1, .ref b), (2, .ref d1), (4, .int v4_13)]) hx hb dX3_weigh_75 hl (k := 3) rfl e_v7.symm (by decide) rfl (fun ls hl => ?_)
              refine lv_goto (tgt := 2) hx hb dX3_weigh_78 (by decide) ?_
              exact ih2 M_13 v7 H locs ls hI (lv_sub hl [1, 2, 3, 0] rfl) (iv_w (lo' := 0) (hi' := 7) i_v7 (by decide) (by decide)) (by have h9 := (h_inc e_v7 i4 ki_1 (by decide) (by decide)); omega)
            · have i8 : iv v5 1 8 := iv_nle1 c6 i_v5 i_v4_13 (by decide)
              have i9 : iv v4_13 0 7 := iv_nle2 c6 i_v5 i_v4_13 (by decide)
              refine lv_aload_n hx hb dX3_weigh_22 rfl (lv_at hl 2 rfl) ?_
              refine lv_iload hx hb dX3_weigh_23 (lv_at hl 4 rfl) ?_
              refine h_goi hI (by decide) (va_runV (As := [.int v4_13]) (rest := []) ⟨hx, hb, hml, hown, hts⟩ (h_isKept_X7 l D g σ Z hZ0 M_13 N R d1 g_d1 v4_13) (cwV 1 hts gX3_weigh_X7_isKept rfl rfl rfl (by decide +kernel) ⟨Nat.le_of_ble_eq_true rfl, Nat.le_of_ble_eq_true rfl⟩) (h_preV hZ0 hK hE hI g_d1 (by decide) rfl) rfl rfl hl.1 rfl (lv_room (Nat.le_of_ble_eq_true rfl)) dX3_weigh_25 ⟨Nat.le_of_ble_eq_true rfl, Nat.le_of_ble_eq_true rfl⟩) (fun r10 M11 N12 R13 H locs q14 z_M11 hI => ?_)
              obtain ⟨rfl, rfl, rfl, i_r10, z15, z16⟩ := q14
              have J43 : ∀ (M_43 : hM) (t0_43 : Int32) (H : Heap) (locs : List Loc) (ls : Array Slot), kI D g σ e_h_weigh_X3 M s.heap M_43 N R H locs → lv_has ls 6 [(0, .ref a), (1, .ref b), (2, .ref d1), (3, .int v3_2), (4, .int v4_13)] → v1 = M_43 a 2 → v5 = M_43 a 3 → W p l e (headSpec wsX3_weigh ({ frames := 3, cells := 0, slots := 0, locals := 70 })).room s m ar below meth c H locs 0 0 Q (F0 m 43 ls [.int t0_43]) := by
                intro M_43 t0_43 H locs ls hI hl k0_43 k1_43
                refine lv_istore (lv' := [(5, .int t0_43), (0, .ref a), (1, .ref b), (2, .ref d1), (3, .int v3_2), (4, .int v4_13)]) hx hb dX3_weigh_43 hl (by decide) rfl (fun ls hl => ?_)
                refine lv_aload_n hx hb dX3_weigh_45 rfl (lv_at hl 1 rfl) ?_
                refine h_getr hx hb hts iX3_weigh_X3 hown hK hI g_a (by decide) rfl rfl 0 (by decide) rfl 28 rfl (hts (.fieldLink RX3 9 "CatLeases$Letting" "worths" "[I") (List.mem_of_getElem? (i := 3) rfl)) (fun _ h9 => h9) dX3_weigh_46 (fun a17 e_a17 g_a17 => ?_)
                refine lv_iload_n hx hb dX3_weigh_49 rfl (lv_at hl 4 rfl) ?_
                refine lv_bipush (v := 8) hx hb dX3_weigh_50 (by decide) ?_
                refine lv_imul hx hb dX3_weigh_52 ?_
                refine h_nm (lo := 0) (hi := 48) (iv_mul i4 kc_8 (by decide) (by decide) (by decide) (by decide) (by decide)) (fun v18 e_v18 i_v18 => ?_)
                refine lv_iload hx hb dX3_weigh_53 (lv_at hl 5 rfl) ?_
                refine lv_iadd hx hb dX3_weigh_55 ?_
                refine h_nm (lo := 0) (hi := 55) (iv_add i_v18 i9 (by decide) (by decide) (by decide) (by decide)) (fun v19 e_v19 i_v19 => ?_)
                refine lv_iconst (v := 0) hx hb dX3_weigh_56 (by decide) ?_
                refine lv_sipush (v := 9999) hx hb dX3_weigh_57 (by decide) ?_
                refine lv_iload hx hb dX3_weigh_60 (lv_at hl 0 rfl) ?_
                refine va_mmin hx hb (hml.trans hl.1.symm) hown (hts (.methodLink RX3 47 Lib.Math.min.name) (List.mem_of_getElem? (i := 4) rfl)) (hts (.static Lib.Math.min.name) (List.mem_of_getElem? (i := 5) rfl)) (hts (.initialized "java/lang/Math") (List.mem_of_getElem? (i := 6) rfl)) (hts (.code Lib.Math.min.name Lib.Math.min.code 2 (some .int)) (List.mem_of_getElem? (i := 7) rfl)) (Nat.le_of_ble_eq_true rfl) (Nat.le_of_ble_eq_true rfl) (Nat.le_of_ble_eq_true rfl) (Nat.le_of_ble_eq_true rfl) dX3_weigh_62 ?_
                refine h_nm (lo := (-2147483648)) (hi := 9999) (iv_min kc_9999 (iv_any t0_43) (by decide) (by decide) (by decide)) (fun v20 e_v20 i_v20 => ?_)
                refine va_mmax hx hb (hml.trans hl.1.symm) hown (hts (.methodLink RX3 52 Lib.Math.max.name) (List.mem_of_getElem? (i := 8) rfl)) (hts (.static Lib.Math.max.name) (List.mem_of_getElem? (i := 9) rfl)) (hts (.initialized "java/lang/Math") (List.mem_of_getElem? (i := 6) rfl)) (hts (.code Lib.Math.max.name Lib.Math.max.code 2 (some .int)) (List.mem_of_getElem? (i := 10) rfl)) (Nat.le_of_ble_eq_true rfl) (Nat.le_of_ble_eq_true rfl) (Nat.le_of_ble_eq_true rfl) (Nat.le_of_ble_eq_true rfl) dX3_weigh_65 ?_
                refine h_nm (lo := 0) (hi := 9999) (iv_max kc_0 i_v20 (by decide) (by decide) (by decide)) (fun v21 e_v21 i_v21 => ?_)
                refine h_iast (j := v19.toNatClampNeg) hx hb hK hI g_a17 (by decide) rfl (iv_in (n := 56) i_v19 (by decide) (by decide)) rfl (iv_any _) rfl dX3_weigh_68 (fun M22 H locs e_M22 hI => ?_)
                obtain ⟨v23, e_v23⟩ : ∃ z : Int32, z = v4_13 + Int32.ofInt 1 := ⟨_, rfl⟩
                have i_v23 : iv v23 1 8 := by rw [e_v23]; exact iv_add i9 (ki_1) (by decide) (by decide) (by decide) (by decide)
                refine lv_iinc (v := v23) (lv' := [(4, .int v23), (5, .int t0_43), (0, .ref a), (1, .ref b), (2, .ref d1), (3, .int v3_2)]) hx hb dX3_weigh_69 hl (k := 5) rfl e_v23.symm (by decide) rfl (fun ls hl => ?_)
                refine lv_goto (tgt := 13) hx hb dX3_weigh_72 (by decide) ?_
                exact ih13 M22 v23 H locs ls hI (lv_sub hl [2, 3, 4, 5, 0] rfl) ((k0_43).trans (u2_st (a := a) (k := 2) e_M22 (u2_a (so_ne g_a g_a17 (by decide)))).symm) (iv_w (lo' := 0) (hi' := 8) i_v23 (by decide) (by decide)) (by have h9 := (h_inc e_v23 i9 ki_1 (by decide) (by decide)); omega)
              refine lv_if_eq (tgt := 42) hx hb dX3_weigh_28 (by decide) (fun c24 => ?_) (fun c24 => ?_)
              · have i25 : iv r10 0 0 := iv_eq1 c24 i_r10 kc_0
                refine lv_iconst (v := 0) hx hb dX3_weigh_42 (by decide) ?_
                exact J43 M_13 (0 : Int32) H locs ls hI hl (k0_13) (e_v5)
              · have i26 := z16 c24
                have i27 : iv r10 1 1 := iv_neL c24 i_r10 (by decide) (by decide)
                refine lv_aload_n hx hb dX3_weigh_31 rfl (lv_at hl 1 rfl) ?_
                refine lv_aload_n hx hb dX3_weigh_32 rfl (lv_at hl 2 rfl) ?_
                refine lv_iload_n hx hb dX3_weigh_33 rfl (lv_at hl 3 rfl) ?_
                refine lv_iload hx hb dX3_weigh_34 (lv_at hl 4 rfl) ?_
                refine h_goi hI (by decide) (va_runV (As := [.ref d1, .int v3_2, .int v4_13]) (rest := []) ⟨hx, hb, hml, hown, hts⟩ (h_likes_X4 l D g σ Z hZ0 M_13 N R b g_b d1 g_d1 v3_2 v4_13) (cwV 3 hts gX3_weigh_X4_likes rfl rfl rfl (by decide +kernel) ⟨Nat.le_of_ble_eq_true rfl, Nat.le_of_ble_eq_true rfl⟩) (h_preV hZ0 hK hE hI g_b (by decide) rfl) rfl rfl hl.1 rfl (lv_room (Nat.le_of_ble_eq_true rfl)) dX3_weigh_36 ⟨Nat.le_of_ble_eq_true rfl, Nat.le_of_ble_eq_true rfl⟩) (fun r28 M29 N30 R31 H locs q32 z_M29 hI => ?_)
                obtain ⟨rfl, rfl⟩ := q32
                refine lv_goto (tgt := 43) hx hb dX3_weigh_39 (by decide) ?_
                exact J43 M29 r28 H locs ls hI hl ((k0_13).trans (z_M29 a 3 2 g_a rfl).symm) ((e_v5).trans (z_M29 a 3 3 g_a rfl).symm)
        refine lv_istore (lv' := [(4, .int (0 : Int32)), (0, .ref a), (1, .ref b), (2, .ref d1), (3, .int v3_2)]) hx hb dX3_weigh_11 hl (by decide) rfl (fun ls hl => ?_)
        exact J13 9 M_2 (0 : Int32) H locs ls hI (lv_sub hl [1, 2, 3, 4, 0] rfl) (e_v1) (iv_w (lo' := 0) (hi' := 8) kc_0 (by decide) (by decide)) (by have h9 := kc_0; simp only [iv] at h9; omega)
  refine lv_istore_n (lv' := [(3, .int (0 : Int32)), (0, .ref a), (1, .ref b), (2, .ref d1)]) hx hb dX3_weigh_1 rfl hl (by decide) rfl (fun ls hl => ?_)
  exact J2 8 M (0 : Int32) H locs ls hI (lv_sub hl [1, 2, 3, 0] rfl) (iv_w (lo' := 0) (hi' := 7) kc_0 (by decide) (by decide)) (by have h9 := kc_0; simp only [iv] at h9; omega)
abbrev e_h_solve_X3 : List (Nat × Nat) := [(3, 2), (3, 3), (14, 999), (18, 999), (28, 999), (29, 999)]
set_option maxHeartbeats 4000000 in
set_option maxRecDepth 100000 in
theorem h_solve_X3 (l : Launch) (D : va_G) (g : Nat → ClassId) (σ : Nat → Option Nat) (Z : State → Heap → Prop) (hZ0 : hZ σ Z) (M : hM) (N : hN) (R : hR) (a : Nat) (g_a : σ a = some 3) (b : Nat) (g_b : σ b = some 4) (d1 : Nat) (g_d1 : σ d1 = some 7) : Met l yX3_solve wsX3_solve ({ frames := 4, cells := 0, slots := 0, locals := 95 }) (va_Pc [.ref a, .ref b, .ref d1] (hPre D g σ Z M N R)) (hQv D g σ e_h_solve_X3 M (fun (M1 : hM) (N1 : hN) (R1 : hR) => N = N1 ∧ R = R1)) 0 0 (hA σ) := by
  refine h_head (cc := cX3_solve) (maxL := 6) (ret := none) (by decide) rfl (Nat.le_of_ble_eq_true rfl) e_h_solve_X3 ?_
  intro p e s m below meth c ls Q ar hQ hx hb hr hlocks hml hown hts hK hE H locs hI hl
  have hown : s.vm.findClass RX3 = some m.cls := hown
  have hl : lv_has ls 6 [(0, .ref a), (1, .ref b), (2, .ref d1)] := hl
  refine lv_aload_n hx hb dX3_solve_0 rfl (lv_at hl 0 rfl) ?_
  refine lv_aload_n hx hb dX3_solve_1 rfl (lv_at hl 1 rfl) ?_
  refine h_geti (lo := 0) (hi := 7) hx hb hts iX3_solve_X4 hown hK hI g_b (by decide) rfl rfl 2 (by decide) rfl rfl (hts (.fieldLink RX3 25 "CatLeases$Mews" "tenants" "I") (List.mem_of_getElem? (i := 1) rfl)) (fun _ h9 => h9) dX3_solve_2 (fun v1 e_v1 i_v1 => ?_)
  refine h_puti hx hb hts iX3_solve_X3 tyX3 tyX3_ok nmX3 hown hK hI g_a (by decide) rfl rfl 2 (by decide) rfl (hts (.fieldLink RX3 18 "CatLeases$Letting" "tenants" "I") (List.mem_of_getElem? (i := 2) rfl)) (fun _ h9 => h9) rfl .int (by decide +kernel) rfl rfl i_v1 rfl dX3_solve_5 (fun M2 H locs e_M2 hI => ?_)
  refine lv_aload_n hx hb dX3_solve_8 rfl (lv_at hl 0 rfl) ?_
  refine lv_aload_n hx hb dX3_solve_9 rfl (lv_at hl 1 rfl) ?_
  refine h_geti (lo := 0) (hi := 8) hx hb hts iX3_solve_X4 hown hK hI g_b (by decide) rfl rfl 1 (by decide) rfl rfl (hts (.fieldLink RX3 28 "CatLeases$Mews" "rooms" "I") (List.mem_of_getElem? (i := 3) rfl)) (fun _ h9 => h9) dX3_solve_10 (fun v3 e_v3 i_v3 => ?_)
  refine h_puti hx hb hts iX3_solve_X3 tyX3 tyX3_ok nmX3 hown hK hI g_a (by decide) rfl rfl 3 (by decide) rfl (hts (.fieldLink RX3 22 "CatLeases$Letting" "rooms" "I") (List.mem_of_getElem? (i := 4) rfl)) (fun _ h9 => h9) rfl .int (by decide +kernel) rfl rfl i_v3 rfl dX3_solve_13 (fun M4 H locs e_M4 hI => ?_)
  refine lv_aload_n hx hb dX3_solve_16 rfl (lv_at hl 0 rfl) ?_
  refine lv_aload_n hx hb dX3_solve_17 rfl (lv_at hl 1 rfl) ?_
  refine lv_aload_n hx hb dX3_solve_18 rfl (lv_at hl 2 rfl) ?_
  refine h_gov hI (by decide) (va_runV (As := [.ref b, .ref d1]) (rest := []) ⟨hx, hb, hml, hown, hts⟩ (h_weigh_X3 l D g σ Z hZ0 M4 N R a g_a b g_b d1 g_d1) (cwV 2 hts gX3_solve_X3_weigh rfl rfl rfl (by decide +kernel) ⟨Nat.le_of_ble_eq_true rfl, Nat.le_of_ble_eq_true rfl⟩) (h_preV hZ0 hK hE hI g_a (by decide) rfl) rfl rfl hl.1 rfl (lv_room (Nat.le_of_ble_eq_true rfl)) dX3_solve_19 ⟨Nat.le_of_ble_eq_true rfl, Nat.le_of_ble_eq_true rfl⟩) (fun M6 N7 R8 H locs q9 z_M6 hI => ?_)
  obtain ⟨rfl, rfl⟩ := q9
  refine lv_iconst (v := 1) hx hb dX3_solve_22 (by decide) ?_
  refine lv_aload_n hx hb dX3_solve_23 rfl (lv_at hl 0 rfl) ?_
  refine h_geti (lo := 0) (hi := 8) hx hb hts iX3_solve_X3 hown hK hI g_a (by decide) rfl rfl 3 (by decide) rfl rfl (hts (.fieldLink RX3 22 "CatLeases$Letting" "rooms" "I") (List.mem_of_getElem? (i := 4) rfl)) (fun _ h9 => h9) dX3_solve_24 (fun v10 e_v10 i_v10 => ?_)
  have q11 : v3 = v10 := (((u2_wr e_M4)).trans (z_M6 a 3 3 g_a rfl).symm).trans e_v10.symm
  subst q11
  refine lv_ishl hx hb dX3_solve_27 ?_
  refine h_nm (lo := 1) (hi := 256) (iv_shl1 8 i_v3 (by decide) (by decide) (by decide) (by decide) (by decide)) (fun v12 e_v12 i_v12 => ?_)
  refine lv_istore_n (lv' := [(3, .int v12), (0, .ref a), (1, .ref b), (2, .ref d1)]) hx hb dX3_solve_28 rfl hl (by decide) rfl (fun ls hl => ?_)
  refine lv_iconst (v := 0) hx hb dX3_solve_29 (by decide) ?_
  have J32 : ∀ (n : Nat) (M_32 : hM) (v4_32 : Int32) (H : Heap) (locs : List Loc) (ls : Array Slot), kI D g σ e_h_solve_X3 M s.heap M_32 N R H locs → lv_has ls 6 [(0, .ref a), (3, .int v12), (4, .int v4_32)] → v1 = M_32 a 2 → v3 = M_32 a 3 → v3 = M_32 b 1 → v1 = M_32 b 2 → iv v4_32 0 256 → 257 ≤ v4_32.toInt + (n : Int) → W p l e (headSpec wsX3_solve ({ frames := 4, cells := 0, slots := 0, locals := 95 })).room s m ar below meth c H locs 0 0 Q (F0 m 32 ls []) := by
    intro n
    induction n with
    | zero => intro M_32 v4_32 H locs ls hI hl k0_32 k1_32 k2_32 k3_32 i_v4_32 hn; exfalso; have hz := i_v4_32; simp only [iv] at hz; omega
    | succ n ih32 =>
      intro M_32 v4_32 H locs ls hI hl k0_32 k1_32 k2_32 k3_32 i_v4_32 hn32
      refine lv_iload hx hb dX3_solve_32 (lv_at hl 2 rfl) ?_
      refine lv_iload_n hx hb dX3_solve_34 rfl (lv_at hl 1 rfl) ?_
      refine lv_icmp_ge (tgt := 61) hx hb dX3_solve_35 (by decide) (fun c13 => ?_) (fun c13 => ?_)
      · have i14 : iv v4_32 1 256 := iv_le2 c13 i_v12 i_v4_32 (by decide)
        refine lv_aload_n hx hb dX3_solve_61 rfl (lv_at hl 0 rfl) ?_
        refine h_geti (lo := 0) (hi := 7) hx hb hts iX3_solve_X3 hown hK hI g_a (by decide) rfl rfl 2 (by decide) rfl rfl (hts (.fieldLink RX3 18 "CatLeases$Letting" "tenants" "I") (List.mem_of_getElem? (i := 2) rfl)) (fun _ h9 => h9) dX3_solve_62 (fun v15 e_v15 i_v15 => ?_)
        have q16 : v1 = v15 := (k0_32).trans e_v15.symm
        subst q16
        refine lv_iconst (v := 1) hx hb dX3_solve_65 (by decide) ?_
        refine lv_isub hx hb dX3_solve_66 ?_
        refine h_nm (lo := (-1)) (hi := 6) (iv_sub i_v1 kc_1 (by decide) (by decide) (by decide) (by decide)) (fun v17 e_v17 i_v17 => ?_)
        have J69 : ∀ (n : Nat) (M_69 : hM) (v4_69 : Int32) (H : Heap) (locs : List Loc) (ls : Array Slot), kI D g σ e_h_solve_X3 M s.heap M_69 N R H locs → lv_has ls 6 [(0, .ref a), (3, .int v12), (4, .int v4_69)] → v1 = M_69 a 2 → v3 = M_69 a 3 → v3 = M_69 b 1 → v1 = M_69 b 2 → iv v4_69 (-1) 6 → v4_69.toInt ≤ (-2) + (n : Int) → W p l e (headSpec wsX3_solve ({ frames := 4, cells := 0, slots := 0, locals := 95 })).room s m ar below meth c H locs 0 0 Q (F0 m 69 ls []) := by
          intro n
          induction n with
          | zero => intro M_69 v4_69 H locs ls hI hl k0_69 k1_69 k2_69 k3_69 i_v4_69 hn; exfalso; have hz := i_v4_69; simp only [iv] at hz; omega
          | succ n ih69 =>
            intro M_69 v4_69 H locs ls hI hl k0_69 k1_69 k2_69 k3_69 i_v4_69 hn69
            refine lv_iload hx hb dX3_solve_69 (lv_at hl 2 rfl) ?_
            refine lv_if_lt (tgt := 117) hx hb dX3_solve_71 (by decide) (fun c18 => ?_) (fun c18 => ?_)
            · have i19 : iv v4_69 (-1) (-1) := iv_lt1 c18 i_v4_69 kc_0 (by decide)
              exact h_vret hQ hx hb hr hlocks hK hI ⟨rfl, rfl⟩ dX3_solve_117
            · have i20 : iv v4_69 0 6 := iv_nlt1 c18 i_v4_69 kc_0 (by decide)
              refine lv_iconst (v := 0) hx hb dX3_solve_74 (by decide) ?_
              have J77 : ∀ (n : Nat) (M_77 : hM) (v5_77 : Int32) (H : Heap) (locs : List Loc) (ls : Array Slot), kI D g σ e_h_solve_X3 M s.heap M_77 N R H locs → lv_has ls 6 [(0, .ref a), (3, .int v12), (4, .int v4_69), (5, .int v5_77)] → v1 = M_77 a 2 → v3 = M_77 a 3 → v3 = M_77 b 1 → v1 = M_77 b 2 → iv v5_77 0 256 → 257 ≤ v5_77.toInt + (n : Int) → W p l e (headSpec wsX3_solve ({ frames := 4, cells := 0, slots := 0, locals := 95 })).room s m ar below meth c H locs 0 0 Q (F0 m 77 ls []) := by
                intro n
                induction n with
                | zero => intro M_77 v5_77 H locs ls hI hl k0_77 k1_77 k2_77 k3_77 i_v5_77 hn; exfalso; have hz := i_v5_77; simp only [iv] at hz; omega
                | succ n ih77 =>
                  intro M_77 v5_77 H locs ls hI hl k0_77 k1_77 k2_77 k3_77 i_v5_77 hn77
                  refine lv_iload hx hb dX3_solve_77 (lv_at hl 3 rfl) ?_
                  refine lv_iload_n hx hb dX3_solve_79 rfl (lv_at hl 1 rfl) ?_
                  refine lv_icmp_ge (tgt := 111) hx hb dX3_solve_80 (by decide) (fun c21 => ?_) (fun c21 => ?_)
                  · have i22 : iv v5_77 1 256 := iv_le2 c21 i_v12 i_v5_77 (by decide)
                    obtain ⟨v23, e_v23⟩ : ∃ z : Int32, z = v4_69 + Int32.ofInt (-1) := ⟨_, rfl⟩
                    have i_v23 : iv v23 (-1) 5 := by rw [e_v23]; exact iv_add i20 (ki_m1) (by decide) (by decide) (by decide) (by decide)
                    refine lv_iinc (v := v23) (lv' := [(4, .int v23), (0, .ref a), (3, .int v12), (5, .int v5_77)]) hx hb dX3_solve_111 hl (k := 2) rfl e_v23.symm (by decide) rfl (fun ls hl => ?_)
                    refine lv_goto (tgt := 69) hx hb dX3_solve_114 (by decide) ?_
                    exact ih69 M_77 v23 H locs ls hI (lv_sub hl [1, 2, 0] rfl) (k0_77) (k1_77) (k2_77) (k3_77) (iv_w (lo' := (-1)) (hi' := 6) i_v23 (by decide) (by decide)) (by have h9 := (h_inc e_v23 i20 ki_m1 (by decide) (by decide)); omega)
                  · have i24 : iv v5_77 0 255 := iv_nle2 c21 i_v12 i_v5_77 (by decide)
                    refine lv_aload_n hx hb dX3_solve_83 rfl (lv_at hl 0 rfl) ?_
                    refine h_getr hx hb hts iX3_solve_X3 hown hK hI g_a (by decide) rfl rfl 1 (by decide) rfl 29 rfl (hts (.fieldLink RX3 15 "CatLeases$Letting" "best" "[I") (List.mem_of_getElem? (i := 5) rfl)) (fun _ h9 => h9) dX3_solve_84 (fun a25 e_a25 g_a25 => ?_)
                    refine lv_iload hx hb dX3_solve_87 (lv_at hl 2 rfl) ?_
                    refine lv_sipush (v := 256) hx hb dX3_solve_89 (by decide) ?_
                    refine lv_imul hx hb dX3_solve_92 ?_
                    refine h_nm (lo := 0) (hi := 1536) (iv_mul i20 kc_256 (by decide) (by decide) (by decide) (by decide) (by decide)) (fun v26 e_v26 i_v26 => ?_)
                    refine lv_iload hx hb dX3_solve_93 (lv_at hl 3 rfl) ?_
                    refine lv_iadd hx hb dX3_solve_95 ?_
                    refine h_nm (lo := 0) (hi := 1791) (iv_add i_v26 i24 (by decide) (by decide) (by decide) (by decide)) (fun v27 e_v27 i_v27 => ?_)
                    refine lv_aload_n hx hb dX3_solve_96 rfl (lv_at hl 0 rfl) ?_
                    refine lv_iload hx hb dX3_solve_97 (lv_at hl 2 rfl) ?_
                    refine lv_iload hx hb dX3_solve_99 (lv_at hl 3 rfl) ?_
                    refine h_goi hI (by decide) (va_runV (As := [.int v4_69, .int v5_77]) (rest := [.int v27, .ref a25]) ⟨hx, hb, hml, hown, hts⟩ (h_bestFor_X3 l D g σ Z hZ0 M_77 N R a g_a v4_69 i20 v5_77 i24) (cwV 2 hts gX3_solve_X3_bestFor rfl rfl rfl (by decide +kernel) ⟨Nat.le_of_ble_eq_true rfl, Nat.le_of_ble_eq_true rfl⟩) (h_preV hZ0 hK hE hI g_a (by decide) rfl) rfl rfl hl.1 rfl (lv_room (Nat.le_of_ble_eq_true rfl)) dX3_solve_101 ⟨Nat.le_of_ble_eq_true rfl, Nat.le_of_ble_eq_true rfl⟩) (fun r28 M29 N30 R31 H locs q32 z_M29 hI => ?_)
                    obtain ⟨rfl, rfl, rfl⟩ := q32
                    refine h_iast (j := v27.toNatClampNeg) hx hb hK hI g_a25 (by decide) rfl (iv_in (n := 2048) i_v27 (by decide) (by decide)) rfl (iv_any _) rfl dX3_solve_104 (fun M33 H locs e_M33 hI => ?_)
                    obtain ⟨v34, e_v34⟩ : ∃ z : Int32, z = v5_77 + Int32.ofInt 1 := ⟨_, rfl⟩
                    have i_v34 : iv v34 1 256 := by rw [e_v34]; exact iv_add i24 (ki_1) (by decide) (by decide) (by decide) (by decide)
                    refine lv_iinc (v := v34) (lv' := [(5, .int v34), (0, .ref a), (3, .int v12), (4, .int v4_69)]) hx hb dX3_solve_105 hl (k := 3) rfl e_v34.symm (by decide) rfl (fun ls hl => ?_)
                    refine lv_goto (tgt := 77) hx hb dX3_solve_108 (by decide) ?_
                    exact ih77 M33 v34 H locs ls hI (lv_sub hl [1, 2, 3, 0] rfl) ((k0_77).trans (u2_st (a := a) (k := 2) e_M33 (u2_a (so_ne g_a g_a25 (by decide)))).symm) ((k1_77).trans (u2_st (a := a) (k := 3) e_M33 (u2_a (so_ne g_a g_a25 (by decide)))).symm) ((k2_77).trans (u2_st (a := b) (k := 1) e_M33 (u2_a (so_ne g_b g_a25 (by decide)))).symm) ((k3_77).trans (u2_st (a := b) (k := 2) e_M33 (u2_a (so_ne g_b g_a25 (by decide)))).symm) (iv_w (lo' := 0) (hi' := 256) i_v34 (by decide) (by decide)) (by have h9 := (h_inc e_v34 i24 ki_1 (by decide) (by decide)); omega)
              refine lv_istore (lv' := [(5, .int (0 : Int32)), (0, .ref a), (3, .int v12), (4, .int v4_69)]) hx hb dX3_solve_75 hl (by decide) rfl (fun ls hl => ?_)
              exact J77 257 M_69 (0 : Int32) H locs ls hI (lv_sub hl [1, 2, 3, 0] rfl) (k0_69) (k1_69) (k2_69) (k3_69) (iv_w (lo' := 0) (hi' := 256) kc_0 (by decide) (by decide)) (by have h9 := kc_0; simp only [iv] at h9; omega)
        refine lv_istore (lv' := [(4, .int v17), (0, .ref a), (3, .int v12)]) hx hb dX3_solve_67 hl (by decide) rfl (fun ls hl => ?_)
        exact J69 8 M_32 v17 H locs ls hI (lv_sub hl [1, 2, 0] rfl) (k0_32) (k1_32) (k2_32) (k3_32) i_v17 (by have h9 := i_v17; simp only [iv] at h9; omega)
      · have i35 : iv v4_32 0 255 := iv_nle2 c13 i_v12 i_v4_32 (by decide)
        refine lv_aload_n hx hb dX3_solve_38 rfl (lv_at hl 0 rfl) ?_
        refine h_getr hx hb hts iX3_solve_X3 hown hK hI g_a (by decide) rfl rfl 1 (by decide) rfl 29 rfl (hts (.fieldLink RX3 15 "CatLeases$Letting" "best" "[I") (List.mem_of_getElem? (i := 5) rfl)) (fun _ h9 => h9) dX3_solve_39 (fun a36 e_a36 g_a36 => ?_)
        refine lv_aload_n hx hb dX3_solve_42 rfl (lv_at hl 0 rfl) ?_
        refine h_geti (lo := 0) (hi := 7) hx hb hts iX3_solve_X3 hown hK hI g_a (by decide) rfl rfl 2 (by decide) rfl rfl (hts (.fieldLink RX3 18 "CatLeases$Letting" "tenants" "I") (List.mem_of_getElem? (i := 2) rfl)) (fun _ h9 => h9) dX3_solve_43 (fun v37 e_v37 i_v37 => ?_)
        have q38 : v1 = v37 := (k0_32).trans e_v37.symm
        subst q38
        refine lv_sipush (v := 256) hx hb dX3_solve_46 (by decide) ?_
        refine lv_imul hx hb dX3_solve_49 ?_
        refine h_nm (lo := 0) (hi := 1792) (iv_mul i_v1 kc_256 (by decide) (by decide) (by decide) (by decide) (by decide)) (fun v39 e_v39 i_v39 => ?_)
        refine lv_iload hx hb dX3_solve_50 (lv_at hl 2 rfl) ?_
        refine lv_iadd hx hb dX3_solve_52 ?_
        refine h_nm (lo := 0) (hi := 2047) (iv_add i_v39 i35 (by decide) (by decide) (by decide) (by decide)) (fun v40 e_v40 i_v40 => ?_)
        refine lv_iconst (v := 0) hx hb dX3_solve_53 (by decide) ?_
        refine h_iast (j := v40.toNatClampNeg) hx hb hK hI g_a36 (by decide) rfl (iv_in (n := 2048) i_v40 (by decide) (by decide)) rfl (iv_any _) rfl dX3_solve_54 (fun M41 H locs e_M41 hI => ?_)
        obtain ⟨v42, e_v42⟩ : ∃ z : Int32, z = v4_32 + Int32.ofInt 1 := ⟨_, rfl⟩
        have i_v42 : iv v42 1 256 := by rw [e_v42]; exact iv_add i35 (ki_1) (by decide) (by decide) (by decide) (by decide)
        refine lv_iinc (v := v42) (lv' := [(4, .int v42), (0, .ref a), (3, .int v12)]) hx hb dX3_solve_55 hl (k := 2) rfl e_v42.symm (by decide) rfl (fun ls hl => ?_)
        refine lv_goto (tgt := 32) hx hb dX3_solve_58 (by decide) ?_
        exact ih32 M41 v42 H locs ls hI (lv_sub hl [1, 2, 0] rfl) ((k0_32).trans (u2_st (a := a) (k := 2) e_M41 (u2_a (so_ne g_a g_a36 (by decide)))).symm) ((k1_32).trans (u2_st (a := a) (k := 3) e_M41 (u2_a (so_ne g_a g_a36 (by decide)))).symm) ((k2_32).trans (u2_st (a := b) (k := 1) e_M41 (u2_a (so_ne g_b g_a36 (by decide)))).symm) ((k3_32).trans (u2_st (a := b) (k := 2) e_M41 (u2_a (so_ne g_b g_a36 (by decide)))).symm) (iv_w (lo' := 0) (hi' := 256) i_v42 (by decide) (by decide)) (by have h9 := (h_inc e_v42 i35 ki_1 (by decide) (by decide)); omega)
  refine lv_istore (lv' := [(4, .int (0 : Int32)), (3, .int v12), (0, .ref a), (1, .ref b), (2, .ref d1)]) hx hb dX3_solve_30 hl (by decide) rfl (fun ls hl => ?_)
  exact J32 257 M6 (0 : Int32) H locs ls hI (lv_sub hl [2, 1, 0] rfl) ((((u2_wr e_M2)).trans (u2_st (a := a) (k := 2) e_M4 (u2_k (by decide))).symm).trans (z_M6 a 3 2 g_a rfl).symm) (((u2_wr e_M4)).trans (z_M6 a 3 3 g_a rfl).symm) (((e_v3).trans (u2_st (a := b) (k := 1) e_M4 (u2_a (so_ne g_b g_a (by decide)))).symm).trans (z_M6 b 4 1 g_b rfl).symm) ((((e_v1).trans (u2_st (a := b) (k := 2) e_M2 (u2_a (so_ne g_b g_a (by decide)))).symm).trans (u2_st (a := b) (k := 2) e_M4 (u2_a (so_ne g_b g_a (by decide)))).symm).trans (z_M6 b 4 2 g_b rfl).symm) (iv_w (lo' := 0) (hi' := 256) kc_0 (by decide) (by decide)) (by have h9 := kc_0; simp only [iv] at h9; omega)
abbrev e_h_count_X3 : List (Nat × Nat) := []
set_option maxHeartbeats 4000000 in
set_option maxRecDepth 100000 in
theorem h_count_X3 (l : Launch) (D : va_G) (g : Nat → ClassId) (σ : Nat → Option Nat) (Z : State → Heap → Prop) (hZ0 : hZ σ Z) (M : hM) (N : hN) (R : hR) (a : Nat) (g_a : σ a = some 3) : Met l yX3_count wsX3_count ({ frames := 0, cells := 0, slots := 0, locals := 0 }) (va_Pc [.ref a] (hPre D g σ Z M N R)) (hQi D g σ e_h_count_X3 M (fun (r : Int32) (M1 : hM) (N1 : hN) (R1 : hR) => M = M1 ∧ N = N1 ∧ R = R1)) 0 0 (hA σ) := by
  refine h_head (cc := cX3_count) (maxL := 1) (ret := (some .int)) (by decide) rfl (Nat.le_of_ble_eq_true rfl) e_h_count_X3 ?_
  intro p e s m below meth c ls Q ar hQ hx hb hr hlocks hml hown hts hK hE H locs hI hl
  have hown : s.vm.findClass RX3 = some m.cls := hown
  have hl : lv_has ls 1 [(0, .ref a)] := hl
  refine lv_aload_n hx hb dX3_count_0 rfl (lv_at hl 0 rfl) ?_
  refine h_getr hx hb hts iX3_count_X3 hown hK hI g_a (by decide) rfl rfl 1 (by decide) rfl 29 rfl (hts (.fieldLink RX3 15 "CatLeases$Letting" "best" "[I") (List.mem_of_getElem? (i := 1) rfl)) (fun _ h9 => h9) dX3_count_1 (fun a1 e_a1 g_a1 => ?_)
  refine lv_iconst (v := 0) hx hb dX3_count_4 (by decide) ?_
  refine h_iald (j := 0) (lo := (-2147483648)) (hi := 2147483647) hx hb hK hI g_a1 (by decide) rfl (iv_in (n := 2048) kc_0 (by decide) (by decide)) (by decide) (iv_any _) dX3_count_5 (fun v2 e_v2 i_v2 => ?_)
  refine lv_ldc (v := 100000) hx hb hown (hts (.constant RX3 59 (100000)) (List.mem_of_getElem? (i := 2) rfl)) dX3_count_6 ?_
  refine lv_idiv hx hb dX3_count_8 (by decide) ?_
  refine h_nm (lo := (-2147483648)) (hi := 2147483647) (iv_any _) (fun v3 e_v3 i_v3 => ?_)
  exact h_iret hQ hx hb hr hlocks rfl hK hI ⟨rfl, rfl, rfl⟩ dX3_count_9
abbrev e_h_together_X3 : List (Nat × Nat) := []
set_option maxHeartbeats 4000000 in
set_option maxRecDepth 100000 in
theorem h_together_X3 (l : Launch) (D : va_G) (g : Nat → ClassId) (σ : Nat → Option Nat) (Z : State → Heap → Prop) (hZ0 : hZ σ Z) (M : hM) (N : hN) (R : hR) (a : Nat) (g_a : σ a = some 3) : Met l yX3_together wsX3_together ({ frames := 0, cells := 0, slots := 0, locals := 0 }) (va_Pc [.ref a] (hPre D g σ Z M N R)) (hQi D g σ e_h_together_X3 M (fun (r : Int32) (M1 : hM) (N1 : hN) (R1 : hR) => M = M1 ∧ N = N1 ∧ R = R1)) 0 0 (hA σ) := by
  refine h_head (cc := cX3_together) (maxL := 1) (ret := (some .int)) (by decide) rfl (Nat.le_of_ble_eq_true rfl) e_h_together_X3 ?_
  intro p e s m below meth c ls Q ar hQ hx hb hr hlocks hml hown hts hK hE H locs hI hl
  have hown : s.vm.findClass RX3 = some m.cls := hown
  have hl : lv_has ls 1 [(0, .ref a)] := hl
  refine lv_aload_n hx hb dX3_together_0 rfl (lv_at hl 0 rfl) ?_
  refine h_getr hx hb hts iX3_together_X3 hown hK hI g_a (by decide) rfl rfl 1 (by decide) rfl 29 rfl (hts (.fieldLink RX3 15 "CatLeases$Letting" "best" "[I") (List.mem_of_getElem? (i := 1) rfl)) (fun _ h9 => h9) dX3_together_1 (fun a1 e_a1 g_a1 => ?_)
  refine lv_iconst (v := 0) hx hb dX3_together_4 (by decide) ?_
  refine h_iald (j := 0) (lo := (-2147483648)) (hi := 2147483647) hx hb hK hI g_a1 (by decide) rfl (iv_in (n := 2048) kc_0 (by decide) (by decide)) (by decide) (iv_any _) dX3_together_5 (fun v2 e_v2 i_v2 => ?_)
  refine lv_ldc (v := 100000) hx hb hown (hts (.constant RX3 59 (100000)) (List.mem_of_getElem? (i := 2) rfl)) dX3_together_6 ?_
  refine lv_irem hx hb dX3_together_8 (by decide) ?_
  refine h_nm (lo := (-2147483648)) (hi := 2147483647) (iv_any _) (fun v3 e_v3 i_v3 => ?_)
  exact h_iret hQ hx hb hr hlocks rfl hK hI ⟨rfl, rfl, rfl⟩ dX3_together_9
abbrev e_h_tell_X3 : List (Nat × Nat) := [(13, 999)]
set_option maxHeartbeats 4000000 in
set_option maxRecDepth 100000 in
theorem h_tell_X3 (l : Launch) (D : va_G) (g : Nat → ClassId) (σ : Nat → Option Nat) (Z : State → Heap → Prop) (hZ0 : hZ σ Z) (M : hM) (N : hN) (R : hR) (a : Nat) (g_a : σ a = some 3) (b : Nat) (g_b : σ b = some 13) (p2 : Int32) : Met l yX3_tell wsX3_tell ({ frames := 1, cells := 0, slots := 0, locals := 24 }) (va_Pc [.ref a, .ref b, .int p2] (hPre D g σ Z M N R)) (hQv D g σ e_h_tell_X3 M (fun (M1 : hM) (N1 : hN) (R1 : hR) => N = N1 ∧ R = R1)) 0 0 (hA σ) := by
  refine h_head (cc := cX3_tell) (maxL := 6) (ret := none) (by decide) rfl (Nat.le_of_ble_eq_true rfl) e_h_tell_X3 ?_
  intro p e s m below meth c ls Q ar hQ hx hb hr hlocks hml hown hts hK hE H locs hI hl
  have hown : s.vm.findClass RX3 = some m.cls := hown
  have hl : lv_has ls 6 [(0, .ref a), (1, .ref b), (2, .int p2)] := hl
  refine lv_iconst (v := 0) hx hb dX3_tell_0 (by decide) ?_
  refine lv_istore_n (lv' := [(3, .int (0 : Int32)), (0, .ref a), (1, .ref b), (2, .int p2)]) hx hb dX3_tell_1 rfl hl (by decide) rfl (fun ls hl => ?_)
  refine lv_iconst (v := 0) hx hb dX3_tell_2 (by decide) ?_
  have J5 : ∀ (n : Nat) (M_5 : hM) (v3_5 : Int32) (v4_5 : Int32) (H : Heap) (locs : List Loc) (ls : Array Slot), kI D g σ e_h_tell_X3 M s.heap M_5 N R H locs → lv_has ls 6 [(0, .ref a), (1, .ref b), (2, .int p2), (3, .int v3_5), (4, .int v4_5)] → iv v3_5 0 255 → iv v4_5 0 7 → 8 ≤ v4_5.toInt + (n : Int) → W p l e (headSpec wsX3_tell ({ frames := 1, cells := 0, slots := 0, locals := 24 })).room s m ar below meth c H locs 0 0 Q (F0 m 5 ls []) := by
    intro n
    induction n with
    | zero => intro M_5 v3_5 v4_5 H locs ls hI hl i_v3_5 i_v4_5 hn; exfalso; have hz := i_v4_5; simp only [iv] at hz; omega
    | succ n ih5 =>
      intro M_5 v3_5 v4_5 H locs ls hI hl i_v3_5 i_v4_5 hn5
      refine lv_iload hx hb dX3_tell_5 (lv_at hl 4 rfl) ?_
      refine lv_aload_n hx hb dX3_tell_7 rfl (lv_at hl 0 rfl) ?_
      refine h_geti (lo := 0) (hi := 7) hx hb hts iX3_tell_X3 hown hK hI g_a (by decide) rfl rfl 2 (by decide) rfl rfl (hts (.fieldLink RX3 18 "CatLeases$Letting" "tenants" "I") (List.mem_of_getElem? (i := 1) rfl)) (fun _ h9 => h9) dX3_tell_8 (fun v1 e_v1 i_v1 => ?_)
      refine lv_icmp_ge (tgt := 112) hx hb dX3_tell_11 (by decide) (fun c2 => ?_) (fun c2 => ?_)
      · exact h_vret hQ hx hb hr hlocks hK hI ⟨rfl, rfl⟩ dX3_tell_112
      · have i3 : iv v1 1 7 := iv_nle1 c2 i_v1 i_v4_5 (by decide)
        have i4 : iv v4_5 0 6 := iv_nle2 c2 i_v1 i_v4_5 (by decide)
        refine lv_iload hx hb dX3_tell_14 (lv_at hl 4 rfl) ?_
        refine lv_iload_n hx hb dX3_tell_16 rfl (lv_at hl 2 rfl) ?_
        refine lv_icmp_ge (tgt := 112) hx hb dX3_tell_17 (by decide) (fun c5 => ?_) (fun c5 => ?_)
        · have i6 : iv p2 (-2147483648) 6 := iv_le1 c5 (iv_any p2) i4 (by decide)
          exact h_vret hQ hx hb hr hlocks hK hI ⟨rfl, rfl⟩ dX3_tell_112
        · have i7 : iv p2 1 2147483647 := iv_nle1 c5 (iv_any p2) i4 (by decide)
          refine lv_iload hx hb dX3_tell_20 (lv_at hl 4 rfl) ?_
          refine lv_aload_n hx hb dX3_tell_22 rfl (lv_at hl 1 rfl) ?_
          refine h_alen (v := 7) hx hb hK hI g_b (by decide) rfl (by decide) (by decide) dX3_tell_23 ?_
          refine lv_icmp_ge (tgt := 112) hx hb dX3_tell_24 (by decide) (fun c8 => ?_) (fun c8 => ?_)
          · exfalso; have h8 := kc_7; have h9 := i4; simp only [iv] at h8 h9; rw [Int32.le_iff_toInt_le] at c8; omega
          · refine lv_aload_n hx hb dX3_tell_27 rfl (lv_at hl 1 rfl) ?_
            refine lv_iload hx hb dX3_tell_28 (lv_at hl 4 rfl) ?_
            refine lv_iconst (v := (-1)) hx hb dX3_tell_30 (by decide) ?_
            refine h_iast (j := v4_5.toNatClampNeg) hx hb hK hI g_b (by decide) rfl (iv_in (n := 7) i4 (by decide) (by decide)) rfl (iv_w (lo' := (-1)) (hi' := 7) kc_m1 (by decide) (by decide)) rfl dX3_tell_31 (fun M9 H locs e_M9 hI => ?_)
            refine lv_iconst (v := 0) hx hb dX3_tell_32 (by decide) ?_
            have J35 : ∀ (n : Nat) (M_35 : hM) (v5_35 : Int32) (H : Heap) (locs : List Loc) (ls : Array Slot), kI D g σ e_h_tell_X3 M s.heap M_35 N R H locs → lv_has ls 6 [(0, .ref a), (1, .ref b), (2, .int p2), (3, .int v3_5), (4, .int v4_5), (5, .int v5_35)] → v1 = M_35 a 2 → iv v5_35 0 8 → 9 ≤ v5_35.toInt + (n : Int) → W p l e (headSpec wsX3_tell ({ frames := 1, cells := 0, slots := 0, locals := 24 })).room s m ar below meth c H locs 0 0 Q (F0 m 35 ls []) := by
              intro n
              induction n with
              | zero => intro M_35 v5_35 H locs ls hI hl k0_35 i_v5_35 hn; exfalso; have hz := i_v5_35; simp only [iv] at hz; omega
              | succ n ih35 =>
                intro M_35 v5_35 H locs ls hI hl k0_35 i_v5_35 hn35
                refine lv_iload hx hb dX3_tell_35 (lv_at hl 5 rfl) ?_
                refine lv_aload_n hx hb dX3_tell_37 rfl (lv_at hl 0 rfl) ?_
                refine h_geti (lo := 0) (hi := 8) hx hb hts iX3_tell_X3 hown hK hI g_a (by decide) rfl rfl 3 (by decide) rfl rfl (hts (.fieldLink RX3 22 "CatLeases$Letting" "rooms" "I") (List.mem_of_getElem? (i := 2) rfl)) (fun _ h9 => h9) dX3_tell_38 (fun v10 e_v10 i_v10 => ?_)
                have J89 : ∀ (H : Heap) (locs : List Loc) (ls : Array Slot), kI D g σ e_h_tell_X3 M s.heap M_35 N R H locs → lv_has ls 6 [(0, .ref a), (1, .ref b), (2, .int p2), (3, .int v3_5), (4, .int v4_5)] → W p l e (headSpec wsX3_tell ({ frames := 1, cells := 0, slots := 0, locals := 24 })).room s m ar below meth c H locs 0 0 Q (F0 m 89 ls []) := by
                  intro H locs ls hI hl
                  refine lv_aload_n hx hb dX3_tell_89 rfl (lv_at hl 1 rfl) ?_
                  refine lv_iload hx hb dX3_tell_90 (lv_at hl 4 rfl) ?_
                  refine h_iald (j := v4_5.toNatClampNeg) (lo := (-1)) (hi := 7) hx hb hK hI g_b (by decide) rfl (iv_in (n := 7) i4 (by decide) (by decide)) rfl (hI.iv1 (n := 7) g_b rfl (in_lt (iv_in (n := 7) i4 (by decide) (by decide))) rfl) dX3_tell_92 (fun v11 e_v11 i_v11 => ?_)
                  refine lv_iconst (v := (-1)) hx hb dX3_tell_93 (by decide) ?_
                  have J106 : ∀ (v3_106 : Int32) (H : Heap) (locs : List Loc) (ls : Array Slot), kI D g σ e_h_tell_X3 M s.heap M_35 N R H locs → lv_has ls 6 [(0, .ref a), (1, .ref b), (2, .int p2), (3, .int v3_106), (4, .int v4_5)] → iv v3_106 0 255 → W p l e (headSpec wsX3_tell ({ frames := 1, cells := 0, slots := 0, locals := 24 })).room s m ar below meth c H locs 0 0 Q (F0 m 106 ls []) := by
                    intro v3_106 H locs ls hI hl i_v3_106
                    obtain ⟨v12, e_v12⟩ : ∃ z : Int32, z = v4_5 + Int32.ofInt 1 := ⟨_, rfl⟩
                    have i_v12 : iv v12 1 7 := by rw [e_v12]; exact iv_add i4 (ki_1) (by decide) (by decide) (by decide) (by decide)
                    refine lv_iinc (v := v12) (lv' := [(4, .int v12), (0, .ref a), (1, .ref b), (2, .int p2), (3, .int v3_106)]) hx hb dX3_tell_106 hl (k := 4) rfl e_v12.symm (by decide) rfl (fun ls hl => ?_)
                    refine lv_goto (tgt := 5) hx hb dX3_tell_109 (by decide) ?_
                    exact ih5 M_35 v3_106 v12 H locs ls hI (lv_sub hl [1, 2, 3, 4, 0] rfl) i_v3_106 (iv_w (lo' := 0) (hi' := 7) i_v12 (by decide) (by decide)) (by have h9 := (h_inc e_v12 i4 ki_1 (by decide) (by decide)); omega)
                  refine lv_icmp_eq (tgt := 106) hx hb dX3_tell_94 (by decide) (fun c13 => ?_) (fun c13 => ?_)
                  · have i14 : iv v11 (-1) (-1) := iv_eq1 c13 i_v11 kc_m1
                    exact J106 v3_5 H locs ls hI hl i_v3_5
                  · have i15 : iv v11 0 7 := iv_neL c13 i_v11 (by decide) (by decide)
                    refine lv_iload_n hx hb dX3_tell_97 rfl (lv_at hl 3 rfl) ?_
                    refine lv_iconst (v := 1) hx hb dX3_tell_98 (by decide) ?_
                    refine lv_aload_n hx hb dX3_tell_99 rfl (lv_at hl 1 rfl) ?_
                    refine lv_iload hx hb dX3_tell_100 (lv_at hl 4 rfl) ?_
                    refine h_iald (j := v4_5.toNatClampNeg) (lo := (-1)) (hi := 7) hx hb hK hI g_b (by decide) rfl (iv_in (n := 7) i4 (by decide) (by decide)) rfl (hI.iv1 (n := 7) g_b rfl (in_lt (iv_in (n := 7) i4 (by decide) (by decide))) rfl) dX3_tell_102 (fun v16 e_v16 i_v16 => ?_)
                    have q17 : v11 = v16 := (e_v11).trans e_v16.symm
                    subst q17
                    refine lv_ishl hx hb dX3_tell_103 ?_
                    refine h_nm (lo := 1) (hi := 128) (iv_shl1 7 i15 (by decide) (by decide) (by decide) (by decide) (by decide)) (fun v18 e_v18 i_v18 => ?_)
                    refine lv_ior hx hb dX3_tell_104 ?_
                    refine h_nm (lo := 0) (hi := 255) (iv_or 8 i_v3_5 i_v18 (by decide) (by decide) (by decide) (by decide) (by decide) (by decide)) (fun v19 e_v19 i_v19 => ?_)
                    refine lv_istore_n (lv' := [(3, .int v19), (0, .ref a), (1, .ref b), (2, .int p2), (4, .int v4_5)]) hx hb dX3_tell_105 rfl hl (by decide) rfl (fun ls hl => ?_)
                    exact J106 v19 H locs ls hI (lv_sub hl [1, 2, 3, 0, 4] rfl) i_v19
                refine lv_icmp_ge (tgt := 89) hx hb dX3_tell_41 (by decide) (fun c20 => ?_) (fun c20 => ?_)
                · exact J89 H locs ls hI (lv_sub hl [0, 1, 2, 3, 4] rfl)
                · have i21 : iv v10 1 8 := iv_nle1 c20 i_v10 i_v5_35 (by decide)
                  have i22 : iv v5_35 0 7 := iv_nle2 c20 i_v10 i_v5_35 (by decide)
                  refine lv_aload_n hx hb dX3_tell_44 rfl (lv_at hl 1 rfl) ?_
                  refine lv_iload hx hb dX3_tell_45 (lv_at hl 4 rfl) ?_
                  refine h_iald (j := v4_5.toNatClampNeg) (lo := (-1)) (hi := 7) hx hb hK hI g_b (by decide) rfl (iv_in (n := 7) i4 (by decide) (by decide)) rfl (hI.iv1 (n := 7) g_b rfl (in_lt (iv_in (n := 7) i4 (by decide) (by decide))) rfl) dX3_tell_47 (fun v23 e_v23 i_v23 => ?_)
                  refine lv_iconst (v := (-1)) hx hb dX3_tell_48 (by decide) ?_
                  refine lv_icmp_ne (tgt := 89) hx hb dX3_tell_49 (by decide) (fun c24 => ?_) (fun c24 => ?_)
                  · have i25 : iv v23 0 7 := iv_neL c24 i_v23 (by decide) (by decide)
                    exact J89 H locs ls hI (lv_sub hl [0, 1, 2, 3, 4] rfl)
                  · have i26 : iv v23 (-1) (-1) := iv_eq1 c24 i_v23 kc_m1
                    refine lv_aload_n hx hb dX3_tell_52 rfl (lv_at hl 0 rfl) ?_
                    refine lv_iload hx hb dX3_tell_53 (lv_at hl 4 rfl) ?_
                    refine lv_iload_n hx hb dX3_tell_55 rfl (lv_at hl 3 rfl) ?_
                    refine lv_iload hx hb dX3_tell_56 (lv_at hl 5 rfl) ?_
                    refine h_goi hI (by decide) (va_runV (As := [.int v4_5, .int v3_5, .int v5_35]) (rest := []) ⟨hx, hb, hml, hown, hts⟩ (h_withRoom_X3 l D g σ Z hZ0 M_35 N R a g_a v4_5 i4 v3_5 i_v3_5 v5_35 i22) (cwV 3 hts gX3_tell_X3_withRoom rfl rfl rfl (by decide +kernel) ⟨Nat.le_of_ble_eq_true rfl, Nat.le_of_ble_eq_true rfl⟩) (h_preV hZ0 hK hE hI g_a (by decide) rfl) rfl rfl hl.1 rfl (lv_room (Nat.le_of_ble_eq_true rfl)) dX3_tell_58 ⟨Nat.le_of_ble_eq_true rfl, Nat.le_of_ble_eq_true rfl⟩) (fun r27 M28 N29 R30 H locs q31 z_M28 hI => ?_)
                    obtain ⟨rfl, rfl, rfl⟩ := q31
                    refine lv_aload_n hx hb dX3_tell_61 rfl (lv_at hl 0 rfl) ?_
                    refine h_getr hx hb hts iX3_tell_X3 hown hK hI g_a (by decide) rfl rfl 1 (by decide) rfl 29 rfl (hts (.fieldLink RX3 15 "CatLeases$Letting" "best" "[I") (List.mem_of_getElem? (i := 3) rfl)) (fun _ h9 => h9) dX3_tell_62 (fun a32 e_a32 g_a32 => ?_)
                    refine lv_iload hx hb dX3_tell_65 (lv_at hl 4 rfl) ?_
                    refine lv_sipush (v := 256) hx hb dX3_tell_67 (by decide) ?_
                    refine lv_imul hx hb dX3_tell_70 ?_
                    refine h_nm (lo := 0) (hi := 1536) (iv_mul i4 kc_256 (by decide) (by decide) (by decide) (by decide) (by decide)) (fun v33 e_v33 i_v33 => ?_)
                    refine lv_iload_n hx hb dX3_tell_71 rfl (lv_at hl 3 rfl) ?_
                    refine lv_iadd hx hb dX3_tell_72 ?_
                    refine h_nm (lo := 0) (hi := 1791) (iv_add i_v33 i_v3_5 (by decide) (by decide) (by decide) (by decide)) (fun v34 e_v34 i_v34 => ?_)
                    refine h_iald (j := v34.toNatClampNeg) (lo := (-2147483648)) (hi := 2147483647) hx hb hK hI g_a32 (by decide) rfl (iv_in (n := 2048) i_v34 (by decide) (by decide)) rfl (iv_any _) dX3_tell_73 (fun v35 e_v35 i_v35 => ?_)
                    have J83 : ∀ (M_83 : hM) (H : Heap) (locs : List Loc) (ls : Array Slot), kI D g σ e_h_tell_X3 M s.heap M_83 N R H locs → lv_has ls 6 [(0, .ref a), (1, .ref b), (2, .int p2), (3, .int v3_5), (4, .int v4_5), (5, .int v5_35)] → v1 = M_83 a 2 → v10 = M_83 a 3 → W p l e (headSpec wsX3_tell ({ frames := 1, cells := 0, slots := 0, locals := 24 })).room s m ar below meth c H locs 0 0 Q (F0 m 83 ls []) := by
                      intro M_83 H locs ls hI hl k0_83 k1_83
                      obtain ⟨v36, e_v36⟩ : ∃ z : Int32, z = v5_35 + Int32.ofInt 1 := ⟨_, rfl⟩
                      have i_v36 : iv v36 1 8 := by rw [e_v36]; exact iv_add i22 (ki_1) (by decide) (by decide) (by decide) (by decide)
                      refine lv_iinc (v := v36) (lv' := [(5, .int v36), (0, .ref a), (1, .ref b), (2, .int p2), (3, .int v3_5), (4, .int v4_5)]) hx hb dX3_tell_83 hl (k := 5) rfl e_v36.symm (by decide) rfl (fun ls hl => ?_)
                      refine lv_goto (tgt := 35) hx hb dX3_tell_86 (by decide) ?_
                      exact ih35 M_83 v36 H locs ls hI (lv_sub hl [1, 2, 3, 4, 5, 0] rfl) (k0_83) (iv_w (lo' := 0) (hi' := 8) i_v36 (by decide) (by decide)) (by have h9 := (h_inc e_v36 i22 ki_1 (by decide) (by decide)); omega)
                    refine lv_icmp_ne (tgt := 83) hx hb dX3_tell_74 (by decide) (fun c37 => ?_) (fun c37 => ?_)
                    · exact J83 M_35 H locs ls hI hl (k0_35) (e_v10)
                    · refine lv_aload_n hx hb dX3_tell_77 rfl (lv_at hl 1 rfl) ?_
                      refine lv_iload hx hb dX3_tell_78 (lv_at hl 4 rfl) ?_
                      refine lv_iload hx hb dX3_tell_80 (lv_at hl 5 rfl) ?_
                      refine h_iast (j := v4_5.toNatClampNeg) hx hb hK hI g_b (by decide) rfl (iv_in (n := 7) i4 (by decide) (by decide)) rfl (iv_w (lo' := (-1)) (hi' := 7) i22 (by decide) (by decide)) rfl dX3_tell_82 (fun M38 H locs e_M38 hI => ?_)
                      exact J83 M38 H locs ls hI hl ((k0_35).trans (u2_st (a := a) (k := 2) e_M38 (u2_a (so_ne g_a g_b (by decide)))).symm) ((e_v10).trans (u2_st (a := a) (k := 3) e_M38 (u2_a (so_ne g_a g_b (by decide)))).symm)
            refine lv_istore (lv' := [(5, .int (0 : Int32)), (0, .ref a), (1, .ref b), (2, .int p2), (3, .int v3_5), (4, .int v4_5)]) hx hb dX3_tell_33 hl (by decide) rfl (fun ls hl => ?_)
            exact J35 9 M9 (0 : Int32) H locs ls hI (lv_sub hl [1, 2, 3, 4, 5, 0] rfl) ((e_v1).trans (u2_st (a := a) (k := 2) e_M9 (u2_a (so_ne g_a g_b (by decide)))).symm) (iv_w (lo' := 0) (hi' := 8) kc_0 (by decide) (by decide)) (by have h9 := kc_0; simp only [iv] at h9; omega)
  refine lv_istore (lv' := [(4, .int (0 : Int32)), (3, .int (0 : Int32)), (0, .ref a), (1, .ref b), (2, .int p2)]) hx hb dX3_tell_3 hl (by decide) rfl (fun ls hl => ?_)
  exact J5 8 M (0 : Int32) (0 : Int32) H locs ls hI (lv_sub hl [2, 3, 4, 1, 0] rfl) (iv_w (lo' := 0) (hi' := 255) kc_0 (by decide) (by decide)) (iv_w (lo' := 0) (hi' := 7) kc_0 (by decide) (by decide)) (by have h9 := kc_0; simp only [iv] at h9; omega)
abbrev e_h_hasFirst_X1 : List (Nat × Nat) := []
set_option maxHeartbeats 4000000 in
set_option maxRecDepth 100000 in
theorem h_hasFirst_X1 (l : Launch) (D : va_G) (g : Nat → ClassId) (σ : Nat → Option Nat) (Z : State → Heap → Prop) (hZ0 : hZ σ Z) (M : hM) (N : hN) (R : hR) (a : Nat) (g_a : σ a = some 1) (p1 : Int32) (h_p1 : iv p1 0 5) (p2 : Int32) (h_p2 : iv p2 0 5) : Met l yX1_hasFirst wsX1_hasFirst ({ frames := 0, cells := 0, slots := 0, locals := 0 }) (va_Pc [.ref a, .int p1, .int p2] (hPre D g σ Z M N R)) (hQi D g σ e_h_hasFirst_X1 M (fun (r : Int32) (M1 : hM) (N1 : hN) (R1 : hR) => M = M1 ∧ N = N1 ∧ R = R1 ∧ iv r 0 1)) 0 0 (hA σ) := by
  refine h_head (cc := cX1_hasFirst) (maxL := 3) (ret := (some .boolean)) (by decide) rfl (Nat.le_of_ble_eq_true rfl) e_h_hasFirst_X1 ?_
  intro p e s m below meth c ls Q ar hQ hx hb hr hlocks hml hown hts hK hE H locs hI hl
  have hown : s.vm.findClass RX1 = some m.cls := hown
  have hl : lv_has ls 3 [(0, .ref a), (1, .int p1), (2, .int p2)] := hl
  refine lv_aload_n hx hb dX1_hasFirst_0 rfl (lv_at hl 0 rfl) ?_
  refine h_getr hx hb hts iX1_hasFirst_X1 hown hK hI g_a (by decide) rfl rfl 2 (by decide) rfl 15 rfl (hts (.fieldLink RX1 18 "CatLeases$Auction" "firstLikings" "[I") (List.mem_of_getElem? (i := 1) rfl)) (fun _ h9 => h9) dX1_hasFirst_1 (fun a1 e_a1 g_a1 => ?_)
  refine lv_iload_n hx hb dX1_hasFirst_4 rfl (lv_at hl 1 rfl) ?_
  refine h_iald (j := p1.toNatClampNeg) (lo := (-2147483648)) (hi := 2147483647) hx hb hK hI g_a1 (by decide) rfl (iv_in (n := 6) h_p1 (by decide) (by decide)) rfl (iv_any _) dX1_hasFirst_5 (fun v2 e_v2 i_v2 => ?_)
  refine lv_if_le (tgt := 28) hx hb dX1_hasFirst_6 (by decide) (fun c3 => ?_) (fun c3 => ?_)
  · have i4 : iv v2 (-2147483648) 0 := iv_le1 c3 i_v2 kc_0 (by decide)
    refine lv_iconst (v := 0) hx hb dX1_hasFirst_28 (by decide) ?_
    exact h_iret hQ hx hb hr hlocks rfl hK hI ⟨rfl, rfl, rfl, (iv_w (lo' := 0) (hi' := 1) kc_0 (by decide) (by decide))⟩ dX1_hasFirst_29
  · have i5 : iv v2 1 2147483647 := iv_nle1 c3 i_v2 kc_0 (by decide)
    refine lv_aload_n hx hb dX1_hasFirst_9 rfl (lv_at hl 0 rfl) ?_
    refine h_getr hx hb hts iX1_hasFirst_X1 hown hK hI g_a (by decide) rfl rfl 2 (by decide) rfl 15 rfl (hts (.fieldLink RX1 18 "CatLeases$Auction" "firstLikings" "[I") (List.mem_of_getElem? (i := 1) rfl)) (fun _ h9 => h9) dX1_hasFirst_10 (fun a6 e_a6 g_a6 => ?_)
    have q7 : a1 = a6 := (e_a1).trans e_a6.symm
    subst q7
    refine lv_iload_n hx hb dX1_hasFirst_13 rfl (lv_at hl 1 rfl) ?_
    refine h_iald (j := p1.toNatClampNeg) (lo := (-2147483648)) (hi := 2147483647) hx hb hK hI g_a1 (by decide) rfl (iv_in (n := 6) h_p1 (by decide) (by decide)) rfl (iv_any _) dX1_hasFirst_14 (fun v8 e_v8 i_v8 => ?_)
    have q9 : v2 = v8 := (e_v2).trans e_v8.symm
    subst q9
    refine lv_aload_n hx hb dX1_hasFirst_15 rfl (lv_at hl 0 rfl) ?_
    refine h_getr hx hb hts iX1_hasFirst_X1 hown hK hI g_a (by decide) rfl rfl 3 (by decide) rfl 15 rfl (hts (.fieldLink RX1 22 "CatLeases$Auction" "otherLikings" "[I") (List.mem_of_getElem? (i := 2) rfl)) (fun _ h9 => h9) dX1_hasFirst_16 (fun a10 e_a10 g_a10 => ?_)
    refine lv_iload_n hx hb dX1_hasFirst_19 rfl (lv_at hl 2 rfl) ?_
    refine h_iald (j := p2.toNatClampNeg) (lo := (-2147483648)) (hi := 2147483647) hx hb hK hI g_a10 (by decide) rfl (iv_in (n := 6) h_p2 (by decide) (by decide)) rfl (iv_any _) dX1_hasFirst_20 (fun v11 e_v11 i_v11 => ?_)
    refine lv_icmp_lt (tgt := 28) hx hb dX1_hasFirst_21 (by decide) (fun c12 => ?_) (fun c12 => ?_)
    · have i13 : iv v2 1 2147483646 := iv_lt1 c12 i5 i_v11 (by decide)
      have i14 : iv v11 2 2147483647 := iv_lt2 c12 i5 i_v11 (by decide)
      refine lv_iconst (v := 0) hx hb dX1_hasFirst_28 (by decide) ?_
      exact h_iret hQ hx hb hr hlocks rfl hK hI ⟨rfl, rfl, rfl, (iv_w (lo' := 0) (hi' := 1) kc_0 (by decide) (by decide))⟩ dX1_hasFirst_29
    · refine lv_iconst (v := 1) hx hb dX1_hasFirst_24 (by decide) ?_
      refine lv_goto (tgt := 29) hx hb dX1_hasFirst_25 (by decide) ?_
      exact h_iret hQ hx hb hr hlocks rfl hK hI ⟨rfl, rfl, rfl, (iv_w (lo' := 0) (hi' := 1) kc_1 (by decide) (by decide))⟩ dX1_hasFirst_29
abbrev e_h_hasOther_X1 : List (Nat × Nat) := []
set_option maxHeartbeats 4000000 in
set_option maxRecDepth 100000 in
theorem h_hasOther_X1 (l : Launch) (D : va_G) (g : Nat → ClassId) (σ : Nat → Option Nat) (Z : State → Heap → Prop) (hZ0 : hZ σ Z) (M : hM) (N : hN) (R : hR) (a : Nat) (g_a : σ a = some 1) (p1 : Int32) (h_p1 : iv p1 0 5) (p2 : Int32) (h_p2 : iv p2 0 5) : Met l yX1_hasOther wsX1_hasOther ({ frames := 0, cells := 0, slots := 0, locals := 0 }) (va_Pc [.ref a, .int p1, .int p2] (hPre D g σ Z M N R)) (hQi D g σ e_h_hasOther_X1 M (fun (r : Int32) (M1 : hM) (N1 : hN) (R1 : hR) => M = M1 ∧ N = N1 ∧ R = R1 ∧ iv r 0 1)) 0 0 (hA σ) := by
  refine h_head (cc := cX1_hasOther) (maxL := 3) (ret := (some .boolean)) (by decide) rfl (Nat.le_of_ble_eq_true rfl) e_h_hasOther_X1 ?_
  intro p e s m below meth c ls Q ar hQ hx hb hr hlocks hml hown hts hK hE H locs hI hl
  have hown : s.vm.findClass RX1 = some m.cls := hown
  have hl : lv_has ls 3 [(0, .ref a), (1, .int p1), (2, .int p2)] := hl
  refine lv_aload_n hx hb dX1_hasOther_0 rfl (lv_at hl 0 rfl) ?_
  refine h_getr hx hb hts iX1_hasOther_X1 hown hK hI g_a (by decide) rfl rfl 3 (by decide) rfl 15 rfl (hts (.fieldLink RX1 22 "CatLeases$Auction" "otherLikings" "[I") (List.mem_of_getElem? (i := 1) rfl)) (fun _ h9 => h9) dX1_hasOther_1 (fun a1 e_a1 g_a1 => ?_)
  refine lv_iload_n hx hb dX1_hasOther_4 rfl (lv_at hl 2 rfl) ?_
  refine h_iald (j := p2.toNatClampNeg) (lo := (-2147483648)) (hi := 2147483647) hx hb hK hI g_a1 (by decide) rfl (iv_in (n := 6) h_p2 (by decide) (by decide)) rfl (iv_any _) dX1_hasOther_5 (fun v2 e_v2 i_v2 => ?_)
  refine lv_if_le (tgt := 28) hx hb dX1_hasOther_6 (by decide) (fun c3 => ?_) (fun c3 => ?_)
  · have i4 : iv v2 (-2147483648) 0 := iv_le1 c3 i_v2 kc_0 (by decide)
    refine lv_iconst (v := 0) hx hb dX1_hasOther_28 (by decide) ?_
    exact h_iret hQ hx hb hr hlocks rfl hK hI ⟨rfl, rfl, rfl, (iv_w (lo' := 0) (hi' := 1) kc_0 (by decide) (by decide))⟩ dX1_hasOther_29
  · have i5 : iv v2 1 2147483647 := iv_nle1 c3 i_v2 kc_0 (by decide)
    refine lv_aload_n hx hb dX1_hasOther_9 rfl (lv_at hl 0 rfl) ?_
    refine h_getr hx hb hts iX1_hasOther_X1 hown hK hI g_a (by decide) rfl rfl 3 (by decide) rfl 15 rfl (hts (.fieldLink RX1 22 "CatLeases$Auction" "otherLikings" "[I") (List.mem_of_getElem? (i := 1) rfl)) (fun _ h9 => h9) dX1_hasOther_10 (fun a6 e_a6 g_a6 => ?_)
    have q7 : a1 = a6 := (e_a1).trans e_a6.symm
    subst q7
    refine lv_iload_n hx hb dX1_hasOther_13 rfl (lv_at hl 2 rfl) ?_
    refine h_iald (j := p2.toNatClampNeg) (lo := (-2147483648)) (hi := 2147483647) hx hb hK hI g_a1 (by decide) rfl (iv_in (n := 6) h_p2 (by decide) (by decide)) rfl (iv_any _) dX1_hasOther_14 (fun v8 e_v8 i_v8 => ?_)
    have q9 : v2 = v8 := (e_v2).trans e_v8.symm
    subst q9
    refine lv_aload_n hx hb dX1_hasOther_15 rfl (lv_at hl 0 rfl) ?_
    refine h_getr hx hb hts iX1_hasOther_X1 hown hK hI g_a (by decide) rfl rfl 2 (by decide) rfl 15 rfl (hts (.fieldLink RX1 18 "CatLeases$Auction" "firstLikings" "[I") (List.mem_of_getElem? (i := 2) rfl)) (fun _ h9 => h9) dX1_hasOther_16 (fun a10 e_a10 g_a10 => ?_)
    refine lv_iload_n hx hb dX1_hasOther_19 rfl (lv_at hl 1 rfl) ?_
    refine h_iald (j := p1.toNatClampNeg) (lo := (-2147483648)) (hi := 2147483647) hx hb hK hI g_a10 (by decide) rfl (iv_in (n := 6) h_p1 (by decide) (by decide)) rfl (iv_any _) dX1_hasOther_20 (fun v11 e_v11 i_v11 => ?_)
    refine lv_icmp_le (tgt := 28) hx hb dX1_hasOther_21 (by decide) (fun c12 => ?_) (fun c12 => ?_)
    · have i13 : iv v11 1 2147483647 := iv_le2 c12 i5 i_v11 (by decide)
      refine lv_iconst (v := 0) hx hb dX1_hasOther_28 (by decide) ?_
      exact h_iret hQ hx hb hr hlocks rfl hK hI ⟨rfl, rfl, rfl, (iv_w (lo' := 0) (hi' := 1) kc_0 (by decide) (by decide))⟩ dX1_hasOther_29
    · have i14 : iv v11 (-2147483648) 2147483646 := iv_nle2 c12 i5 i_v11 (by decide)
      refine lv_iconst (v := 1) hx hb dX1_hasOther_24 (by decide) ?_
      refine lv_goto (tgt := 29) hx hb dX1_hasOther_25 (by decide) ?_
      exact h_iret hQ hx hb hr hlocks rfl hK hI ⟨rfl, rfl, rfl, (iv_w (lo' := 0) (hi' := 1) kc_1 (by decide) (by decide))⟩ dX1_hasOther_29
abbrev e_h_isBetter_X1 : List (Nat × Nat) := []
set_option maxHeartbeats 4000000 in
set_option maxRecDepth 100000 in
theorem h_isBetter_X1 (l : Launch) (D : va_G) (g : Nat → ClassId) (σ : Nat → Option Nat) (Z : State → Heap → Prop) (hZ0 : hZ σ Z) (M : hM) (N : hN) (R : hR) (p0 : Int32) (h_p0 : iv p0 0 1) (p1 : Int32) (p2 : Int32) (h_p2 : iv p2 0 1) (p3 : Int32) : Met l yX1_isBetter wsX1_isBetter ({ frames := 0, cells := 0, slots := 0, locals := 0 }) (va_Pc [.int p0, .int p1, .int p2, .int p3] (hPre D g σ Z M N R)) (hQi D g σ e_h_isBetter_X1 M (fun (r : Int32) (M1 : hM) (N1 : hN) (R1 : hR) => M = M1 ∧ N = N1 ∧ R = R1 ∧ iv r 0 1)) 0 0 (hA σ) := by
  refine h_head (cc := cX1_isBetter) (maxL := 4) (ret := (some .boolean)) (by decide) rfl (Nat.le_of_ble_eq_true rfl) e_h_isBetter_X1 ?_
  intro p e s m below meth c ls Q ar hQ hx hb hr hlocks hml hown hts hK hE H locs hI hl
  have hown : s.vm.findClass RX1 = some m.cls := hown
  have hl : lv_has ls 4 [(0, .int p0), (1, .int p1), (2, .int p2), (3, .int p3)] := hl
  refine lv_iload_n hx hb dX1_isBetter_0 rfl (lv_at hl 0 rfl) ?_
  refine lv_iload_n hx hb dX1_isBetter_1 rfl (lv_at hl 2 rfl) ?_
  refine lv_icmp_ne (tgt := 18) hx hb dX1_isBetter_2 (by decide) (fun c1 => ?_) (fun c1 => ?_)
  · refine lv_iload_n hx hb dX1_isBetter_18 rfl (lv_at hl 0 rfl) ?_
    exact h_iret hQ hx hb hr hlocks (nar_z h_p0) hK hI ⟨rfl, rfl, rfl, h_p0⟩ dX1_isBetter_19
  · refine lv_iload_n hx hb dX1_isBetter_5 rfl (lv_at hl 1 rfl) ?_
    refine lv_iload_n hx hb dX1_isBetter_6 rfl (lv_at hl 3 rfl) ?_
    refine lv_icmp_ge (tgt := 14) hx hb dX1_isBetter_7 (by decide) (fun c2 => ?_) (fun c2 => ?_)
    · refine lv_iconst (v := 0) hx hb dX1_isBetter_14 (by decide) ?_
      refine lv_goto (tgt := 19) hx hb dX1_isBetter_15 (by decide) ?_
      exact h_iret hQ hx hb hr hlocks rfl hK hI ⟨rfl, rfl, rfl, (iv_w (lo' := 0) (hi' := 1) kc_0 (by decide) (by decide))⟩ dX1_isBetter_19
    · have i3 : iv p3 (-2147483647) 2147483647 := iv_nle1 c2 (iv_any p3) (iv_any p1) (by decide)
      have i4 : iv p1 (-2147483648) 2147483646 := iv_nle2 c2 (iv_any p3) (iv_any p1) (by decide)
      refine lv_iconst (v := 1) hx hb dX1_isBetter_10 (by decide) ?_
      refine lv_goto (tgt := 19) hx hb dX1_isBetter_11 (by decide) ?_
      exact h_iret hQ hx hb hr hlocks rfl hK hI ⟨rfl, rfl, rfl, (iv_w (lo' := 0) (hi' := 1) kc_1 (by decide) (by decide))⟩ dX1_isBetter_19
abbrev e_h_isRest_X1 : List (Nat × Nat) := []
set_option maxHeartbeats 4000000 in
set_option maxRecDepth 100000 in
theorem h_isRest_X1 (l : Launch) (D : va_G) (g : Nat → ClassId) (σ : Nat → Option Nat) (Z : State → Heap → Prop) (hZ0 : hZ σ Z) (M : hM) (N : hN) (R : hR) (a : Nat) (g_a : σ a = some 1) (p1 : Int32) (h_p1 : iv p1 0 5) (p2 : Int32) (h_p2 : iv p2 0 5) : Met l yX1_isRest wsX1_isRest ({ frames := 1, cells := 0, slots := 0, locals := 23 }) (va_Pc [.ref a, .int p1, .int p2] (hPre D g σ Z M N R)) (hQi D g σ e_h_isRest_X1 M (fun (r : Int32) (M1 : hM) (N1 : hN) (R1 : hR) => M = M1 ∧ N = N1 ∧ R = R1 ∧ iv r 0 1)) 0 0 (hA σ) := by
  refine h_head (cc := cX1_isRest) (maxL := 6) (ret := (some .boolean)) (by decide) rfl (Nat.le_of_ble_eq_true rfl) e_h_isRest_X1 ?_
  intro p e s m below meth c ls Q ar hQ hx hb hr hlocks hml hown hts hK hE H locs hI hl
  have hown : s.vm.findClass RX1 = some m.cls := hown
  have hl : lv_has ls 6 [(0, .ref a), (1, .int p1), (2, .int p2)] := hl
  refine lv_aload_n hx hb dX1_isRest_0 rfl (lv_at hl 0 rfl) ?_
  refine lv_iload_n hx hb dX1_isRest_1 rfl (lv_at hl 1 rfl) ?_
  refine lv_iload_n hx hb dX1_isRest_2 rfl (lv_at hl 2 rfl) ?_
  refine h_goi hI (by decide) (va_runV (As := [.int p1, .int p2]) (rest := []) ⟨hx, hb, hml, hown, hts⟩ (h_hasFirst_X1 l D g σ Z hZ0 M N R a g_a p1 h_p1 p2 h_p2) (cwV 2 hts gX1_isRest_X1_hasFirst rfl rfl rfl (by decide +kernel) ⟨Nat.le_of_ble_eq_true rfl, Nat.le_of_ble_eq_true rfl⟩) (h_preV hZ0 hK hE hI g_a (by decide) rfl) rfl rfl hl.1 rfl (lv_room (Nat.le_of_ble_eq_true rfl)) dX1_isRest_3 ⟨Nat.le_of_ble_eq_true rfl, Nat.le_of_ble_eq_true rfl⟩) (fun r1 M2 N3 R4 H locs q5 z_M2 hI => ?_)
  obtain ⟨rfl, rfl, rfl, i_r1⟩ := q5
  refine lv_istore_n (lv' := [(3, .int r1), (0, .ref a), (1, .int p1), (2, .int p2)]) hx hb dX1_isRest_6 rfl hl (by decide) rfl (fun ls hl => ?_)
  refine lv_iconst (v := 0) hx hb dX1_isRest_7 (by decide) ?_
  have J10 : ∀ (n : Nat) (v4_10 : Int32) (H : Heap) (locs : List Loc) (ls : Array Slot), kI D g σ e_h_isRest_X1 M s.heap M N R H locs → lv_has ls 6 [(0, .ref a), (1, .int p1), (2, .int p2), (3, .int r1), (4, .int v4_10)] → iv v4_10 0 6 → 7 ≤ v4_10.toInt + (n : Int) → W p l e (headSpec wsX1_isRest ({ frames := 1, cells := 0, slots := 0, locals := 23 })).room s m ar below meth c H locs 0 0 Q (F0 m 10 ls []) := by
    intro n
    induction n with
    | zero => intro v4_10 H locs ls hI hl i_v4_10 hn; exfalso; have hz := i_v4_10; simp only [iv] at hz; omega
    | succ n ih10 =>
      intro v4_10 H locs ls hI hl i_v4_10 hn10
      refine lv_iload hx hb dX1_isRest_10 (lv_at hl 4 rfl) ?_
      refine lv_aload_n hx hb dX1_isRest_12 rfl (lv_at hl 0 rfl) ?_
      refine h_geti (lo := (-2147483648)) (hi := 5) hx hb hts iX1_isRest_X1 hown hK hI g_a (by decide) rfl rfl 4 (by decide) rfl rfl (hts (.fieldLink RX1 25 "CatLeases$Auction" "firstMost" "I") (List.mem_of_getElem? (i := 1) rfl)) (fun _ h9 => h9) dX1_isRest_13 (fun v6 e_v6 i_v6 => ?_)
      refine lv_icmp_gt (tgt := 44) hx hb dX1_isRest_16 (by decide) (fun c7 => ?_) (fun c7 => ?_)
      · refine lv_aload_n hx hb dX1_isRest_44 rfl (lv_at hl 0 rfl) ?_
        refine lv_iload_n hx hb dX1_isRest_45 rfl (lv_at hl 1 rfl) ?_
        refine lv_iload_n hx hb dX1_isRest_46 rfl (lv_at hl 2 rfl) ?_
        refine h_goi hI (by decide) (va_runV (As := [.int p1, .int p2]) (rest := []) ⟨hx, hb, hml, hown, hts⟩ (h_hasOther_X1 l D g σ Z hZ0 M N R a g_a p1 h_p1 p2 h_p2) (cwV 2 hts gX1_isRest_X1_hasOther rfl rfl rfl (by decide +kernel) ⟨Nat.le_of_ble_eq_true rfl, Nat.le_of_ble_eq_true rfl⟩) (h_preV hZ0 hK hE hI g_a (by decide) rfl) rfl rfl hl.1 rfl (lv_room (Nat.le_of_ble_eq_true rfl)) dX1_isRest_47 ⟨Nat.le_of_ble_eq_true rfl, Nat.le_of_ble_eq_true rfl⟩) (fun r8 M9 N10 R11 H locs q12 z_M9 hI => ?_)
        obtain ⟨rfl, rfl, rfl, i_r8⟩ := q12
        refine lv_istore (lv' := [(4, .int r8), (0, .ref a), (1, .int p1), (2, .int p2), (3, .int r1)]) hx hb dX1_isRest_50 hl (by decide) rfl (fun ls hl => ?_)
        refine lv_iconst (v := 0) hx hb dX1_isRest_52 (by decide) ?_
        have J55 : ∀ (n : Nat) (v5_55 : Int32) (H : Heap) (locs : List Loc) (ls : Array Slot), kI D g σ e_h_isRest_X1 M s.heap M N R H locs → lv_has ls 6 [(0, .ref a), (1, .int p1), (2, .int p2), (4, .int r8), (5, .int v5_55)] → iv v5_55 0 6 → 7 ≤ v5_55.toInt + (n : Int) → W p l e (headSpec wsX1_isRest ({ frames := 1, cells := 0, slots := 0, locals := 23 })).room s m ar below meth c H locs 0 0 Q (F0 m 55 ls []) := by
          intro n
          induction n with
          | zero => intro v5_55 H locs ls hI hl i_v5_55 hn; exfalso; have hz := i_v5_55; simp only [iv] at hz; omega
          | succ n ih55 =>
            intro v5_55 H locs ls hI hl i_v5_55 hn55
            refine lv_iload hx hb dX1_isRest_55 (lv_at hl 4 rfl) ?_
            refine lv_aload_n hx hb dX1_isRest_57 rfl (lv_at hl 0 rfl) ?_
            refine h_geti (lo := (-2147483648)) (hi := 5) hx hb hts iX1_isRest_X1 hown hK hI g_a (by decide) rfl rfl 5 (by decide) rfl rfl (hts (.fieldLink RX1 28 "CatLeases$Auction" "otherMost" "I") (List.mem_of_getElem? (i := 2) rfl)) (fun _ h9 => h9) dX1_isRest_58 (fun v13 e_v13 i_v13 => ?_)
            refine lv_icmp_gt (tgt := 90) hx hb dX1_isRest_61 (by decide) (fun c14 => ?_) (fun c14 => ?_)
            · refine lv_iconst (v := 1) hx hb dX1_isRest_90 (by decide) ?_
              exact h_iret hQ hx hb hr hlocks rfl hK hI ⟨rfl, rfl, rfl, (iv_w (lo' := 0) (hi' := 1) kc_1 (by decide) (by decide))⟩ dX1_isRest_91
            · have i15 : iv v13 0 5 := iv_nlt1 c14 i_v13 i_v5_55 (by decide)
              have i16 : iv v5_55 0 5 := iv_nlt2 c14 i_v13 i_v5_55 (by decide)
              refine lv_aload_n hx hb dX1_isRest_64 rfl (lv_at hl 0 rfl) ?_
              refine lv_iload_n hx hb dX1_isRest_65 rfl (lv_at hl 1 rfl) ?_
              refine lv_iload hx hb dX1_isRest_66 (lv_at hl 4 rfl) ?_
              refine h_goi hI (by decide) (va_runV (As := [.int p1, .int v5_55]) (rest := []) ⟨hx, hb, hml, hown, hts⟩ (h_hasOther_X1 l D g σ Z hZ0 M N R a g_a p1 h_p1 v5_55 i16) (cwV 2 hts gX1_isRest_X1_hasOther rfl rfl rfl (by decide +kernel) ⟨Nat.le_of_ble_eq_true rfl, Nat.le_of_ble_eq_true rfl⟩) (h_preV hZ0 hK hE hI g_a (by decide) rfl) rfl rfl hl.1 rfl (lv_room (Nat.le_of_ble_eq_true rfl)) dX1_isRest_68 ⟨Nat.le_of_ble_eq_true rfl, Nat.le_of_ble_eq_true rfl⟩) (fun r17 M18 N19 R20 H locs q21 z_M18 hI => ?_)
              obtain ⟨rfl, rfl, rfl, i_r17⟩ := q21
              refine lv_iload hx hb dX1_isRest_71 (lv_at hl 4 rfl) ?_
              refine lv_iload hx hb dX1_isRest_73 (lv_at hl 3 rfl) ?_
              refine lv_iload_n hx hb dX1_isRest_75 rfl (lv_at hl 2 rfl) ?_
              refine h_goi hI (by decide) (va_runS (As := [.int r17, .int v5_55, .int r8, .int p2]) (rest := []) ⟨hx, hb, hml, hown, hts⟩ (h_isBetter_X1 l D g σ Z hZ0 M N R r17 i_r17 v5_55 r8 i_r8 p2) (va_cwS 4 hts gX1_isRest_X1_isBetter rfl rfl rfl (by decide +kernel) ⟨Nat.le_of_ble_eq_true rfl, Nat.le_of_ble_eq_true rfl⟩) (h_preS hZ0 hK hE hI) rfl rfl hl.1 rfl (lv_room (Nat.le_of_ble_eq_true rfl)) dX1_isRest_76 ⟨Nat.le_of_ble_eq_true rfl, Nat.le_of_ble_eq_true rfl⟩) (fun r22 M23 N24 R25 H locs q26 z_M23 hI => ?_)
              obtain ⟨rfl, rfl, rfl, i_r22⟩ := q26
              refine lv_if_eq (tgt := 84) hx hb dX1_isRest_79 (by decide) (fun c27 => ?_) (fun c27 => ?_)
              · have i28 : iv r22 0 0 := iv_eq1 c27 i_r22 kc_0
                obtain ⟨v29, e_v29⟩ : ∃ z : Int32, z = v5_55 + Int32.ofInt 1 := ⟨_, rfl⟩
                have i_v29 : iv v29 1 6 := by rw [e_v29]; exact iv_add i16 (ki_1) (by decide) (by decide) (by decide) (by decide)
                refine lv_iinc (v := v29) (lv' := [(5, .int v29), (0, .ref a), (1, .int p1), (2, .int p2), (4, .int r8)]) hx hb dX1_isRest_84 hl (k := 4) rfl e_v29.symm (by decide) rfl (fun ls hl => ?_)
                refine lv_goto (tgt := 55) hx hb dX1_isRest_87 (by decide) ?_
                exact ih55 v29 H locs ls hI (lv_sub hl [1, 2, 3, 4, 0] rfl) (iv_w (lo' := 0) (hi' := 6) i_v29 (by decide) (by decide)) (by have h9 := (h_inc e_v29 i16 ki_1 (by decide) (by decide)); omega)
              · have i30 : iv r22 1 1 := iv_neL c27 i_r22 (by decide) (by decide)
                refine lv_iconst (v := 0) hx hb dX1_isRest_82 (by decide) ?_
                exact h_iret hQ hx hb hr hlocks rfl hK hI ⟨rfl, rfl, rfl, (iv_w (lo' := 0) (hi' := 1) kc_0 (by decide) (by decide))⟩ dX1_isRest_83
        refine lv_istore (lv' := [(5, .int (0 : Int32)), (4, .int r8), (0, .ref a), (1, .int p1), (2, .int p2), (3, .int r1)]) hx hb dX1_isRest_53 hl (by decide) rfl (fun ls hl => ?_)
        exact J55 7 (0 : Int32) H locs ls hI (lv_sub hl [2, 3, 4, 1, 0] rfl) (iv_w (lo' := 0) (hi' := 6) kc_0 (by decide) (by decide)) (by have h9 := kc_0; simp only [iv] at h9; omega)
      · have i31 : iv v6 0 5 := iv_nlt1 c7 i_v6 i_v4_10 (by decide)
        have i32 : iv v4_10 0 5 := iv_nlt2 c7 i_v6 i_v4_10 (by decide)
        refine lv_aload_n hx hb dX1_isRest_19 rfl (lv_at hl 0 rfl) ?_
        refine lv_iload hx hb dX1_isRest_20 (lv_at hl 4 rfl) ?_
        refine lv_iload_n hx hb dX1_isRest_22 rfl (lv_at hl 2 rfl) ?_
        refine h_goi hI (by decide) (va_runV (As := [.int v4_10, .int p2]) (rest := []) ⟨hx, hb, hml, hown, hts⟩ (h_hasFirst_X1 l D g σ Z hZ0 M N R a g_a v4_10 i32 p2 h_p2) (cwV 2 hts gX1_isRest_X1_hasFirst rfl rfl rfl (by decide +kernel) ⟨Nat.le_of_ble_eq_true rfl, Nat.le_of_ble_eq_true rfl⟩) (h_preV hZ0 hK hE hI g_a (by decide) rfl) rfl rfl hl.1 rfl (lv_room (Nat.le_of_ble_eq_true rfl)) dX1_isRest_23 ⟨Nat.le_of_ble_eq_true rfl, Nat.le_of_ble_eq_true rfl⟩) (fun r33 M34 N35 R36 H locs q37 z_M34 hI => ?_)
        obtain ⟨rfl, rfl, rfl, i_r33⟩ := q37
        refine lv_iload hx hb dX1_isRest_26 (lv_at hl 4 rfl) ?_
        refine lv_iload_n hx hb dX1_isRest_28 rfl (lv_at hl 3 rfl) ?_
        refine lv_iload_n hx hb dX1_isRest_29 rfl (lv_at hl 1 rfl) ?_
        refine h_goi hI (by decide) (va_runS (As := [.int r33, .int v4_10, .int r1, .int p1]) (rest := []) ⟨hx, hb, hml, hown, hts⟩ (h_isBetter_X1 l D g σ Z hZ0 M N R r33 i_r33 v4_10 r1 i_r1 p1) (va_cwS 4 hts gX1_isRest_X1_isBetter rfl rfl rfl (by decide +kernel) ⟨Nat.le_of_ble_eq_true rfl, Nat.le_of_ble_eq_true rfl⟩) (h_preS hZ0 hK hE hI) rfl rfl hl.1 rfl (lv_room (Nat.le_of_ble_eq_true rfl)) dX1_isRest_30 ⟨Nat.le_of_ble_eq_true rfl, Nat.le_of_ble_eq_true rfl⟩) (fun r38 M39 N40 R41 H locs q42 z_M39 hI => ?_)
        obtain ⟨rfl, rfl, rfl, i_r38⟩ := q42
        refine lv_if_eq (tgt := 38) hx hb dX1_isRest_33 (by decide) (fun c43 => ?_) (fun c43 => ?_)
        · have i44 : iv r38 0 0 := iv_eq1 c43 i_r38 kc_0
          obtain ⟨v45, e_v45⟩ : ∃ z : Int32, z = v4_10 + Int32.ofInt 1 := ⟨_, rfl⟩
          have i_v45 : iv v45 1 6 := by rw [e_v45]; exact iv_add i32 (ki_1) (by decide) (by decide) (by decide) (by decide)
          refine lv_iinc (v := v45) (lv' := [(4, .int v45), (0, .ref a), (1, .int p1), (2, .int p2), (3, .int r1)]) hx hb dX1_isRest_38 hl (k := 4) rfl e_v45.symm (by decide) rfl (fun ls hl => ?_)
          refine lv_goto (tgt := 10) hx hb dX1_isRest_41 (by decide) ?_
          exact ih10 v45 H locs ls hI (lv_sub hl [1, 2, 3, 4, 0] rfl) (iv_w (lo' := 0) (hi' := 6) i_v45 (by decide) (by decide)) (by have h9 := (h_inc e_v45 i32 ki_1 (by decide) (by decide)); omega)
        · have i46 : iv r38 1 1 := iv_neL c43 i_r38 (by decide) (by decide)
          refine lv_iconst (v := 0) hx hb dX1_isRest_36 (by decide) ?_
          exact h_iret hQ hx hb hr hlocks rfl hK hI ⟨rfl, rfl, rfl, (iv_w (lo' := 0) (hi' := 1) kc_0 (by decide) (by decide))⟩ dX1_isRest_37
  refine lv_istore (lv' := [(4, .int (0 : Int32)), (3, .int r1), (0, .ref a), (1, .int p1), (2, .int p2)]) hx hb dX1_isRest_8 hl (by decide) rfl (fun ls hl => ?_)
  exact J10 7 (0 : Int32) H locs ls hI (lv_sub hl [2, 3, 4, 1, 0] rfl) (iv_w (lo' := 0) (hi' := 6) kc_0 (by decide) (by decide)) (by have h9 := kc_0; simp only [iv] at h9; omega)
abbrev e_h_countRests_X1 : List (Nat × Nat) := [(1, 0), (1, 1)]
set_option maxHeartbeats 4000000 in
set_option maxRecDepth 100000 in
theorem h_countRests_X1 (l : Launch) (D : va_G) (g : Nat → ClassId) (σ : Nat → Option Nat) (Z : State → Heap → Prop) (hZ0 : hZ σ Z) (M : hM) (N : hN) (R : hR) (a : Nat) (g_a : σ a = some 1) : Met l yX1_countRests wsX1_countRests ({ frames := 2, cells := 0, slots := 0, locals := 48 }) (va_Pc [.ref a] (hPre D g σ Z M N R)) (hQi D g σ e_h_countRests_X1 M (fun (r : Int32) (M1 : hM) (N1 : hN) (R1 : hR) => N = N1 ∧ R = R1)) 0 0 (hA σ) := by
  refine h_head (cc := cX1_countRests) (maxL := 4) (ret := (some .int)) (by decide) rfl (Nat.le_of_ble_eq_true rfl) e_h_countRests_X1 ?_
  intro p e s m below meth c ls Q ar hQ hx hb hr hlocks hml hown hts hK hE H locs hI hl
  have hown : s.vm.findClass RX1 = some m.cls := hown
  have hl : lv_has ls 4 [(0, .ref a)] := hl
  refine lv_iconst (v := 0) hx hb dX1_countRests_0 (by decide) ?_
  refine lv_istore_n (lv' := [(1, .int (0 : Int32)), (0, .ref a)]) hx hb dX1_countRests_1 rfl hl (by decide) rfl (fun ls hl => ?_)
  refine lv_iconst (v := 0) hx hb dX1_countRests_2 (by decide) ?_
  have J4 : ∀ (n : Nat) (M_4 : hM) (v1_4 : Int32) (v2_4 : Int32) (H : Heap) (locs : List Loc) (ls : Array Slot), kI D g σ e_h_countRests_X1 M s.heap M_4 N R H locs → lv_has ls 4 [(0, .ref a), (1, .int v1_4), (2, .int v2_4)] → iv v2_4 0 6 → 7 ≤ v2_4.toInt + (n : Int) → W p l e (headSpec wsX1_countRests ({ frames := 2, cells := 0, slots := 0, locals := 48 })).room s m ar below meth c H locs 0 0 Q (F0 m 4 ls []) := by
    intro n
    induction n with
    | zero => intro M_4 v1_4 v2_4 H locs ls hI hl i_v2_4 hn; exfalso; have hz := i_v2_4; simp only [iv] at hz; omega
    | succ n ih4 =>
      intro M_4 v1_4 v2_4 H locs ls hI hl i_v2_4 hn4
      refine lv_iload_n hx hb dX1_countRests_4 rfl (lv_at hl 2 rfl) ?_
      refine lv_aload_n hx hb dX1_countRests_5 rfl (lv_at hl 0 rfl) ?_
      refine h_geti (lo := (-2147483648)) (hi := 5) hx hb hts iX1_countRests_X1 hown hK hI g_a (by decide) rfl rfl 4 (by decide) rfl rfl (hts (.fieldLink RX1 25 "CatLeases$Auction" "firstMost" "I") (List.mem_of_getElem? (i := 1) rfl)) (fun _ h9 => h9) dX1_countRests_6 (fun v1 e_v1 i_v1 => ?_)
      refine lv_icmp_gt (tgt := 60) hx hb dX1_countRests_9 (by decide) (fun c2 => ?_) (fun c2 => ?_)
      · refine lv_iload_n hx hb dX1_countRests_60 rfl (lv_at hl 1 rfl) ?_
        exact h_iret hQ hx hb hr hlocks rfl hK hI ⟨rfl, rfl⟩ dX1_countRests_61
      · have i3 : iv v1 0 5 := iv_nlt1 c2 i_v1 i_v2_4 (by decide)
        have i4 : iv v2_4 0 5 := iv_nlt2 c2 i_v1 i_v2_4 (by decide)
        refine lv_iconst (v := 0) hx hb dX1_countRests_12 (by decide) ?_
        have J14 : ∀ (n : Nat) (M_14 : hM) (v1_14 : Int32) (v3_14 : Int32) (H : Heap) (locs : List Loc) (ls : Array Slot), kI D g σ e_h_countRests_X1 M s.heap M_14 N R H locs → lv_has ls 4 [(0, .ref a), (1, .int v1_14), (2, .int v2_4), (3, .int v3_14)] → v1 = M_14 a 4 → iv v3_14 0 6 → 7 ≤ v3_14.toInt + (n : Int) → W p l e (headSpec wsX1_countRests ({ frames := 2, cells := 0, slots := 0, locals := 48 })).room s m ar below meth c H locs 0 0 Q (F0 m 14 ls []) := by
          intro n
          induction n with
          | zero => intro M_14 v1_14 v3_14 H locs ls hI hl k0_14 i_v3_14 hn; exfalso; have hz := i_v3_14; simp only [iv] at hz; omega
          | succ n ih14 =>
            intro M_14 v1_14 v3_14 H locs ls hI hl k0_14 i_v3_14 hn14
            refine lv_iload_n hx hb dX1_countRests_14 rfl (lv_at hl 3 rfl) ?_
            refine lv_aload_n hx hb dX1_countRests_15 rfl (lv_at hl 0 rfl) ?_
            refine h_geti (lo := (-2147483648)) (hi := 5) hx hb hts iX1_countRests_X1 hown hK hI g_a (by decide) rfl rfl 5 (by decide) rfl rfl (hts (.fieldLink RX1 28 "CatLeases$Auction" "otherMost" "I") (List.mem_of_getElem? (i := 2) rfl)) (fun _ h9 => h9) dX1_countRests_16 (fun v5 e_v5 i_v5 => ?_)
            refine lv_icmp_gt (tgt := 54) hx hb dX1_countRests_19 (by decide) (fun c6 => ?_) (fun c6 => ?_)
            · obtain ⟨v7, e_v7⟩ : ∃ z : Int32, z = v2_4 + Int32.ofInt 1 := ⟨_, rfl⟩
              have i_v7 : iv v7 1 6 := by rw [e_v7]; exact iv_add i4 (ki_1) (by decide) (by decide) (by decide) (by decide)
              refine lv_iinc (v := v7) (lv' := [(2, .int v7), (0, .ref a), (1, .int v1_14), (3, .int v3_14)]) hx hb dX1_countRests_54 hl (k := 2) rfl e_v7.symm (by decide) rfl (fun ls hl => ?_)
              refine lv_goto (tgt := 4) hx hb dX1_countRests_57 (by decide) ?_
              exact ih4 M_14 v1_14 v7 H locs ls hI (lv_sub hl [1, 2, 0] rfl) (iv_w (lo' := 0) (hi' := 6) i_v7 (by decide) (by decide)) (by have h9 := (h_inc e_v7 i4 ki_1 (by decide) (by decide)); omega)
            · have i8 : iv v5 0 5 := iv_nlt1 c6 i_v5 i_v3_14 (by decide)
              have i9 : iv v3_14 0 5 := iv_nlt2 c6 i_v5 i_v3_14 (by decide)
              refine lv_aload_n hx hb dX1_countRests_22 rfl (lv_at hl 0 rfl) ?_
              refine lv_iload_n hx hb dX1_countRests_23 rfl (lv_at hl 2 rfl) ?_
              refine lv_iload_n hx hb dX1_countRests_24 rfl (lv_at hl 3 rfl) ?_
              refine h_goi hI (by decide) (va_runV (As := [.int v2_4, .int v3_14]) (rest := []) ⟨hx, hb, hml, hown, hts⟩ (h_isRest_X1 l D g σ Z hZ0 M_14 N R a g_a v2_4 i4 v3_14 i9) (cwV 2 hts gX1_countRests_X1_isRest rfl rfl rfl (by decide +kernel) ⟨Nat.le_of_ble_eq_true rfl, Nat.le_of_ble_eq_true rfl⟩) (h_preV hZ0 hK hE hI g_a (by decide) rfl) rfl rfl hl.1 rfl (lv_room (Nat.le_of_ble_eq_true rfl)) dX1_countRests_25 ⟨Nat.le_of_ble_eq_true rfl, Nat.le_of_ble_eq_true rfl⟩) (fun r10 M11 N12 R13 H locs q14 z_M11 hI => ?_)
              obtain ⟨rfl, rfl, rfl, i_r10⟩ := q14
              have J48 : ∀ (M_48 : hM) (v1_48 : Int32) (H : Heap) (locs : List Loc) (ls : Array Slot), kI D g σ e_h_countRests_X1 M s.heap M_48 N R H locs → lv_has ls 4 [(0, .ref a), (1, .int v1_48), (2, .int v2_4), (3, .int v3_14)] → v1 = M_48 a 4 → v5 = M_48 a 5 → W p l e (headSpec wsX1_countRests ({ frames := 2, cells := 0, slots := 0, locals := 48 })).room s m ar below meth c H locs 0 0 Q (F0 m 48 ls []) := by
                intro M_48 v1_48 H locs ls hI hl k0_48 k1_48
                obtain ⟨v15, e_v15⟩ : ∃ z : Int32, z = v3_14 + Int32.ofInt 1 := ⟨_, rfl⟩
                have i_v15 : iv v15 1 6 := by rw [e_v15]; exact iv_add i9 (ki_1) (by decide) (by decide) (by decide) (by decide)
                refine lv_iinc (v := v15) (lv' := [(3, .int v15), (0, .ref a), (1, .int v1_48), (2, .int v2_4)]) hx hb dX1_countRests_48 hl (k := 3) rfl e_v15.symm (by decide) rfl (fun ls hl => ?_)
                refine lv_goto (tgt := 14) hx hb dX1_countRests_51 (by decide) ?_
                exact ih14 M_48 v1_48 v15 H locs ls hI (lv_sub hl [1, 2, 3, 0] rfl) (k0_48) (iv_w (lo' := 0) (hi' := 6) i_v15 (by decide) (by decide)) (by have h9 := (h_inc e_v15 i9 ki_1 (by decide) (by decide)); omega)
              refine lv_if_eq (tgt := 48) hx hb dX1_countRests_28 (by decide) (fun c16 => ?_) (fun c16 => ?_)
              · have i17 : iv r10 0 0 := iv_eq1 c16 i_r10 kc_0
                exact J48 M_14 v1_14 H locs ls hI hl (k0_14) (e_v5)
              · have i18 : iv r10 1 1 := iv_neL c16 i_r10 (by decide) (by decide)
                refine lv_iload_n hx hb dX1_countRests_31 rfl (lv_at hl 1 rfl) ?_
                have J45 : ∀ (M_45 : hM) (H : Heap) (locs : List Loc) (ls : Array Slot), kI D g σ e_h_countRests_X1 M s.heap M_45 N R H locs → lv_has ls 4 [(0, .ref a), (1, .int v1_14), (2, .int v2_4), (3, .int v3_14)] → v1 = M_45 a 4 → v5 = M_45 a 5 → W p l e (headSpec wsX1_countRests ({ frames := 2, cells := 0, slots := 0, locals := 48 })).room s m ar below meth c H locs 0 0 Q (F0 m 45 ls []) := by
                  intro M_45 H locs ls hI hl k0_45 k1_45
                  obtain ⟨v19, e_v19⟩ : ∃ z : Int32, z = v1_14 + Int32.ofInt 1 := ⟨_, rfl⟩
                  refine lv_iinc (v := v19) (lv' := [(1, .int v19), (0, .ref a), (2, .int v2_4), (3, .int v3_14)]) hx hb dX1_countRests_45 hl (k := 1) rfl e_v19.symm (by decide) rfl (fun ls hl => ?_)
                  exact J48 M_45 v19 H locs ls hI (lv_sub hl [1, 0, 2, 3] rfl) (k0_45) (k1_45)
                refine lv_if_ne (tgt := 45) hx hb dX1_countRests_32 (by decide) (fun c20 => ?_) (fun c20 => ?_)
                · exact J45 M_14 H locs ls hI hl (k0_14) (e_v5)
                · have i21 : iv v1_14 0 0 := iv_eq1 c20 (iv_any v1_14) kc_0
                  refine lv_aload_n hx hb dX1_countRests_35 rfl (lv_at hl 0 rfl) ?_
                  refine lv_iload_n hx hb dX1_countRests_36 rfl (lv_at hl 2 rfl) ?_
                  refine h_puti hx hb hts iX1_countRests_X1 tyX1 tyX1_ok nmX1 hown hK hI g_a (by decide) rfl rfl 0 (by decide) rfl (hts (.fieldLink RX1 9 "CatLeases$Auction" "firstBid" "I") (List.mem_of_getElem? (i := 3) rfl)) (fun _ h9 => h9) rfl .int (by decide +kernel) rfl rfl i4 rfl dX1_countRests_37 (fun M22 H locs e_M22 hI => ?_)
                  refine lv_aload_n hx hb dX1_countRests_40 rfl (lv_at hl 0 rfl) ?_
                  refine lv_iload_n hx hb dX1_countRests_41 rfl (lv_at hl 3 rfl) ?_
                  refine h_puti hx hb hts iX1_countRests_X1 tyX1 tyX1_ok nmX1 hown hK hI g_a (by decide) rfl rfl 1 (by decide) rfl (hts (.fieldLink RX1 15 "CatLeases$Auction" "otherBid" "I") (List.mem_of_getElem? (i := 4) rfl)) (fun _ h9 => h9) rfl .int (by decide +kernel) rfl rfl i9 rfl dX1_countRests_42 (fun M23 H locs e_M23 hI => ?_)
                  exact J45 M23 H locs ls hI hl (((k0_14).trans (u2_st (a := a) (k := 4) e_M22 (u2_k (by decide))).symm).trans (u2_st (a := a) (k := 4) e_M23 (u2_k (by decide))).symm) (((e_v5).trans (u2_st (a := a) (k := 5) e_M22 (u2_k (by decide))).symm).trans (u2_st (a := a) (k := 5) e_M23 (u2_k (by decide))).symm)
        refine lv_istore_n (lv' := [(3, .int (0 : Int32)), (0, .ref a), (1, .int v1_4), (2, .int v2_4)]) hx hb dX1_countRests_13 rfl hl (by decide) rfl (fun ls hl => ?_)
        exact J14 7 M_4 v1_4 (0 : Int32) H locs ls hI (lv_sub hl [1, 2, 3, 0] rfl) (e_v1) (iv_w (lo' := 0) (hi' := 6) kc_0 (by decide) (by decide)) (by have h9 := kc_0; simp only [iv] at h9; omega)
  refine lv_istore_n (lv' := [(2, .int (0 : Int32)), (1, .int (0 : Int32)), (0, .ref a)]) hx hb dX1_countRests_3 rfl hl (by decide) rfl (fun ls hl => ?_)
  exact J4 7 M (0 : Int32) (0 : Int32) H locs ls hI (lv_sub hl [2, 1, 0] rfl) (iv_w (lo' := 0) (hi' := 6) kc_0 (by decide) (by decide)) (by have h9 := kc_0; simp only [iv] at h9; omega)
abbrev e_h_weigh_X1 : List (Nat × Nat) := [(14, 999), (15, 999), (18, 999)]
set_option maxHeartbeats 4000000 in
set_option maxRecDepth 100000 in
theorem h_weigh_X1 (l : Launch) (D : va_G) (g : Nat → ClassId) (σ : Nat → Option Nat) (Z : State → Heap → Prop) (hZ0 : hZ σ Z) (M : hM) (N : hN) (R : hR) (a : Nat) (g_a : σ a = some 4) (b : Nat) (g_b : σ b = some 7) (p2 : Int32) (p3 : Int32) (h_p3 : iv p3 0 6) (d1 : Nat) (g_d1 : σ d1 = some 15) : Met l yX1_weigh wsX1_weigh ({ frames := 3, cells := 0, slots := 0, locals := 68 }) (va_Pc [.ref a, .ref b, .int p2, .int p3, .ref d1] (hPre D g σ Z M N R)) (hQi D g σ e_h_weigh_X1 M (fun (r : Int32) (M1 : hM) (N1 : hN) (R1 : hR) => N = N1 ∧ R = R1 ∧ iv r (-2147483648) 5)) 0 0 (hA σ) := by
  refine h_head (cc := cX1_weigh) (maxL := 8) (ret := (some .int)) (by decide) rfl (Nat.le_of_ble_eq_true rfl) e_h_weigh_X1 ?_
  intro p e s m below meth c ls Q ar hQ hx hb hr hlocks hml hown hts hK hE H locs hI hl
  have hown : s.vm.findClass RX1 = some m.cls := hown
  have hl : lv_has ls 8 [(0, .ref a), (1, .ref b), (2, .int p2), (3, .int p3), (4, .ref d1)] := hl
  refine lv_aload_n hx hb dX1_weigh_0 rfl (lv_at hl 1 rfl) ?_
  refine h_getr hx hb hts iX1_weigh_X7 hown hK hI g_b (by decide) rfl rfl 3 (by decide) rfl 14 rfl (hts (.fieldLink RX1 35 "CatLeases$State" "hours" "[I") (List.mem_of_getElem? (i := 1) rfl)) (fun _ h9 => h9) dX1_weigh_1 (fun a1 e_a1 g_a1 => ?_)
  refine lv_iload_n hx hb dX1_weigh_4 rfl (lv_at hl 3 rfl) ?_
  refine h_iald (j := p3.toNatClampNeg) (lo := (-2147483648)) (hi := 2147483647) hx hb hK hI g_a1 (by decide) rfl (iv_in (n := 7) h_p3 (by decide) (by decide)) rfl (iv_any _) dX1_weigh_5 (fun v2 e_v2 i_v2 => ?_)
  refine lv_istore (lv' := [(5, .int v2), (0, .ref a), (1, .ref b), (2, .int p2), (3, .int p3), (4, .ref d1)]) hx hb dX1_weigh_6 hl (by decide) rfl (fun ls hl => ?_)
  refine lv_iconst (v := 5) hx hb dX1_weigh_8 (by decide) ?_
  refine lv_bipush (v := 99) hx hb dX1_weigh_9 (by decide) ?_
  refine lv_iload hx hb dX1_weigh_11 (lv_at hl 0 rfl) ?_
  refine lv_isub hx hb dX1_weigh_13 ?_
  refine h_nm (lo := (-2147483648)) (hi := 2147483647) (iv_any _) (fun v3 e_v3 i_v3 => ?_)
  refine va_mmin hx hb (hml.trans hl.1.symm) hown (hts (.methodLink RX1 40 Lib.Math.min.name) (List.mem_of_getElem? (i := 2) rfl)) (hts (.static Lib.Math.min.name) (List.mem_of_getElem? (i := 3) rfl)) (hts (.initialized "java/lang/Math") (List.mem_of_getElem? (i := 4) rfl)) (hts (.code Lib.Math.min.name Lib.Math.min.code 2 (some .int)) (List.mem_of_getElem? (i := 5) rfl)) (Nat.le_of_ble_eq_true rfl) (Nat.le_of_ble_eq_true rfl) (Nat.le_of_ble_eq_true rfl) (Nat.le_of_ble_eq_true rfl) dX1_weigh_14 ?_
  refine h_nm (lo := (-2147483648)) (hi := 5) (iv_min kc_5 i_v3 (by decide) (by decide) (by decide)) (fun v4 e_v4 i_v4 => ?_)
  refine lv_istore (lv' := [(6, .int v4), (5, .int v2), (0, .ref a), (1, .ref b), (2, .int p2), (3, .int p3), (4, .ref d1)]) hx hb dX1_weigh_17 hl (by decide) rfl (fun ls hl => ?_)
  refine lv_aload_n hx hb dX1_weigh_19 rfl (lv_at hl 2 rfl) ?_
  refine lv_aload_n hx hb dX1_weigh_20 rfl (lv_at hl 3 rfl) ?_
  refine lv_iload_n hx hb dX1_weigh_21 rfl (lv_at hl 5 rfl) ?_
  refine lv_iload_n hx hb dX1_weigh_22 rfl (lv_at hl 4 rfl) ?_
  refine h_gov hI (by decide) (va_runV (As := [.ref b, .int p3, .int p2]) (rest := []) ⟨hx, hb, hml, hown, hts⟩ (h_consider_X4 l D g σ Z hZ0 M N R a g_a b g_b p3 p2) (cwV 3 hts gX1_weigh_X4_consider rfl rfl rfl (by decide +kernel) ⟨Nat.le_of_ble_eq_true rfl, Nat.le_of_ble_eq_true rfl⟩) (h_preV hZ0 hK hE hI g_a (by decide) rfl) rfl rfl hl.1 rfl (lv_room (Nat.le_of_ble_eq_true rfl)) dX1_weigh_23 ⟨Nat.le_of_ble_eq_true rfl, Nat.le_of_ble_eq_true rfl⟩) (fun M6 N7 R8 H locs q9 z_M6 hI => ?_)
  obtain ⟨rfl, rfl⟩ := q9
  refine lv_iconst (v := 0) hx hb dX1_weigh_26 (by decide) ?_
  have J29 : ∀ (n : Nat) (M_29 : hM) (v7_29 : Int32) (H : Heap) (locs : List Loc) (ls : Array Slot), kI D g σ e_h_weigh_X1 M s.heap M_29 N R H locs → lv_has ls 8 [(0, .ref a), (4, .ref d1), (5, .int v2), (6, .int v4), (7, .int v7_29)] → iv v7_29 0 6 → 7 ≤ v7_29.toInt + (n : Int) → W p l e (headSpec wsX1_weigh ({ frames := 3, cells := 0, slots := 0, locals := 68 })).room s m ar below meth c H locs 0 0 Q (F0 m 29 ls []) := by
    intro n
    induction n with
    | zero => intro M_29 v7_29 H locs ls hI hl i_v7_29 hn; exfalso; have hz := i_v7_29; simp only [iv] at hz; omega
    | succ n ih29 =>
      intro M_29 v7_29 H locs ls hI hl i_v7_29 hn29
      refine lv_iload hx hb dX1_weigh_29 (lv_at hl 4 rfl) ?_
      refine lv_iload hx hb dX1_weigh_31 (lv_at hl 3 rfl) ?_
      refine lv_icmp_gt (tgt := 65) hx hb dX1_weigh_33 (by decide) (fun c10 => ?_) (fun c10 => ?_)
      · refine lv_iload hx hb dX1_weigh_65 (lv_at hl 3 rfl) ?_
        exact h_iret hQ hx hb hr hlocks rfl hK hI ⟨rfl, rfl, i_v4⟩ dX1_weigh_67
      · have i11 : iv v4 0 5 := iv_nlt1 c10 i_v4 i_v7_29 (by decide)
        have i12 : iv v7_29 0 5 := iv_nlt2 c10 i_v4 i_v7_29 (by decide)
        refine lv_iload hx hb dX1_weigh_36 (lv_at hl 4 rfl) ?_
        refine lv_aload hx hb dX1_weigh_38 (lv_at hl 1 rfl) ?_
        refine h_alen (v := 6) hx hb hK hI g_d1 (by decide) rfl (by decide) (by decide) dX1_weigh_40 ?_
        refine lv_icmp_ge (tgt := 65) hx hb dX1_weigh_41 (by decide) (fun c13 => ?_) (fun c13 => ?_)
        · exfalso; have h8 := kc_6; have h9 := i12; simp only [iv] at h8 h9; rw [Int32.le_iff_toInt_le] at c13; omega
        · refine lv_aload hx hb dX1_weigh_44 (lv_at hl 1 rfl) ?_
          refine lv_iload hx hb dX1_weigh_46 (lv_at hl 4 rfl) ?_
          refine lv_aload_n hx hb dX1_weigh_48 rfl (lv_at hl 0 rfl) ?_
          refine lv_iconst (v := 0) hx hb dX1_weigh_49 (by decide) ?_
          refine lv_iload hx hb dX1_weigh_50 (lv_at hl 2 rfl) ?_
          refine lv_iload hx hb dX1_weigh_52 (lv_at hl 4 rfl) ?_
          refine lv_iadd hx hb dX1_weigh_54 ?_
          refine h_nm (lo := (-2147483648)) (hi := 2147483647) (iv_any _) (fun v14 e_v14 i_v14 => ?_)
          refine h_goi hI (by decide) (va_runV (As := [.int (0 : Int32), .int v14]) (rest := [.int v7_29, .ref d1]) ⟨hx, hb, hml, hown, hts⟩ (h_likesBy_X4 l D g σ Z hZ0 M_29 N R a g_a (0 : Int32) v14) (cwV 2 hts gX1_weigh_X4_likesBy rfl rfl rfl (by decide +kernel) ⟨Nat.le_of_ble_eq_true rfl, Nat.le_of_ble_eq_true rfl⟩) (h_preV hZ0 hK hE hI g_a (by decide) rfl) rfl rfl hl.1 rfl (lv_room (Nat.le_of_ble_eq_true rfl)) dX1_weigh_55 ⟨Nat.le_of_ble_eq_true rfl, Nat.le_of_ble_eq_true rfl⟩) (fun r15 M16 N17 R18 H locs q19 z_M16 hI => ?_)
          obtain ⟨rfl, rfl⟩ := q19
          refine h_iast (j := v7_29.toNatClampNeg) hx hb hK hI g_d1 (by decide) rfl (iv_in (n := 6) i12 (by decide) (by decide)) rfl (iv_any _) rfl dX1_weigh_58 (fun M20 H locs e_M20 hI => ?_)
          obtain ⟨v21, e_v21⟩ : ∃ z : Int32, z = v7_29 + Int32.ofInt 1 := ⟨_, rfl⟩
          have i_v21 : iv v21 1 6 := by rw [e_v21]; exact iv_add i12 (ki_1) (by decide) (by decide) (by decide) (by decide)
          refine lv_iinc (v := v21) (lv' := [(7, .int v21), (0, .ref a), (4, .ref d1), (5, .int v2), (6, .int v4)]) hx hb dX1_weigh_59 hl (k := 4) rfl e_v21.symm (by decide) rfl (fun ls hl => ?_)
          refine lv_goto (tgt := 29) hx hb dX1_weigh_62 (by decide) ?_
          exact ih29 M20 v21 H locs ls hI (lv_sub hl [1, 2, 3, 4, 0] rfl) (iv_w (lo' := 0) (hi' := 6) i_v21 (by decide) (by decide)) (by have h9 := (h_inc e_v21 i12 ki_1 (by decide) (by decide)); omega)
  refine lv_istore (lv' := [(7, .int (0 : Int32)), (6, .int v4), (5, .int v2), (0, .ref a), (1, .ref b), (2, .int p2), (3, .int p3), (4, .ref d1)]) hx hb dX1_weigh_27 hl (by decide) rfl (fun ls hl => ?_)
  exact J29 7 M6 (0 : Int32) H locs ls hI (lv_sub hl [3, 7, 2, 1, 0] rfl) (iv_w (lo' := 0) (hi' := 6) kc_0 (by decide) (by decide)) (by have h9 := kc_0; simp only [iv] at h9; omega)
abbrev e_h_open_X1 : List (Nat × Nat) := [(1, 4), (1, 5), (14, 999), (15, 999), (18, 999)]
set_option maxHeartbeats 4000000 in
set_option maxRecDepth 100000 in
theorem h_open_X1 (l : Launch) (D : va_G) (g : Nat → ClassId) (σ : Nat → Option Nat) (Z : State → Heap → Prop) (hZ0 : hZ σ Z) (M : hM) (N : hN) (R : hR) (a : Nat) (g_a : σ a = some 1) (b : Nat) (g_b : σ b = some 4) (d1 : Nat) (g_d1 : σ d1 = some 7) (p3 : Int32) (p4 : Int32) (h_p4 : iv p4 0 6) (p5 : Int32) (h_p5 : iv p5 0 6) : Met l yX1_open wsX1_open ({ frames := 4, cells := 0, slots := 0, locals := 95 }) (va_Pc [.ref a, .ref b, .ref d1, .int p3, .int p4, .int p5] (hPre D g σ Z M N R)) (hQv D g σ e_h_open_X1 M (fun (M1 : hM) (N1 : hN) (R1 : hR) => N = N1 ∧ R = R1)) 0 0 (hA σ) := by
  refine h_head (cc := cX1_open) (maxL := 6) (ret := none) (by decide) rfl (Nat.le_of_ble_eq_true rfl) e_h_open_X1 ?_
  intro p e s m below meth c ls Q ar hQ hx hb hr hlocks hml hown hts hK hE H locs hI hl
  have hown : s.vm.findClass RX1 = some m.cls := hown
  have hl : lv_has ls 6 [(0, .ref a), (1, .ref b), (2, .ref d1), (3, .int p3), (4, .int p4), (5, .int p5)] := hl
  refine lv_aload_n hx hb dX1_open_0 rfl (lv_at hl 0 rfl) ?_
  refine lv_aload_n hx hb dX1_open_1 rfl (lv_at hl 1 rfl) ?_
  refine lv_aload_n hx hb dX1_open_2 rfl (lv_at hl 2 rfl) ?_
  refine lv_iload_n hx hb dX1_open_3 rfl (lv_at hl 3 rfl) ?_
  refine lv_iload hx hb dX1_open_4 (lv_at hl 4 rfl) ?_
  refine lv_aload_n hx hb dX1_open_6 rfl (lv_at hl 0 rfl) ?_
  refine h_getr hx hb hts iX1_open_X1 hown hK hI g_a (by decide) rfl rfl 2 (by decide) rfl 15 rfl (hts (.fieldLink RX1 18 "CatLeases$Auction" "firstLikings" "[I") (List.mem_of_getElem? (i := 1) rfl)) (fun _ h9 => h9) dX1_open_7 (fun a1 e_a1 g_a1 => ?_)
  refine h_goi hI (by decide) (va_runS (As := [.ref b, .ref d1, .int p3, .int p4, .ref a1]) (rest := [.ref a]) ⟨hx, hb, hml, hown, hts⟩ (h_weigh_X1 l D g σ Z hZ0 M N R b g_b d1 g_d1 p3 p4 h_p4 a1 g_a1) (va_cwS 5 hts gX1_open_X1_weigh rfl rfl rfl (by decide +kernel) ⟨Nat.le_of_ble_eq_true rfl, Nat.le_of_ble_eq_true rfl⟩) (h_preS hZ0 hK hE hI) rfl rfl hl.1 rfl (lv_room (Nat.le_of_ble_eq_true rfl)) dX1_open_10 ⟨Nat.le_of_ble_eq_true rfl, Nat.le_of_ble_eq_true rfl⟩) (fun r2 M3 N4 R5 H locs q6 z_M3 hI => ?_)
  obtain ⟨rfl, rfl, i_r2⟩ := q6
  refine h_puti hx hb hts iX1_open_X1 tyX1 tyX1_ok nmX1 hown hK hI g_a (by decide) rfl rfl 4 (by decide) rfl (hts (.fieldLink RX1 25 "CatLeases$Auction" "firstMost" "I") (List.mem_of_getElem? (i := 2) rfl)) (fun _ h9 => h9) rfl .int (by decide +kernel) rfl rfl i_r2 rfl dX1_open_13 (fun M7 H locs e_M7 hI => ?_)
  refine lv_aload_n hx hb dX1_open_16 rfl (lv_at hl 0 rfl) ?_
  refine lv_aload_n hx hb dX1_open_17 rfl (lv_at hl 1 rfl) ?_
  refine lv_aload_n hx hb dX1_open_18 rfl (lv_at hl 2 rfl) ?_
  refine lv_iload_n hx hb dX1_open_19 rfl (lv_at hl 3 rfl) ?_
  refine lv_iload hx hb dX1_open_20 (lv_at hl 5 rfl) ?_
  refine lv_aload_n hx hb dX1_open_22 rfl (lv_at hl 0 rfl) ?_
  refine h_getr hx hb hts iX1_open_X1 hown hK hI g_a (by decide) rfl rfl 3 (by decide) rfl 15 rfl (hts (.fieldLink RX1 22 "CatLeases$Auction" "otherLikings" "[I") (List.mem_of_getElem? (i := 3) rfl)) (fun _ h9 => h9) dX1_open_23 (fun a8 e_a8 g_a8 => ?_)
  refine h_goi hI (by decide) (va_runS (As := [.ref b, .ref d1, .int p3, .int p5, .ref a8]) (rest := [.ref a]) ⟨hx, hb, hml, hown, hts⟩ (h_weigh_X1 l D g σ Z hZ0 M7 N R b g_b d1 g_d1 p3 p5 h_p5 a8 g_a8) (va_cwS 5 hts gX1_open_X1_weigh rfl rfl rfl (by decide +kernel) ⟨Nat.le_of_ble_eq_true rfl, Nat.le_of_ble_eq_true rfl⟩) (h_preS hZ0 hK hE hI) rfl rfl hl.1 rfl (lv_room (Nat.le_of_ble_eq_true rfl)) dX1_open_26 ⟨Nat.le_of_ble_eq_true rfl, Nat.le_of_ble_eq_true rfl⟩) (fun r9 M10 N11 R12 H locs q13 z_M10 hI => ?_)
  obtain ⟨rfl, rfl, i_r9⟩ := q13
  refine h_puti hx hb hts iX1_open_X1 tyX1 tyX1_ok nmX1 hown hK hI g_a (by decide) rfl rfl 5 (by decide) rfl (hts (.fieldLink RX1 28 "CatLeases$Auction" "otherMost" "I") (List.mem_of_getElem? (i := 4) rfl)) (fun _ h9 => h9) rfl .int (by decide +kernel) rfl rfl i_r9 rfl dX1_open_29 (fun M14 H locs e_M14 hI => ?_)
  exact h_vret hQ hx hb hr hlocks hK hI ⟨rfl, rfl⟩ dX1_open_32
abbrev e_h_forget_X6 : List (Nat × Nat) := [(6, 0), (6, 7)]
set_option maxHeartbeats 4000000 in
set_option maxRecDepth 100000 in
theorem h_forget_X6 (l : Launch) (D : va_G) (g : Nat → ClassId) (σ : Nat → Option Nat) (Z : State → Heap → Prop) (hZ0 : hZ σ Z) (M : hM) (N : hN) (R : hR) (a : Nat) (g_a : σ a = some 6) : Met l yX6_forget wsX6_forget ({ frames := 0, cells := 0, slots := 0, locals := 0 }) (va_Pc [.ref a] (hPre D g σ Z M N R)) (hQv D g σ e_h_forget_X6 M (fun (M1 : hM) (N1 : hN) (R1 : hR) => N = N1 ∧ R = R1)) 0 0 (hA σ) := by
  refine h_head (cc := cX6_forget) (maxL := 1) (ret := none) (by decide) rfl (Nat.le_of_ble_eq_true rfl) e_h_forget_X6 ?_
  intro p e s m below meth c ls Q ar hQ hx hb hr hlocks hml hown hts hK hE H locs hI hl
  have hown : s.vm.findClass RX6 = some m.cls := hown
  have hl : lv_has ls 1 [(0, .ref a)] := hl
  refine lv_aload_n hx hb dX6_forget_0 rfl (lv_at hl 0 rfl) ?_
  refine lv_iconst (v := 0) hx hb dX6_forget_1 (by decide) ?_
  refine h_puti hx hb hts iX6_forget_X6 tyX6 tyX6_ok nmX6 hown hK hI g_a (by decide) rfl rfl 0 (by decide) rfl (hts (.fieldLink RX6 9 "CatLeases$Sightings" "count" "I") (List.mem_of_getElem? (i := 1) rfl)) (fun _ h9 => h9) rfl .int (by decide +kernel) rfl rfl (iv_w (lo' := 0) (hi' := 30) kc_0 (by decide) (by decide)) rfl dX6_forget_2 (fun M1 H locs e_M1 hI => ?_)
  refine lv_aload_n hx hb dX6_forget_5 rfl (lv_at hl 0 rfl) ?_
  refine lv_iconst (v := 0) hx hb dX6_forget_6 (by decide) ?_
  refine h_puti hx hb hts iX6_forget_X6 tyX6 tyX6_ok nmX6 hown hK hI g_a (by decide) rfl rfl 7 (by decide) rfl (hts (.fieldLink RX6 35 "CatLeases$Sightings" "foreseen" "Z") (List.mem_of_getElem? (i := 2) rfl)) (fun _ h9 => h9) rfl .boolean (by decide +kernel) rfl rfl (iv_w (lo' := 0) (hi' := 1) kc_0 (by decide) (by decide)) rfl dX6_forget_7 (fun M2 H locs e_M2 hI => ?_)
  exact h_vret hQ hx hb hr hlocks hK hI ⟨rfl, rfl⟩ dX6_forget_10
abbrev e_h_add_X6 : List (Nat × Nat) := [(6, 0), (18, 999), (19, 999), (20, 999)]
set_option maxHeartbeats 4000000 in
set_option maxRecDepth 100000 in
theorem h_add_X6 (l : Launch) (D : va_G) (g : Nat → ClassId) (σ : Nat → Option Nat) (Z : State → Heap → Prop) (hZ0 : hZ σ Z) (M : hM) (N : hN) (R : hR) (a : Nat) (g_a : σ a = some 6) (p1 : Int32) (p2 : Int32) (h_p2 : iv p2 0 6) (p3 : Int32) (h_p3 : iv p3 0 1) (p4 : Int32) : Met l yX6_add wsX6_add ({ frames := 0, cells := 0, slots := 0, locals := 0 }) (va_Pc [.ref a, .int p1, .int p2, .int p3, .int p4] (hPre D g σ Z M N R)) (hQi D g σ e_h_add_X6 M (fun (r : Int32) (M1 : hM) (N1 : hN) (R1 : hR) => N = N1 ∧ R = R1 ∧ iv r (-1) 29)) 0 0 (hA σ) := by
  refine h_head (cc := cX6_add) (maxL := 5) (ret := (some .int)) (by decide) rfl (Nat.le_of_ble_eq_true rfl) e_h_add_X6 ?_
  intro p e s m below meth c ls Q ar hQ hx hb hr hlocks hml hown hts hK hE H locs hI hl
  have hown : s.vm.findClass RX6 = some m.cls := hown
  have hl : lv_has ls 5 [(0, .ref a), (1, .int p1), (2, .int p2), (3, .int p3), (4, .int p4)] := hl
  refine lv_aload_n hx hb dX6_add_0 rfl (lv_at hl 0 rfl) ?_
  refine h_geti (lo := 0) (hi := 30) hx hb hts iX6_add_X6 hown hK hI g_a (by decide) rfl rfl 0 (by decide) rfl rfl (hts (.fieldLink RX6 9 "CatLeases$Sightings" "count" "I") (List.mem_of_getElem? (i := 1) rfl)) (fun _ h9 => h9) dX6_add_1 (fun v1 e_v1 i_v1 => ?_)
  refine lv_bipush (v := 30) hx hb dX6_add_4 (by decide) ?_
  refine lv_icmp_lt (tgt := 11) hx hb dX6_add_6 (by decide) (fun c2 => ?_) (fun c2 => ?_)
  · have i3 : iv v1 0 29 := iv_lt1 c2 i_v1 kc_30 (by decide)
    refine lv_aload_n hx hb dX6_add_11 rfl (lv_at hl 0 rfl) ?_
    refine h_getr hx hb hts iX6_add_X6 hown hK hI g_a (by decide) rfl rfl 1 (by decide) rfl 18 rfl (hts (.fieldLink RX6 15 "CatLeases$Sightings" "quarters" "[I") (List.mem_of_getElem? (i := 2) rfl)) (fun _ h9 => h9) dX6_add_12 (fun a4 e_a4 g_a4 => ?_)
    refine lv_aload_n hx hb dX6_add_15 rfl (lv_at hl 0 rfl) ?_
    refine h_geti (lo := 0) (hi := 30) hx hb hts iX6_add_X6 hown hK hI g_a (by decide) rfl rfl 0 (by decide) rfl rfl (hts (.fieldLink RX6 9 "CatLeases$Sightings" "count" "I") (List.mem_of_getElem? (i := 1) rfl)) (fun _ h9 => h9) dX6_add_16 (fun v5 e_v5 i_v5 => ?_)
    have q6 : v1 = v5 := (e_v1).trans e_v5.symm
    subst q6
    refine lv_iload_n hx hb dX6_add_19 rfl (lv_at hl 1 rfl) ?_
    refine h_iast (j := v1.toNatClampNeg) hx hb hK hI g_a4 (by decide) rfl (iv_in (n := 30) i3 (by decide) (by decide)) rfl (iv_any _) rfl dX6_add_20 (fun M7 H locs e_M7 hI => ?_)
    refine lv_aload_n hx hb dX6_add_21 rfl (lv_at hl 0 rfl) ?_
    refine h_getr hx hb hts iX6_add_X6 hown hK hI g_a (by decide) rfl rfl 2 (by decide) rfl 19 rfl (hts (.fieldLink RX6 19 "CatLeases$Sightings" "tenants" "[I") (List.mem_of_getElem? (i := 3) rfl)) (fun _ h9 => h9) dX6_add_22 (fun a8 e_a8 g_a8 => ?_)
    refine lv_aload_n hx hb dX6_add_25 rfl (lv_at hl 0 rfl) ?_
    refine h_geti (lo := 0) (hi := 30) hx hb hts iX6_add_X6 hown hK hI g_a (by decide) rfl rfl 0 (by decide) rfl rfl (hts (.fieldLink RX6 9 "CatLeases$Sightings" "count" "I") (List.mem_of_getElem? (i := 1) rfl)) (fun _ h9 => h9) dX6_add_26 (fun v9 e_v9 i_v9 => ?_)
    have q10 : v1 = v9 := ((e_v1).trans (u2_st (a := a) (k := 0) e_M7 (u2_a (so_ne g_a g_a4 (by decide)))).symm).trans e_v9.symm
    subst q10
    refine lv_iload_n hx hb dX6_add_29 rfl (lv_at hl 2 rfl) ?_
    refine h_iast (j := v1.toNatClampNeg) hx hb hK hI g_a8 (by decide) rfl (iv_in (n := 30) i3 (by decide) (by decide)) rfl h_p2 rfl dX6_add_30 (fun M11 H locs e_M11 hI => ?_)
    refine lv_aload_n hx hb dX6_add_31 rfl (lv_at hl 0 rfl) ?_
    refine h_getr hx hb hts iX6_add_X6 hown hK hI g_a (by decide) rfl rfl 3 (by decide) rfl 20 rfl (hts (.fieldLink RX6 22 "CatLeases$Sightings" "inside" "[Z") (List.mem_of_getElem? (i := 4) rfl)) (fun _ h9 => h9) dX6_add_32 (fun a12 e_a12 g_a12 => ?_)
    refine lv_aload_n hx hb dX6_add_35 rfl (lv_at hl 0 rfl) ?_
    refine h_geti (lo := 0) (hi := 30) hx hb hts iX6_add_X6 hown hK hI g_a (by decide) rfl rfl 0 (by decide) rfl rfl (hts (.fieldLink RX6 9 "CatLeases$Sightings" "count" "I") (List.mem_of_getElem? (i := 1) rfl)) (fun _ h9 => h9) dX6_add_36 (fun v13 e_v13 i_v13 => ?_)
    have q14 : v1 = v13 := (((e_v1).trans (u2_st (a := a) (k := 0) e_M7 (u2_a (so_ne g_a g_a4 (by decide)))).symm).trans (u2_st (a := a) (k := 0) e_M11 (u2_a (so_ne g_a g_a8 (by decide)))).symm).trans e_v13.symm
    subst q14
    refine lv_iload_n hx hb dX6_add_39 rfl (lv_at hl 3 rfl) ?_
    refine h_zast (j := v1.toNatClampNeg) hx hb hK hI g_a12 (by decide) rfl (iv_in (n := 30) i3 (by decide) (by decide)) rfl (iv_narz _) rfl dX6_add_40 (fun M15 H locs e_M15 hI => ?_)
    refine lv_aload_n hx hb dX6_add_41 rfl (lv_at hl 0 rfl) ?_
    refine h_getr hx hb hts iX6_add_X6 hown hK hI g_a (by decide) rfl rfl 4 (by decide) rfl 18 rfl (hts (.fieldLink RX6 26 "CatLeases$Sightings" "toldAt" "[I") (List.mem_of_getElem? (i := 5) rfl)) (fun _ h9 => h9) dX6_add_42 (fun a16 e_a16 g_a16 => ?_)
    refine lv_aload_n hx hb dX6_add_45 rfl (lv_at hl 0 rfl) ?_
    refine h_geti (lo := 0) (hi := 30) hx hb hts iX6_add_X6 hown hK hI g_a (by decide) rfl rfl 0 (by decide) rfl rfl (hts (.fieldLink RX6 9 "CatLeases$Sightings" "count" "I") (List.mem_of_getElem? (i := 1) rfl)) (fun _ h9 => h9) dX6_add_46 (fun v17 e_v17 i_v17 => ?_)
    have q18 : v1 = v17 := ((((e_v1).trans (u2_st (a := a) (k := 0) e_M7 (u2_a (so_ne g_a g_a4 (by decide)))).symm).trans (u2_st (a := a) (k := 0) e_M11 (u2_a (so_ne g_a g_a8 (by decide)))).symm).trans (u2_st (a := a) (k := 0) e_M15 (u2_a (so_ne g_a g_a12 (by decide)))).symm).trans e_v17.symm
    subst q18
    refine lv_iload hx hb dX6_add_49 (lv_at hl 4 rfl) ?_
    refine h_iast (j := v1.toNatClampNeg) hx hb hK hI g_a16 (by decide) rfl (iv_in (n := 30) i3 (by decide) (by decide)) rfl (iv_any _) rfl dX6_add_51 (fun M19 H locs e_M19 hI => ?_)
    refine lv_aload_n hx hb dX6_add_52 rfl (lv_at hl 0 rfl) ?_
    refine h_getr hx hb hts iX6_add_X6 hown hK hI g_a (by decide) rfl rfl 5 (by decide) rfl 18 rfl (hts (.fieldLink RX6 29 "CatLeases$Sightings" "untoldAt" "[I") (List.mem_of_getElem? (i := 6) rfl)) (fun _ h9 => h9) dX6_add_53 (fun a20 e_a20 g_a20 => ?_)
    refine lv_aload_n hx hb dX6_add_56 rfl (lv_at hl 0 rfl) ?_
    refine h_geti (lo := 0) (hi := 30) hx hb hts iX6_add_X6 hown hK hI g_a (by decide) rfl rfl 0 (by decide) rfl rfl (hts (.fieldLink RX6 9 "CatLeases$Sightings" "count" "I") (List.mem_of_getElem? (i := 1) rfl)) (fun _ h9 => h9) dX6_add_57 (fun v21 e_v21 i_v21 => ?_)
    have q22 : v1 = v21 := (((((e_v1).trans (u2_st (a := a) (k := 0) e_M7 (u2_a (so_ne g_a g_a4 (by decide)))).symm).trans (u2_st (a := a) (k := 0) e_M11 (u2_a (so_ne g_a g_a8 (by decide)))).symm).trans (u2_st (a := a) (k := 0) e_M15 (u2_a (so_ne g_a g_a12 (by decide)))).symm).trans (u2_st (a := a) (k := 0) e_M19 (u2_a (so_ne g_a g_a16 (by decide)))).symm).trans e_v21.symm
    subst q22
    refine lv_iconst (v := (-1)) hx hb dX6_add_60 (by decide) ?_
    refine h_iast (j := v1.toNatClampNeg) hx hb hK hI g_a20 (by decide) rfl (iv_in (n := 30) i3 (by decide) (by decide)) rfl (iv_any _) rfl dX6_add_61 (fun M23 H locs e_M23 hI => ?_)
    refine lv_aload_n hx hb dX6_add_62 rfl (lv_at hl 0 rfl) ?_
    refine lv_dup hx hb dX6_add_63 rfl ?_
    refine h_geti (lo := 0) (hi := 30) hx hb hts iX6_add_X6 hown hK hI g_a (by decide) rfl rfl 0 (by decide) rfl rfl (hts (.fieldLink RX6 9 "CatLeases$Sightings" "count" "I") (List.mem_of_getElem? (i := 1) rfl)) (fun _ h9 => h9) dX6_add_64 (fun v24 e_v24 i_v24 => ?_)
    have q25 : v1 = v24 := ((((((e_v1).trans (u2_st (a := a) (k := 0) e_M7 (u2_a (so_ne g_a g_a4 (by decide)))).symm).trans (u2_st (a := a) (k := 0) e_M11 (u2_a (so_ne g_a g_a8 (by decide)))).symm).trans (u2_st (a := a) (k := 0) e_M15 (u2_a (so_ne g_a g_a12 (by decide)))).symm).trans (u2_st (a := a) (k := 0) e_M19 (u2_a (so_ne g_a g_a16 (by decide)))).symm).trans (u2_st (a := a) (k := 0) e_M23 (u2_a (so_ne g_a g_a20 (by decide)))).symm).trans e_v24.symm
    subst q25
    refine lv_iconst (v := 1) hx hb dX6_add_67 (by decide) ?_
    refine lv_iadd hx hb dX6_add_68 ?_
    refine h_nm (lo := 1) (hi := 30) (iv_add i3 kc_1 (by decide) (by decide) (by decide) (by decide)) (fun v26 e_v26 i_v26 => ?_)
    refine h_puti hx hb hts iX6_add_X6 tyX6 tyX6_ok nmX6 hown hK hI g_a (by decide) rfl rfl 0 (by decide) rfl (hts (.fieldLink RX6 9 "CatLeases$Sightings" "count" "I") (List.mem_of_getElem? (i := 1) rfl)) (fun _ h9 => h9) rfl .int (by decide +kernel) rfl rfl (iv_w (lo' := 0) (hi' := 30) i_v26 (by decide) (by decide)) rfl dX6_add_69 (fun M27 H locs e_M27 hI => ?_)
    refine lv_aload_n hx hb dX6_add_72 rfl (lv_at hl 0 rfl) ?_
    refine h_geti (lo := 0) (hi := 30) hx hb hts iX6_add_X6 hown hK hI g_a (by decide) rfl rfl 0 (by decide) rfl rfl (hts (.fieldLink RX6 9 "CatLeases$Sightings" "count" "I") (List.mem_of_getElem? (i := 1) rfl)) (fun _ h9 => h9) dX6_add_73 (fun v28 e_v28 i_v28 => ?_)
    have q29 : v26 = v28 := ((u2_wr e_M27)).trans e_v28.symm
    subst q29
    refine lv_iconst (v := 1) hx hb dX6_add_76 (by decide) ?_
    refine lv_isub hx hb dX6_add_77 ?_
    refine h_nm (lo := 0) (hi := 29) (iv_sub i_v26 kc_1 (by decide) (by decide) (by decide) (by decide)) (fun v30 e_v30 i_v30 => ?_)
    exact h_iret hQ hx hb hr hlocks rfl hK hI ⟨rfl, rfl, (iv_w (lo' := (-1)) (hi' := 29) i_v30 (by decide) (by decide))⟩ dX6_add_78
  · have i31 : iv v1 30 30 := iv_nlt1 c2 i_v1 kc_30 (by decide)
    refine lv_iconst (v := (-1)) hx hb dX6_add_9 (by decide) ?_
    exact h_iret hQ hx hb hr hlocks rfl hK hI ⟨rfl, rfl, (iv_w (lo' := (-1)) (hi' := 29) kc_m1 (by decide) (by decide))⟩ dX6_add_10
abbrev e_h_takeBack_X6 : List (Nat × Nat) := [(18, 999)]
set_option maxHeartbeats 4000000 in
set_option maxRecDepth 100000 in
theorem h_takeBack_X6 (l : Launch) (D : va_G) (g : Nat → ClassId) (σ : Nat → Option Nat) (Z : State → Heap → Prop) (hZ0 : hZ σ Z) (M : hM) (N : hN) (R : hR) (a : Nat) (g_a : σ a = some 6) (p1 : Int32) (p2 : Int32) : Met l yX6_takeBack wsX6_takeBack ({ frames := 0, cells := 0, slots := 0, locals := 0 }) (va_Pc [.ref a, .int p1, .int p2] (hPre D g σ Z M N R)) (hQi D g σ e_h_takeBack_X6 M (fun (r : Int32) (M1 : hM) (N1 : hN) (R1 : hR) => N = N1 ∧ R = R1 ∧ iv r 0 1 ∧ (¬ r = 0 → iv p1 0 29))) 0 0 (hA σ) := by
  refine h_head (cc := cX6_takeBack) (maxL := 3) (ret := (some .boolean)) (by decide) rfl (Nat.le_of_ble_eq_true rfl) e_h_takeBack_X6 ?_
  intro p e s m below meth c ls Q ar hQ hx hb hr hlocks hml hown hts hK hE H locs hI hl
  have hown : s.vm.findClass RX6 = some m.cls := hown
  have hl : lv_has ls 3 [(0, .ref a), (1, .int p1), (2, .int p2)] := hl
  refine lv_iload_n hx hb dX6_takeBack_0 rfl (lv_at hl 1 rfl) ?_
  refine lv_if_lt (tgt := 22) hx hb dX6_takeBack_1 (by decide) (fun c1 => ?_) (fun c1 => ?_)
  · have i2 : iv p1 (-2147483648) (-1) := iv_lt1 c1 (iv_any p1) kc_0 (by decide)
    refine lv_iconst (v := 0) hx hb dX6_takeBack_22 (by decide) ?_
    exact h_iret hQ hx hb hr hlocks rfl hK hI ⟨rfl, rfl, (iv_w (lo' := 0) (hi' := 1) kc_0 (by decide) (by decide)), (fun h9 => absurd rfl h9)⟩ dX6_takeBack_23
  · have i3 : iv p1 0 2147483647 := iv_nlt1 c1 (iv_any p1) kc_0 (by decide)
    refine lv_iload_n hx hb dX6_takeBack_4 rfl (lv_at hl 1 rfl) ?_
    refine lv_aload_n hx hb dX6_takeBack_5 rfl (lv_at hl 0 rfl) ?_
    refine h_geti (lo := 0) (hi := 30) hx hb hts iX6_takeBack_X6 hown hK hI g_a (by decide) rfl rfl 0 (by decide) rfl rfl (hts (.fieldLink RX6 9 "CatLeases$Sightings" "count" "I") (List.mem_of_getElem? (i := 1) rfl)) (fun _ h9 => h9) dX6_takeBack_6 (fun v4 e_v4 i_v4 => ?_)
    refine lv_icmp_ge (tgt := 22) hx hb dX6_takeBack_9 (by decide) (fun c5 => ?_) (fun c5 => ?_)
    · refine lv_iconst (v := 0) hx hb dX6_takeBack_22 (by decide) ?_
      exact h_iret hQ hx hb hr hlocks rfl hK hI ⟨rfl, rfl, (iv_w (lo' := 0) (hi' := 1) kc_0 (by decide) (by decide)), (fun h9 => absurd rfl h9)⟩ dX6_takeBack_23
    · have i6 : iv v4 1 30 := iv_nle1 c5 i_v4 i3 (by decide)
      have i7 : iv p1 0 29 := iv_nle2 c5 i_v4 i3 (by decide)
      refine lv_aload_n hx hb dX6_takeBack_12 rfl (lv_at hl 0 rfl) ?_
      refine h_getr hx hb hts iX6_takeBack_X6 hown hK hI g_a (by decide) rfl rfl 5 (by decide) rfl 18 rfl (hts (.fieldLink RX6 29 "CatLeases$Sightings" "untoldAt" "[I") (List.mem_of_getElem? (i := 2) rfl)) (fun _ h9 => h9) dX6_takeBack_13 (fun a8 e_a8 g_a8 => ?_)
      refine lv_iload_n hx hb dX6_takeBack_16 rfl (lv_at hl 1 rfl) ?_
      refine h_iald (j := p1.toNatClampNeg) (lo := (-2147483648)) (hi := 2147483647) hx hb hK hI g_a8 (by decide) rfl (iv_in (n := 30) i7 (by decide) (by decide)) rfl (iv_any _) dX6_takeBack_17 (fun v9 e_v9 i_v9 => ?_)
      refine lv_iconst (v := (-1)) hx hb dX6_takeBack_18 (by decide) ?_
      refine lv_icmp_eq (tgt := 24) hx hb dX6_takeBack_19 (by decide) (fun c10 => ?_) (fun c10 => ?_)
      · have i11 : iv v9 (-1) (-1) := iv_eq1 c10 i_v9 kc_m1
        refine lv_aload_n hx hb dX6_takeBack_24 rfl (lv_at hl 0 rfl) ?_
        refine h_getr hx hb hts iX6_takeBack_X6 hown hK hI g_a (by decide) rfl rfl 5 (by decide) rfl 18 rfl (hts (.fieldLink RX6 29 "CatLeases$Sightings" "untoldAt" "[I") (List.mem_of_getElem? (i := 2) rfl)) (fun _ h9 => h9) dX6_takeBack_25 (fun a12 e_a12 g_a12 => ?_)
        have q13 : a8 = a12 := (e_a8).trans e_a12.symm
        subst q13
        refine lv_iload_n hx hb dX6_takeBack_28 rfl (lv_at hl 1 rfl) ?_
        refine lv_iload_n hx hb dX6_takeBack_29 rfl (lv_at hl 2 rfl) ?_
        refine h_iast (j := p1.toNatClampNeg) hx hb hK hI g_a8 (by decide) rfl (iv_in (n := 30) i7 (by decide) (by decide)) rfl (iv_any _) rfl dX6_takeBack_30 (fun M14 H locs e_M14 hI => ?_)
        refine lv_iconst (v := 1) hx hb dX6_takeBack_31 (by decide) ?_
        exact h_iret hQ hx hb hr hlocks rfl hK hI ⟨rfl, rfl, (iv_w (lo' := 0) (hi' := 1) kc_1 (by decide) (by decide)), (fun _ => i7)⟩ dX6_takeBack_32
      · refine lv_iconst (v := 0) hx hb dX6_takeBack_22 (by decide) ?_
        exact h_iret hQ hx hb hr hlocks rfl hK hI ⟨rfl, rfl, (iv_w (lo' := 0) (hi' := 1) kc_0 (by decide) (by decide)), (fun h9 => absurd rfl h9)⟩ dX6_takeBack_23
abbrev e_h_foresee_X6 : List (Nat × Nat) := [(6, 7), (6, 8), (14, 999), (18, 999), (21, 999)]
set_option maxHeartbeats 4000000 in
set_option maxRecDepth 100000 in
theorem h_foresee_X6 (l : Launch) (D : va_G) (g : Nat → ClassId) (σ : Nat → Option Nat) (Z : State → Heap → Prop) (hZ0 : hZ σ Z) (M : hM) (N : hN) (R : hR) (a : Nat) (g_a : σ a = some 6) (b : Nat) (g_b : σ b = some 4) : Met l yX6_foresee wsX6_foresee ({ frames := 4, cells := 0, slots := 0, locals := 94 }) (va_Pc [.ref a, .ref b] (hPre D g σ Z M N R)) (hQv D g σ e_h_foresee_X6 M (fun (M1 : hM) (N1 : hN) (R1 : hR) => N = N1 ∧ R = R1)) 0 0 (hA σ) := by
  refine h_head (cc := cX6_foresee) (maxL := 7) (ret := none) (by decide) rfl (Nat.le_of_ble_eq_true rfl) e_h_foresee_X6 ?_
  intro p e s m below meth c ls Q ar hQ hx hb hr hlocks hml hown hts hK hE H locs hI hl
  have hown : s.vm.findClass RX6 = some m.cls := hown
  have hl : lv_has ls 7 [(0, .ref a), (1, .ref b)] := hl
  refine lv_aload_n hx hb dX6_foresee_0 rfl (lv_at hl 0 rfl) ?_
  refine h_geti (lo := 0) (hi := 1) hx hb hts iX6_foresee_X6 hown hK hI g_a (by decide) rfl rfl 7 (by decide) rfl rfl (hts (.fieldLink RX6 35 "CatLeases$Sightings" "foreseen" "Z") (List.mem_of_getElem? (i := 1) rfl)) (fun _ h9 => h9) dX6_foresee_1 (fun v1 e_v1 i_v1 => ?_)
  refine lv_if_eq (tgt := 8) hx hb dX6_foresee_4 (by decide) (fun c2 => ?_) (fun c2 => ?_)
  · have i3 : iv v1 0 0 := iv_eq1 c2 i_v1 kc_0
    refine lv_aload_n hx hb dX6_foresee_8 rfl (lv_at hl 0 rfl) ?_
    refine lv_iconst (v := 1) hx hb dX6_foresee_9 (by decide) ?_
    refine h_puti hx hb hts iX6_foresee_X6 tyX6 tyX6_ok nmX6 hown hK hI g_a (by decide) rfl rfl 7 (by decide) rfl (hts (.fieldLink RX6 35 "CatLeases$Sightings" "foreseen" "Z") (List.mem_of_getElem? (i := 1) rfl)) (fun _ h9 => h9) rfl .boolean (by decide +kernel) rfl rfl (iv_w (lo' := 0) (hi' := 1) kc_1 (by decide) (by decide)) rfl dX6_foresee_10 (fun M4 H locs e_M4 hI => ?_)
    refine lv_aload_n hx hb dX6_foresee_13 rfl (lv_at hl 0 rfl) ?_
    refine lv_aload_n hx hb dX6_foresee_14 rfl (lv_at hl 1 rfl) ?_
    refine h_geti (lo := 0) (hi := 6) hx hb hts iX6_foresee_X4 hown hK hI g_b (by decide) rfl rfl 0 (by decide) rfl rfl (hts (.fieldLink RX6 42 "CatLeases$Mews" "cats" "I") (List.mem_of_getElem? (i := 2) rfl)) (fun _ h9 => h9) dX6_foresee_15 (fun v5 e_v5 i_v5 => ?_)
    have J26 : ∀ (t1_26 : Int32) (H : Heap) (locs : List Loc) (ls : Array Slot), kI D g σ e_h_foresee_X6 M s.heap M4 N R H locs → lv_has ls 7 [(0, .ref a), (1, .ref b)] → iv t1_26 0 1 → W p l e (headSpec wsX6_foresee ({ frames := 4, cells := 0, slots := 0, locals := 94 })).room s m ar below meth c H locs 0 0 Q (F0 m 26 ls [.int t1_26, .ref a]) := by
      intro t1_26 H locs ls hI hl i_t1_26
      refine h_puti hx hb hts iX6_foresee_X6 tyX6 tyX6_ok nmX6 hown hK hI g_a (by decide) rfl rfl 8 (by decide) rfl (hts (.fieldLink RX6 39 "CatLeases$Sightings" "anyCats" "Z") (List.mem_of_getElem? (i := 3) rfl)) (fun _ h9 => h9) rfl .boolean (by decide +kernel) (nar_z i_t1_26) (fit_z i_t1_26) i_t1_26 rfl dX6_foresee_26 (fun M6 H locs e_M6 hI => ?_)
      refine lv_iconst (v := 0) hx hb dX6_foresee_29 (by decide) ?_
      have J31 : ∀ (n : Nat) (M_31 : hM) (v2_31 : Int32) (H : Heap) (locs : List Loc) (ls : Array Slot), kI D g σ e_h_foresee_X6 M s.heap M_31 N R H locs → lv_has ls 7 [(0, .ref a), (1, .ref b), (2, .int v2_31)] → (1 : Int32) = M_31 a 7 → t1_26 = M_31 a 8 → v5 = M_31 b 0 → iv v2_31 0 7 → 8 ≤ v2_31.toInt + (n : Int) → W p l e (headSpec wsX6_foresee ({ frames := 4, cells := 0, slots := 0, locals := 94 })).room s m ar below meth c H locs 0 0 Q (F0 m 31 ls []) := by
        intro n
        induction n with
        | zero => intro M_31 v2_31 H locs ls hI hl k0_31 k1_31 k2_31 i_v2_31 hn; exfalso; have hz := i_v2_31; simp only [iv] at hz; omega
        | succ n ih31 =>
          intro M_31 v2_31 H locs ls hI hl k0_31 k1_31 k2_31 i_v2_31 hn31
          refine lv_iload_n hx hb dX6_foresee_31 rfl (lv_at hl 2 rfl) ?_
          refine lv_aload_n hx hb dX6_foresee_32 rfl (lv_at hl 1 rfl) ?_
          refine h_geti (lo := 0) (hi := 7) hx hb hts iX6_foresee_X4 hown hK hI g_b (by decide) rfl rfl 2 (by decide) rfl rfl (hts (.fieldLink RX6 47 "CatLeases$Mews" "tenants" "I") (List.mem_of_getElem? (i := 4) rfl)) (fun _ h9 => h9) dX6_foresee_33 (fun v7 e_v7 i_v7 => ?_)
          refine lv_icmp_ge (tgt := 155) hx hb dX6_foresee_36 (by decide) (fun c8 => ?_) (fun c8 => ?_)
          · exact h_vret hQ hx hb hr hlocks hK hI ⟨rfl, rfl⟩ dX6_foresee_155
          · have i9 : iv v7 1 7 := iv_nle1 c8 i_v7 i_v2_31 (by decide)
            have i10 : iv v2_31 0 6 := iv_nle2 c8 i_v7 i_v2_31 (by decide)
            refine lv_aload_n hx hb dX6_foresee_39 rfl (lv_at hl 1 rfl) ?_
            refine h_getr hx hb hts iX6_foresee_X4 hown hK hI g_b (by decide) rfl rfl 8 (by decide) rfl 7 rfl (hts (.fieldLink RX6 49 "CatLeases$Mews" "told" "LCatLeases$State;") (List.mem_of_getElem? (i := 5) rfl)) (fun _ h9 => h9) dX6_foresee_40 (fun a11 e_a11 g_a11 => ?_)
            refine h_getr hx hb hts iX6_foresee_X7 hown hK hI g_a11 (by decide) rfl rfl 1 (by decide) rfl 13 rfl (hts (.fieldLink RX6 53 "CatLeases$State" "places" "[I") (List.mem_of_getElem? (i := 6) rfl)) (fun _ h9 => h9) dX6_foresee_43 (fun a12 e_a12 g_a12 => ?_)
            refine lv_iload_n hx hb dX6_foresee_46 rfl (lv_at hl 2 rfl) ?_
            refine h_iald (j := v2_31.toNatClampNeg) (lo := (-1)) (hi := 7) hx hb hK hI g_a12 (by decide) rfl (iv_in (n := 7) i10 (by decide) (by decide)) rfl (hI.iv1 (n := 7) g_a12 rfl (in_lt (iv_in (n := 7) i10 (by decide) (by decide))) rfl) dX6_foresee_47 (fun v13 e_v13 i_v13 => ?_)
            refine lv_istore_n (lv' := [(3, .int v13), (0, .ref a), (1, .ref b), (2, .int v2_31)]) hx hb dX6_foresee_48 rfl hl (by decide) rfl (fun ls hl => ?_)
            refine lv_aload_n hx hb dX6_foresee_49 rfl (lv_at hl 2 rfl) ?_
            refine h_getr hx hb hts iX6_foresee_X4 hown hK hI g_b (by decide) rfl rfl 8 (by decide) rfl 7 rfl (hts (.fieldLink RX6 49 "CatLeases$Mews" "told" "LCatLeases$State;") (List.mem_of_getElem? (i := 5) rfl)) (fun _ h9 => h9) dX6_foresee_50 (fun a14 e_a14 g_a14 => ?_)
            have q15 : a11 = a14 := (e_a11).trans e_a14.symm
            subst q15
            refine lv_iload_n hx hb dX6_foresee_53 rfl (lv_at hl 0 rfl) ?_
            refine h_goi hI (by decide) (va_runV (As := [.int v13]) (rest := []) ⟨hx, hb, hml, hown, hts⟩ (h_isKept_X7 l D g σ Z hZ0 M_31 N R a11 g_a11 v13) (cwV 1 hts gX6_foresee_X7_isKept rfl rfl rfl (by decide +kernel) ⟨Nat.le_of_ble_eq_true rfl, Nat.le_of_ble_eq_true rfl⟩) (h_preV hZ0 hK hE hI g_a11 (by decide) rfl) rfl rfl hl.1 rfl (lv_room (Nat.le_of_ble_eq_true rfl)) dX6_foresee_54 ⟨Nat.le_of_ble_eq_true rfl, Nat.le_of_ble_eq_true rfl⟩) (fun r16 M17 N18 R19 H locs q20 z_M17 hI => ?_)
            obtain ⟨rfl, rfl, rfl, i_r16, z21, z22⟩ := q20
            have J83 : ∀ (t0_83 : Int32) (H : Heap) (locs : List Loc) (ls : Array Slot), kI D g σ e_h_foresee_X6 M s.heap M_31 N R H locs → lv_has ls 7 [(0, .ref a), (1, .ref b), (2, .int v2_31)] → iv t0_83 0 1 → W p l e (headSpec wsX6_foresee ({ frames := 4, cells := 0, slots := 0, locals := 94 })).room s m ar below meth c H locs 0 0 Q (F0 m 83 ls [.int t0_83]) := by
              intro t0_83 H locs ls hI hl i_t0_83
              refine lv_istore (lv' := [(4, .int t0_83), (0, .ref a), (1, .ref b), (2, .int v2_31)]) hx hb dX6_foresee_83 hl (by decide) rfl (fun ls hl => ?_)
              refine lv_aload_n hx hb dX6_foresee_85 rfl (lv_at hl 2 rfl) ?_
              refine lv_aload_n hx hb dX6_foresee_86 rfl (lv_at hl 2 rfl) ?_
              refine h_getr hx hb hts iX6_foresee_X4 hown hK hI g_b (by decide) rfl rfl 8 (by decide) rfl 7 rfl (hts (.fieldLink RX6 49 "CatLeases$Mews" "told" "LCatLeases$State;") (List.mem_of_getElem? (i := 5) rfl)) (fun _ h9 => h9) dX6_foresee_87 (fun a23 e_a23 g_a23 => ?_)
              have q24 : a11 = a23 := (e_a11).trans e_a23.symm
              subst q24
              refine lv_iload_n hx hb dX6_foresee_90 rfl (lv_at hl 3 rfl) ?_
              refine lv_bipush (v := 9) hx hb dX6_foresee_91 (by decide) ?_
              refine h_goi hI (by decide) (va_runV (As := [.ref a11, .int v2_31, .int (9 : Int32)]) (rest := []) ⟨hx, hb, hml, hown, hts⟩ (h_outBehind_X4 l D g σ Z hZ0 M_31 N R b g_b a11 g_a11 v2_31 i10 (9 : Int32) (iv_w (lo' := 0) (hi' := 99) kc_9 (by decide) (by decide))) (cwV 3 hts gX6_foresee_X4_outBehind rfl rfl rfl (by decide +kernel) ⟨Nat.le_of_ble_eq_true rfl, Nat.le_of_ble_eq_true rfl⟩) (h_preV hZ0 hK hE hI g_b (by decide) rfl) rfl rfl hl.1 rfl (lv_room (Nat.le_of_ble_eq_true rfl)) dX6_foresee_93 ⟨Nat.le_of_ble_eq_true rfl, Nat.le_of_ble_eq_true rfl⟩) (fun r25 M26 N27 R28 H locs q29 z_M26 hI => ?_)
              obtain ⟨rfl, rfl, i_r25⟩ := q29
              refine lv_istore (lv' := [(5, .int r25), (4, .int t0_83), (0, .ref a), (1, .ref b), (2, .int v2_31)]) hx hb dX6_foresee_96 hl (by decide) rfl (fun ls hl => ?_)
              refine lv_iconst (v := 0) hx hb dX6_foresee_98 (by decide) ?_
              have J101 : ∀ (n : Nat) (M_101 : hM) (v6_101 : Int32) (H : Heap) (locs : List Loc) (ls : Array Slot), kI D g σ e_h_foresee_X6 M s.heap M_101 N R H locs → lv_has ls 7 [(0, .ref a), (1, .ref b), (2, .int v2_31), (4, .int t0_83), (5, .int r25), (6, .int v6_101)] → (1 : Int32) = M_101 a 7 → t1_26 = M_101 a 8 → v5 = M_101 b 0 → v7 = M_101 b 2 → iv v6_101 0 100 → 101 ≤ v6_101.toInt + (n : Int) → W p l e (headSpec wsX6_foresee ({ frames := 4, cells := 0, slots := 0, locals := 94 })).room s m ar below meth c H locs 0 0 Q (F0 m 101 ls []) := by
                intro n
                induction n with
                | zero => intro M_101 v6_101 H locs ls hI hl k0_101 k1_101 k2_101 k3_101 i_v6_101 hn; exfalso; have hz := i_v6_101; simp only [iv] at hz; omega
                | succ n ih101 =>
                  intro M_101 v6_101 H locs ls hI hl k0_101 k1_101 k2_101 k3_101 i_v6_101 hn101
                  refine lv_iload hx hb dX6_foresee_101 (lv_at hl 5 rfl) ?_
                  refine lv_bipush (v := 100) hx hb dX6_foresee_103 (by decide) ?_
                  refine lv_icmp_ge (tgt := 149) hx hb dX6_foresee_105 (by decide) (fun c30 => ?_) (fun c30 => ?_)
                  · have i31 : iv v6_101 100 100 := iv_le2 c30 kc_100 i_v6_101 (by decide)
                    obtain ⟨v32, e_v32⟩ : ∃ z : Int32, z = v2_31 + Int32.ofInt 1 := ⟨_, rfl⟩
                    have i_v32 : iv v32 1 7 := by rw [e_v32]; exact iv_add i10 (ki_1) (by decide) (by decide) (by decide) (by decide)
                    refine lv_iinc (v := v32) (lv' := [(2, .int v32), (0, .ref a), (1, .ref b), (4, .int t0_83), (5, .int r25), (6, .int v6_101)]) hx hb dX6_foresee_149 hl (k := 2) rfl e_v32.symm (by decide) rfl (fun ls hl => ?_)
                    refine lv_goto (tgt := 31) hx hb dX6_foresee_152 (by decide) ?_
                    exact ih31 M_101 v32 H locs ls hI (lv_sub hl [1, 2, 0] rfl) (k0_101) (k1_101) (k2_101) (iv_w (lo' := 0) (hi' := 7) i_v32 (by decide) (by decide)) (by have h9 := (h_inc e_v32 i10 ki_1 (by decide) (by decide)); omega)
                  · have i33 : iv v6_101 0 99 := iv_nle2 c30 kc_100 i_v6_101 (by decide)
                    refine lv_aload_n hx hb dX6_foresee_108 rfl (lv_at hl 0 rfl) ?_
                    refine h_getr hx hb hts iX6_foresee_X6 hown hK hI g_a (by decide) rfl rfl 6 (by decide) rfl 21 rfl (hts (.fieldLink RX6 32 "CatLeases$Sightings" "outBehind" "[I") (List.mem_of_getElem? (i := 8) rfl)) (fun _ h9 => h9) dX6_foresee_109 (fun a34 e_a34 g_a34 => ?_)
                    refine lv_iload hx hb dX6_foresee_112 (lv_at hl 5 rfl) ?_
                    refine lv_bipush (v := 7) hx hb dX6_foresee_114 (by decide) ?_
                    refine lv_imul hx hb dX6_foresee_116 ?_
                    refine h_nm (lo := 0) (hi := 693) (iv_mul i33 kc_7 (by decide) (by decide) (by decide) (by decide) (by decide)) (fun v35 e_v35 i_v35 => ?_)
                    refine lv_iload_n hx hb dX6_foresee_117 rfl (lv_at hl 2 rfl) ?_
                    refine lv_iadd hx hb dX6_foresee_118 ?_
                    refine h_nm (lo := 0) (hi := 699) (iv_add i_v35 i10 (by decide) (by decide) (by decide) (by decide)) (fun v36 e_v36 i_v36 => ?_)
                    refine lv_iload hx hb dX6_foresee_119 (lv_at hl 3 rfl) ?_
                    have J142 : ∀ (M_142 : hM) (t2_142 : Int32) (H : Heap) (locs : List Loc) (ls : Array Slot), kI D g σ e_h_foresee_X6 M s.heap M_142 N R H locs → lv_has ls 7 [(0, .ref a), (1, .ref b), (2, .int v2_31), (4, .int t0_83), (5, .int r25), (6, .int v6_101)] → (1 : Int32) = M_142 a 7 → t1_26 = M_142 a 8 → v5 = M_142 b 0 → v7 = M_142 b 2 → iv t2_142 0 100 → W p l e (headSpec wsX6_foresee ({ frames := 4, cells := 0, slots := 0, locals := 94 })).room s m ar below meth c H locs 0 0 Q (F0 m 142 ls [.int t2_142, .int v36, .ref a34]) := by
                      intro M_142 t2_142 H locs ls hI hl k0_142 k1_142 k2_142 k3_142 i_t2_142
                      refine h_iast (j := v36.toNatClampNeg) hx hb hK hI g_a34 (by decide) rfl (iv_in (n := 700) i_v36 (by decide) (by decide)) rfl (iv_any _) rfl dX6_foresee_142 (fun M37 H locs e_M37 hI => ?_)
                      obtain ⟨v38, e_v38⟩ : ∃ z : Int32, z = v6_101 + Int32.ofInt 1 := ⟨_, rfl⟩
                      have i_v38 : iv v38 1 100 := by rw [e_v38]; exact iv_add i33 (ki_1) (by decide) (by decide) (by decide) (by decide)
                      refine lv_iinc (v := v38) (lv' := [(6, .int v38), (0, .ref a), (1, .ref b), (2, .int v2_31), (4, .int t0_83), (5, .int r25)]) hx hb dX6_foresee_143 hl (k := 5) rfl e_v38.symm (by decide) rfl (fun ls hl => ?_)
                      refine lv_goto (tgt := 101) hx hb dX6_foresee_146 (by decide) ?_
                      exact ih101 M37 v38 H locs ls hI (lv_sub hl [1, 2, 3, 4, 5, 0] rfl) ((k0_142).trans (u2_st (a := a) (k := 7) e_M37 (u2_a (so_ne g_a g_a34 (by decide)))).symm) ((k1_142).trans (u2_st (a := a) (k := 8) e_M37 (u2_a (so_ne g_a g_a34 (by decide)))).symm) ((k2_142).trans (u2_st (a := b) (k := 0) e_M37 (u2_a (so_ne g_b g_a34 (by decide)))).symm) ((k3_142).trans (u2_st (a := b) (k := 2) e_M37 (u2_a (so_ne g_b g_a34 (by decide)))).symm) (iv_w (lo' := 0) (hi' := 100) i_v38 (by decide) (by decide)) (by have h9 := (h_inc e_v38 i33 ki_1 (by decide) (by decide)); omega)
                    refine lv_if_eq (tgt := 140) hx hb dX6_foresee_121 (by decide) (fun c39 => ?_) (fun c39 => ?_)
                    · have i40 : iv t0_83 0 0 := iv_eq1 c39 i_t0_83 kc_0
                      refine lv_iload hx hb dX6_foresee_140 (lv_at hl 4 rfl) ?_
                      exact J142 M_101 r25 H locs ls hI hl (k0_101) (k1_101) (k2_101) (k3_101) i_r25
                    · have i41 : iv t0_83 1 1 := iv_neL c39 i_t0_83 (by decide) (by decide)
                      refine lv_aload_n hx hb dX6_foresee_124 rfl (lv_at hl 1 rfl) ?_
                      refine lv_aload_n hx hb dX6_foresee_125 rfl (lv_at hl 1 rfl) ?_
                      refine h_getr hx hb hts iX6_foresee_X4 hown hK hI g_b (by decide) rfl rfl 8 (by decide) rfl 7 rfl (hts (.fieldLink RX6 49 "CatLeases$Mews" "told" "LCatLeases$State;") (List.mem_of_getElem? (i := 5) rfl)) (fun _ h9 => h9) dX6_foresee_126 (fun a42 e_a42 g_a42 => ?_)
                      have q43 : a11 = a42 := (e_a11).trans e_a42.symm
                      subst q43
                      refine lv_iload_n hx hb dX6_foresee_129 rfl (lv_at hl 2 rfl) ?_
                      refine lv_iload hx hb dX6_foresee_130 (lv_at hl 5 rfl) ?_
                      refine lv_bipush (v := 9) hx hb dX6_foresee_132 (by decide) ?_
                      refine h_goi hI (by decide) (va_runV (As := [.ref a11, .int v2_31, .int v6_101, .int (9 : Int32)]) (rest := [.int v36, .ref a34]) ⟨hx, hb, hml, hown, hts⟩ (h_outBehindAtWants_X4 l D g σ Z hZ0 M_101 N R b g_b a11 g_a11 v2_31 i10 v6_101 (9 : Int32) (iv_w (lo' := 0) (hi' := 99) kc_9 (by decide) (by decide))) (cwV 4 hts gX6_foresee_X4_outBehindAtWants rfl rfl rfl (by decide +kernel) ⟨Nat.le_of_ble_eq_true rfl, Nat.le_of_ble_eq_true rfl⟩) (h_preV hZ0 hK hE hI g_b (by decide) rfl) rfl rfl hl.1 rfl (lv_room (Nat.le_of_ble_eq_true rfl)) dX6_foresee_134 ⟨Nat.le_of_ble_eq_true rfl, Nat.le_of_ble_eq_true rfl⟩) (fun r44 M45 N46 R47 H locs q48 z_M45 hI => ?_)
                      obtain ⟨rfl, rfl, i_r44⟩ := q48
                      refine lv_goto (tgt := 142) hx hb dX6_foresee_137 (by decide) ?_
                      exact J142 M45 r44 H locs ls hI hl ((k0_101).trans (z_M45 a 6 7 g_a rfl).symm) ((k1_101).trans (z_M45 a 6 8 g_a rfl).symm) ((k2_101).trans (z_M45 b 4 0 g_b rfl).symm) ((k3_101).trans (z_M45 b 4 2 g_b rfl).symm) i_r44
              refine lv_istore (lv' := [(6, .int (0 : Int32)), (5, .int r25), (4, .int t0_83), (0, .ref a), (1, .ref b), (2, .int v2_31)]) hx hb dX6_foresee_99 hl (by decide) rfl (fun ls hl => ?_)
              exact J101 101 M26 (0 : Int32) H locs ls hI (lv_sub hl [3, 4, 5, 2, 1, 0] rfl) ((k0_31).trans (z_M26 a 6 7 g_a rfl).symm) ((k1_31).trans (z_M26 a 6 8 g_a rfl).symm) ((k2_31).trans (z_M26 b 4 0 g_b rfl).symm) ((e_v7).trans (z_M26 b 4 2 g_b rfl).symm) (iv_w (lo' := 0) (hi' := 100) kc_0 (by decide) (by decide)) (by have h9 := kc_0; simp only [iv] at h9; omega)
            have J82 : ∀ (H : Heap) (locs : List Loc) (ls : Array Slot), kI D g σ e_h_foresee_X6 M s.heap M_31 N R H locs → lv_has ls 7 [(0, .ref a), (1, .ref b), (2, .int v2_31)] → W p l e (headSpec wsX6_foresee ({ frames := 4, cells := 0, slots := 0, locals := 94 })).room s m ar below meth c H locs 0 0 Q (F0 m 82 ls []) := by
              intro H locs ls hI hl
              refine lv_iconst (v := 0) hx hb dX6_foresee_82 (by decide) ?_
              exact J83 (0 : Int32) H locs ls hI hl (iv_w (lo' := 0) (hi' := 1) kc_0 (by decide) (by decide))
            refine lv_if_eq (tgt := 82) hx hb dX6_foresee_57 (by decide) (fun c49 => ?_) (fun c49 => ?_)
            · have i50 : iv r16 0 0 := iv_eq1 c49 i_r16 kc_0
              exact J82 H locs ls hI (lv_sub hl [1, 2, 3] rfl)
            · have i51 : iv v13 0 7 := z21 c49
              have i52 := z22 c49
              have i53 : iv r16 1 1 := iv_neL c49 i_r16 (by decide) (by decide)
              refine lv_aload_n hx hb dX6_foresee_60 rfl (lv_at hl 2 rfl) ?_
              refine h_getr hx hb hts iX6_foresee_X4 hown hK hI g_b (by decide) rfl rfl 8 (by decide) rfl 7 rfl (hts (.fieldLink RX6 49 "CatLeases$Mews" "told" "LCatLeases$State;") (List.mem_of_getElem? (i := 5) rfl)) (fun _ h9 => h9) dX6_foresee_61 (fun a54 e_a54 g_a54 => ?_)
              have q55 : a11 = a54 := (e_a11).trans e_a54.symm
              subst q55
              refine h_getr hx hb hts iX6_foresee_X7 hown hK hI g_a11 (by decide) rfl rfl 0 (by decide) rfl 12 rfl (hts (.fieldLink RX6 62 "CatLeases$State" "keepers" "[I") (List.mem_of_getElem? (i := 7) rfl)) (fun _ h9 => h9) dX6_foresee_64 (fun a56 e_a56 g_a56 => ?_)
              refine lv_iload_n hx hb dX6_foresee_67 rfl (lv_at hl 0 rfl) ?_
              refine h_iald (j := v13.toNatClampNeg) (lo := (-1)) (hi := 5) hx hb hK hI g_a56 (by decide) rfl (iv_in (n := 8) i51 (by decide) (by decide)) rfl (hI.iv1 (n := 8) g_a56 rfl (in_lt (iv_in (n := 8) i51 (by decide) (by decide))) rfl) dX6_foresee_68 (fun v57 e_v57 i_v57 => ?_)
              have i58 : iv v57 0 5 := by rw [e_v57, e_a56]; exact i52
              refine lv_aload_n hx hb dX6_foresee_69 rfl (lv_at hl 2 rfl) ?_
              refine h_geti (lo := 0) (hi := 6) hx hb hts iX6_foresee_X4 hown hK hI g_b (by decide) rfl rfl 0 (by decide) rfl rfl (hts (.fieldLink RX6 42 "CatLeases$Mews" "cats" "I") (List.mem_of_getElem? (i := 2) rfl)) (fun _ h9 => h9) dX6_foresee_70 (fun v59 e_v59 i_v59 => ?_)
              have q60 : v5 = v59 := (k2_31).trans e_v59.symm
              subst q60
              refine lv_iconst (v := 1) hx hb dX6_foresee_73 (by decide) ?_
              refine lv_isub hx hb dX6_foresee_74 ?_
              refine h_nm (lo := (-1)) (hi := 5) (iv_sub i_v5 kc_1 (by decide) (by decide) (by decide) (by decide)) (fun v61 e_v61 i_v61 => ?_)
              refine lv_icmp_ne (tgt := 82) hx hb dX6_foresee_75 (by decide) (fun c62 => ?_) (fun c62 => ?_)
              · exact J82 H locs ls hI (lv_sub hl [1, 2, 3] rfl)
              · have i63 : iv v61 0 5 := iv_eq2 c62 i58 i_v61
                have i64 : iv v5 1 6 := iv_back (h_dec e_v61 i_v5 kc_1 (by decide) (by decide)) i63 i_v5 (by decide) (by decide)
                refine lv_iconst (v := 1) hx hb dX6_foresee_78 (by decide) ?_
                refine lv_goto (tgt := 83) hx hb dX6_foresee_79 (by decide) ?_
                exact J83 (1 : Int32) H locs ls hI (lv_sub hl [1, 2, 3] rfl) (iv_w (lo' := 0) (hi' := 1) kc_1 (by decide) (by decide))
      refine lv_istore_n (lv' := [(2, .int (0 : Int32)), (0, .ref a), (1, .ref b)]) hx hb dX6_foresee_30 rfl hl (by decide) rfl (fun ls hl => ?_)
      exact J31 8 M6 (0 : Int32) H locs ls hI (lv_sub hl [1, 2, 0] rfl) (((u2_wr e_M4)).trans (u2_st (a := a) (k := 7) e_M6 (u2_k (by decide))).symm) ((u2_wr e_M6)) ((e_v5).trans (u2_st (a := b) (k := 0) e_M6 (u2_a (so_ne g_b g_a (by decide)))).symm) (iv_w (lo' := 0) (hi' := 7) kc_0 (by decide) (by decide)) (by have h9 := kc_0; simp only [iv] at h9; omega)
    refine lv_if_le (tgt := 25) hx hb dX6_foresee_18 (by decide) (fun c65 => ?_) (fun c65 => ?_)
    · have i66 : iv v5 0 0 := iv_le1 c65 i_v5 kc_0 (by decide)
      refine lv_iconst (v := 0) hx hb dX6_foresee_25 (by decide) ?_
      exact J26 (0 : Int32) H locs ls hI hl (iv_w (lo' := 0) (hi' := 1) kc_0 (by decide) (by decide))
    · have i67 : iv v5 1 6 := iv_nle1 c65 i_v5 kc_0 (by decide)
      refine lv_iconst (v := 1) hx hb dX6_foresee_21 (by decide) ?_
      refine lv_goto (tgt := 26) hx hb dX6_foresee_22 (by decide) ?_
      exact J26 (1 : Int32) H locs ls hI hl (iv_w (lo' := 0) (hi' := 1) kc_1 (by decide) (by decide))
  · have i68 : iv v1 1 1 := iv_neL c2 i_v1 (by decide) (by decide)
    exact h_vret hQ hx hb hr hlocks hK hI ⟨rfl, rfl⟩ dX6_foresee_7
abbrev e_h_counts_X6 : List (Nat × Nat) := []
set_option maxHeartbeats 4000000 in
set_option maxRecDepth 100000 in
theorem h_counts_X6 (l : Launch) (D : va_G) (g : Nat → ClassId) (σ : Nat → Option Nat) (Z : State → Heap → Prop) (hZ0 : hZ σ Z) (M : hM) (N : hN) (R : hR) (a : Nat) (g_a : σ a = some 6) (p1 : Int32) (h_p1 : iv p1 0 29) (p2 : Int32) : Met l yX6_counts wsX6_counts ({ frames := 0, cells := 0, slots := 0, locals := 0 }) (va_Pc [.ref a, .int p1, .int p2] (hPre D g σ Z M N R)) (hQi D g σ e_h_counts_X6 M (fun (r : Int32) (M1 : hM) (N1 : hN) (R1 : hR) => M = M1 ∧ N = N1 ∧ R = R1 ∧ iv r 0 1)) 0 0 (hA σ) := by
  refine h_head (cc := cX6_counts) (maxL := 3) (ret := (some .boolean)) (by decide) rfl (Nat.le_of_ble_eq_true rfl) e_h_counts_X6 ?_
  intro p e s m below meth c ls Q ar hQ hx hb hr hlocks hml hown hts hK hE H locs hI hl
  have hown : s.vm.findClass RX6 = some m.cls := hown
  have hl : lv_has ls 3 [(0, .ref a), (1, .int p1), (2, .int p2)] := hl
  refine lv_aload_n hx hb dX6_counts_0 rfl (lv_at hl 0 rfl) ?_
  refine h_getr hx hb hts iX6_counts_X6 hown hK hI g_a (by decide) rfl rfl 4 (by decide) rfl 18 rfl (hts (.fieldLink RX6 26 "CatLeases$Sightings" "toldAt" "[I") (List.mem_of_getElem? (i := 1) rfl)) (fun _ h9 => h9) dX6_counts_1 (fun a1 e_a1 g_a1 => ?_)
  refine lv_iload_n hx hb dX6_counts_4 rfl (lv_at hl 1 rfl) ?_
  refine h_iald (j := p1.toNatClampNeg) (lo := (-2147483648)) (hi := 2147483647) hx hb hK hI g_a1 (by decide) rfl (iv_in (n := 30) h_p1 (by decide) (by decide)) rfl (iv_any _) dX6_counts_5 (fun v2 e_v2 i_v2 => ?_)
  refine lv_iload_n hx hb dX6_counts_6 rfl (lv_at hl 2 rfl) ?_
  refine lv_icmp_gt (tgt := 34) hx hb dX6_counts_7 (by decide) (fun c3 => ?_) (fun c3 => ?_)
  · have i4 : iv p2 (-2147483648) 2147483646 := iv_lt1 c3 (iv_any p2) i_v2 (by decide)
    have i5 : iv v2 (-2147483647) 2147483647 := iv_lt2 c3 (iv_any p2) i_v2 (by decide)
    refine lv_iconst (v := 0) hx hb dX6_counts_34 (by decide) ?_
    exact h_iret hQ hx hb hr hlocks rfl hK hI ⟨rfl, rfl, rfl, (iv_w (lo' := 0) (hi' := 1) kc_0 (by decide) (by decide))⟩ dX6_counts_35
  · refine lv_aload_n hx hb dX6_counts_10 rfl (lv_at hl 0 rfl) ?_
    refine h_getr hx hb hts iX6_counts_X6 hown hK hI g_a (by decide) rfl rfl 5 (by decide) rfl 18 rfl (hts (.fieldLink RX6 29 "CatLeases$Sightings" "untoldAt" "[I") (List.mem_of_getElem? (i := 2) rfl)) (fun _ h9 => h9) dX6_counts_11 (fun a6 e_a6 g_a6 => ?_)
    refine lv_iload_n hx hb dX6_counts_14 rfl (lv_at hl 1 rfl) ?_
    refine h_iald (j := p1.toNatClampNeg) (lo := (-2147483648)) (hi := 2147483647) hx hb hK hI g_a6 (by decide) rfl (iv_in (n := 30) h_p1 (by decide) (by decide)) rfl (iv_any _) dX6_counts_15 (fun v7 e_v7 i_v7 => ?_)
    refine lv_iconst (v := (-1)) hx hb dX6_counts_16 (by decide) ?_
    have J30 : ∀ (H : Heap) (locs : List Loc) (ls : Array Slot), kI D g σ e_h_counts_X6 M s.heap M N R H locs → lv_has ls 3 [] → W p l e (headSpec wsX6_counts ({ frames := 0, cells := 0, slots := 0, locals := 0 })).room s m ar below meth c H locs 0 0 Q (F0 m 30 ls []) := by
      intro H locs ls hI hl
      refine lv_iconst (v := 1) hx hb dX6_counts_30 (by decide) ?_
      refine lv_goto (tgt := 35) hx hb dX6_counts_31 (by decide) ?_
      exact h_iret hQ hx hb hr hlocks rfl hK hI ⟨rfl, rfl, rfl, (iv_w (lo' := 0) (hi' := 1) kc_1 (by decide) (by decide))⟩ dX6_counts_35
    refine lv_icmp_eq (tgt := 30) hx hb dX6_counts_17 (by decide) (fun c8 => ?_) (fun c8 => ?_)
    · have i9 : iv v7 (-1) (-1) := iv_eq1 c8 i_v7 kc_m1
      exact J30 H locs ls hI (lv_sub hl [] rfl)
    · refine lv_aload_n hx hb dX6_counts_20 rfl (lv_at hl 0 rfl) ?_
      refine h_getr hx hb hts iX6_counts_X6 hown hK hI g_a (by decide) rfl rfl 5 (by decide) rfl 18 rfl (hts (.fieldLink RX6 29 "CatLeases$Sightings" "untoldAt" "[I") (List.mem_of_getElem? (i := 2) rfl)) (fun _ h9 => h9) dX6_counts_21 (fun a10 e_a10 g_a10 => ?_)
      have q11 : a6 = a10 := (e_a6).trans e_a10.symm
      subst q11
      refine lv_iload_n hx hb dX6_counts_24 rfl (lv_at hl 1 rfl) ?_
      refine h_iald (j := p1.toNatClampNeg) (lo := (-2147483648)) (hi := 2147483647) hx hb hK hI g_a6 (by decide) rfl (iv_in (n := 30) h_p1 (by decide) (by decide)) rfl (iv_any _) dX6_counts_25 (fun v12 e_v12 i_v12 => ?_)
      have q13 : v7 = v12 := (e_v7).trans e_v12.symm
      subst q13
      refine lv_iload_n hx hb dX6_counts_26 rfl (lv_at hl 2 rfl) ?_
      refine lv_icmp_le (tgt := 34) hx hb dX6_counts_27 (by decide) (fun c14 => ?_) (fun c14 => ?_)
      · refine lv_iconst (v := 0) hx hb dX6_counts_34 (by decide) ?_
        exact h_iret hQ hx hb hr hlocks rfl hK hI ⟨rfl, rfl, rfl, (iv_w (lo' := 0) (hi' := 1) kc_0 (by decide) (by decide))⟩ dX6_counts_35
      · have i15 : iv v7 (-2147483647) 2147483647 := iv_nle1 c14 i_v7 (iv_any p2) (by decide)
        have i16 : iv p2 (-2147483648) 2147483646 := iv_nle2 c14 i_v7 (iv_any p2) (by decide)
        exact J30 H locs ls hI (lv_sub hl [] rfl)
abbrev e_h_isInside_X6 : List (Nat × Nat) := []
set_option maxHeartbeats 4000000 in
set_option maxRecDepth 100000 in
theorem h_isInside_X6 (l : Launch) (D : va_G) (g : Nat → ClassId) (σ : Nat → Option Nat) (Z : State → Heap → Prop) (hZ0 : hZ σ Z) (M : hM) (N : hN) (R : hR) (a : Nat) (g_a : σ a = some 6) (p1 : Int32) (h_p1 : iv p1 0 99) (p2 : Int32) (h_p2 : iv p2 0 6) (p3 : Int32) : Met l yX6_isInside wsX6_isInside ({ frames := 0, cells := 0, slots := 0, locals := 0 }) (va_Pc [.ref a, .int p1, .int p2, .int p3] (hPre D g σ Z M N R)) (hQi D g σ e_h_isInside_X6 M (fun (r : Int32) (M1 : hM) (N1 : hN) (R1 : hR) => M = M1 ∧ N = N1 ∧ R = R1 ∧ iv r 0 1 ∧ (¬ r = 0 → iv p3 (-2147483648) 2147483646))) 0 0 (hA σ) := by
  refine h_head (cc := cX6_isInside) (maxL := 4) (ret := (some .boolean)) (by decide) rfl (Nat.le_of_ble_eq_true rfl) e_h_isInside_X6 ?_
  intro p e s m below meth c ls Q ar hQ hx hb hr hlocks hml hown hts hK hE H locs hI hl
  have hown : s.vm.findClass RX6 = some m.cls := hown
  have hl : lv_has ls 4 [(0, .ref a), (1, .int p1), (2, .int p2), (3, .int p3)] := hl
  refine lv_aload_n hx hb dX6_isInside_0 rfl (lv_at hl 0 rfl) ?_
  refine h_getr hx hb hts iX6_isInside_X6 hown hK hI g_a (by decide) rfl rfl 6 (by decide) rfl 21 rfl (hts (.fieldLink RX6 32 "CatLeases$Sightings" "outBehind" "[I") (List.mem_of_getElem? (i := 1) rfl)) (fun _ h9 => h9) dX6_isInside_1 (fun a1 e_a1 g_a1 => ?_)
  refine lv_iload_n hx hb dX6_isInside_4 rfl (lv_at hl 1 rfl) ?_
  refine lv_bipush (v := 7) hx hb dX6_isInside_5 (by decide) ?_
  refine lv_imul hx hb dX6_isInside_7 ?_
  refine h_nm (lo := 0) (hi := 693) (iv_mul h_p1 kc_7 (by decide) (by decide) (by decide) (by decide) (by decide)) (fun v2 e_v2 i_v2 => ?_)
  refine lv_iload_n hx hb dX6_isInside_8 rfl (lv_at hl 2 rfl) ?_
  refine lv_iadd hx hb dX6_isInside_9 ?_
  refine h_nm (lo := 0) (hi := 699) (iv_add i_v2 h_p2 (by decide) (by decide) (by decide) (by decide)) (fun v3 e_v3 i_v3 => ?_)
  refine h_iald (j := v3.toNatClampNeg) (lo := (-2147483648)) (hi := 2147483647) hx hb hK hI g_a1 (by decide) rfl (iv_in (n := 700) i_v3 (by decide) (by decide)) rfl (iv_any _) dX6_isInside_10 (fun v4 e_v4 i_v4 => ?_)
  refine lv_iload_n hx hb dX6_isInside_11 rfl (lv_at hl 3 rfl) ?_
  refine lv_icmp_le (tgt := 19) hx hb dX6_isInside_12 (by decide) (fun c5 => ?_) (fun c5 => ?_)
  · refine lv_iconst (v := 0) hx hb dX6_isInside_19 (by decide) ?_
    exact h_iret hQ hx hb hr hlocks rfl hK hI ⟨rfl, rfl, rfl, (iv_w (lo' := 0) (hi' := 1) kc_0 (by decide) (by decide)), (fun h9 => absurd rfl h9)⟩ dX6_isInside_20
  · have i6 : iv v4 (-2147483647) 2147483647 := iv_nle1 c5 i_v4 (iv_any p3) (by decide)
    have i7 : iv p3 (-2147483648) 2147483646 := iv_nle2 c5 i_v4 (iv_any p3) (by decide)
    refine lv_iconst (v := 1) hx hb dX6_isInside_15 (by decide) ?_
    refine lv_goto (tgt := 20) hx hb dX6_isInside_16 (by decide) ?_
    exact h_iret hQ hx hb hr hlocks rfl hK hI ⟨rfl, rfl, rfl, (iv_w (lo' := 0) (hi' := 1) kc_1 (by decide) (by decide)), (fun _ => i7)⟩ dX6_isInside_20
abbrev e_h_allow_X6 : List (Nat × Nat) := []
set_option maxHeartbeats 4000000 in
set_option maxRecDepth 100000 in
theorem h_allow_X6 (l : Launch) (D : va_G) (g : Nat → ClassId) (σ : Nat → Option Nat) (Z : State → Heap → Prop) (hZ0 : hZ σ Z) (M : hM) (N : hN) (R : hR) (a : Nat) (g_a : σ a = some 6) (p1 : Int32) (h_p1 : iv p1 0 99) (p2 : Int32) : Met l yX6_allow wsX6_allow ({ frames := 1, cells := 0, slots := 0, locals := 23 }) (va_Pc [.ref a, .int p1, .int p2] (hPre D g σ Z M N R)) (hQi D g σ e_h_allow_X6 M (fun (r : Int32) (M1 : hM) (N1 : hN) (R1 : hR) => M = M1 ∧ N = N1 ∧ R = R1 ∧ iv r 0 1)) 0 0 (hA σ) := by
  refine h_head (cc := cX6_allow) (maxL := 4) (ret := (some .boolean)) (by decide) rfl (Nat.le_of_ble_eq_true rfl) e_h_allow_X6 ?_
  intro p e s m below meth c ls Q ar hQ hx hb hr hlocks hml hown hts hK hE H locs hI hl
  have hown : s.vm.findClass RX6 = some m.cls := hown
  have hl : lv_has ls 4 [(0, .ref a), (1, .int p1), (2, .int p2)] := hl
  refine lv_iconst (v := 0) hx hb dX6_allow_0 (by decide) ?_
  have J2 : ∀ (n : Nat) (v3_2 : Int32) (H : Heap) (locs : List Loc) (ls : Array Slot), kI D g σ e_h_allow_X6 M s.heap M N R H locs → lv_has ls 4 [(0, .ref a), (1, .int p1), (2, .int p2), (3, .int v3_2)] → iv v3_2 0 30 → 31 ≤ v3_2.toInt + (n : Int) → W p l e (headSpec wsX6_allow ({ frames := 1, cells := 0, slots := 0, locals := 23 })).room s m ar below meth c H locs 0 0 Q (F0 m 2 ls []) := by
    intro n
    induction n with
    | zero => intro v3_2 H locs ls hI hl i_v3_2 hn; exfalso; have hz := i_v3_2; simp only [iv] at hz; omega
    | succ n ih2 =>
      intro v3_2 H locs ls hI hl i_v3_2 hn2
      refine lv_iload_n hx hb dX6_allow_2 rfl (lv_at hl 3 rfl) ?_
      refine lv_aload_n hx hb dX6_allow_3 rfl (lv_at hl 0 rfl) ?_
      refine h_geti (lo := 0) (hi := 30) hx hb hts iX6_allow_X6 hown hK hI g_a (by decide) rfl rfl 0 (by decide) rfl rfl (hts (.fieldLink RX6 9 "CatLeases$Sightings" "count" "I") (List.mem_of_getElem? (i := 1) rfl)) (fun _ h9 => h9) dX6_allow_4 (fun v1 e_v1 i_v1 => ?_)
      refine lv_icmp_ge (tgt := 53) hx hb dX6_allow_7 (by decide) (fun c2 => ?_) (fun c2 => ?_)
      · refine lv_aload_n hx hb dX6_allow_53 rfl (lv_at hl 0 rfl) ?_
        refine h_geti (lo := 0) (hi := 1) hx hb hts iX6_allow_X6 hown hK hI g_a (by decide) rfl rfl 8 (by decide) rfl rfl (hts (.fieldLink RX6 39 "CatLeases$Sightings" "anyCats" "Z") (List.mem_of_getElem? (i := 5) rfl)) (fun _ h9 => h9) dX6_allow_54 (fun v3 e_v3 i_v3 => ?_)
        exact h_iret hQ hx hb hr hlocks (nar_z i_v3) hK hI ⟨rfl, rfl, rfl, i_v3⟩ dX6_allow_57
      · have i4 : iv v1 1 30 := iv_nle1 c2 i_v1 i_v3_2 (by decide)
        have i5 : iv v3_2 0 29 := iv_nle2 c2 i_v1 i_v3_2 (by decide)
        refine lv_aload_n hx hb dX6_allow_10 rfl (lv_at hl 0 rfl) ?_
        refine lv_iload_n hx hb dX6_allow_11 rfl (lv_at hl 3 rfl) ?_
        refine lv_iload_n hx hb dX6_allow_12 rfl (lv_at hl 2 rfl) ?_
        refine h_goi hI (by decide) (va_runV (As := [.int v3_2, .int p2]) (rest := []) ⟨hx, hb, hml, hown, hts⟩ (h_counts_X6 l D g σ Z hZ0 M N R a g_a v3_2 i5 p2) (cwV 2 hts gX6_allow_X6_counts rfl rfl rfl (by decide +kernel) ⟨Nat.le_of_ble_eq_true rfl, Nat.le_of_ble_eq_true rfl⟩) (h_preV hZ0 hK hE hI g_a (by decide) rfl) rfl rfl hl.1 rfl (lv_room (Nat.le_of_ble_eq_true rfl)) dX6_allow_13 ⟨Nat.le_of_ble_eq_true rfl, Nat.le_of_ble_eq_true rfl⟩) (fun r6 M7 N8 R9 H locs q10 z_M7 hI => ?_)
        obtain ⟨rfl, rfl, rfl, i_r6⟩ := q10
        have J47 : ∀ (H : Heap) (locs : List Loc) (ls : Array Slot), kI D g σ e_h_allow_X6 M s.heap M N R H locs → lv_has ls 4 [(0, .ref a), (1, .int p1), (2, .int p2), (3, .int v3_2)] → W p l e (headSpec wsX6_allow ({ frames := 1, cells := 0, slots := 0, locals := 23 })).room s m ar below meth c H locs 0 0 Q (F0 m 47 ls []) := by
          intro H locs ls hI hl
          obtain ⟨v11, e_v11⟩ : ∃ z : Int32, z = v3_2 + Int32.ofInt 1 := ⟨_, rfl⟩
          have i_v11 : iv v11 1 30 := by rw [e_v11]; exact iv_add i5 (ki_1) (by decide) (by decide) (by decide) (by decide)
          refine lv_iinc (v := v11) (lv' := [(3, .int v11), (0, .ref a), (1, .int p1), (2, .int p2)]) hx hb dX6_allow_47 hl (k := 3) rfl e_v11.symm (by decide) rfl (fun ls hl => ?_)
          refine lv_goto (tgt := 2) hx hb dX6_allow_50 (by decide) ?_
          exact ih2 v11 H locs ls hI (lv_sub hl [1, 2, 3, 0] rfl) (iv_w (lo' := 0) (hi' := 30) i_v11 (by decide) (by decide)) (by have h9 := (h_inc e_v11 i5 ki_1 (by decide) (by decide)); omega)
        refine lv_if_eq (tgt := 47) hx hb dX6_allow_16 (by decide) (fun c12 => ?_) (fun c12 => ?_)
        · have i13 : iv r6 0 0 := iv_eq1 c12 i_r6 kc_0
          exact J47 H locs ls hI hl
        · have i14 : iv r6 1 1 := iv_neL c12 i_r6 (by decide) (by decide)
          refine lv_aload_n hx hb dX6_allow_19 rfl (lv_at hl 0 rfl) ?_
          refine lv_iload_n hx hb dX6_allow_20 rfl (lv_at hl 1 rfl) ?_
          refine lv_aload_n hx hb dX6_allow_21 rfl (lv_at hl 0 rfl) ?_
          refine h_getr hx hb hts iX6_allow_X6 hown hK hI g_a (by decide) rfl rfl 2 (by decide) rfl 19 rfl (hts (.fieldLink RX6 19 "CatLeases$Sightings" "tenants" "[I") (List.mem_of_getElem? (i := 2) rfl)) (fun _ h9 => h9) dX6_allow_22 (fun a15 e_a15 g_a15 => ?_)
          refine lv_iload_n hx hb dX6_allow_25 rfl (lv_at hl 3 rfl) ?_
          refine h_iald (j := v3_2.toNatClampNeg) (lo := 0) (hi := 6) hx hb hK hI g_a15 (by decide) rfl (iv_in (n := 30) i5 (by decide) (by decide)) rfl (hI.iv1 (n := 30) g_a15 rfl (in_lt (iv_in (n := 30) i5 (by decide) (by decide))) rfl) dX6_allow_26 (fun v16 e_v16 i_v16 => ?_)
          refine lv_aload_n hx hb dX6_allow_27 rfl (lv_at hl 0 rfl) ?_
          refine h_getr hx hb hts iX6_allow_X6 hown hK hI g_a (by decide) rfl rfl 1 (by decide) rfl 18 rfl (hts (.fieldLink RX6 15 "CatLeases$Sightings" "quarters" "[I") (List.mem_of_getElem? (i := 3) rfl)) (fun _ h9 => h9) dX6_allow_28 (fun a17 e_a17 g_a17 => ?_)
          refine lv_iload_n hx hb dX6_allow_31 rfl (lv_at hl 3 rfl) ?_
          refine h_iald (j := v3_2.toNatClampNeg) (lo := (-2147483648)) (hi := 2147483647) hx hb hK hI g_a17 (by decide) rfl (iv_in (n := 30) i5 (by decide) (by decide)) rfl (iv_any _) dX6_allow_32 (fun v18 e_v18 i_v18 => ?_)
          refine h_goi hI (by decide) (va_runV (As := [.int p1, .int v16, .int v18]) (rest := []) ⟨hx, hb, hml, hown, hts⟩ (h_isInside_X6 l D g σ Z hZ0 M N R a g_a p1 h_p1 v16 i_v16 v18) (cwV 3 hts gX6_allow_X6_isInside rfl rfl rfl (by decide +kernel) ⟨Nat.le_of_ble_eq_true rfl, Nat.le_of_ble_eq_true rfl⟩) (h_preV hZ0 hK hE hI g_a (by decide) rfl) rfl rfl hl.1 rfl (lv_room (Nat.le_of_ble_eq_true rfl)) dX6_allow_33 ⟨Nat.le_of_ble_eq_true rfl, Nat.le_of_ble_eq_true rfl⟩) (fun r19 M20 N21 R22 H locs q23 z_M20 hI => ?_)
          obtain ⟨rfl, rfl, rfl, i_r19, z24⟩ := q23
          refine lv_aload_n hx hb dX6_allow_36 rfl (lv_at hl 0 rfl) ?_
          refine h_getr hx hb hts iX6_allow_X6 hown hK hI g_a (by decide) rfl rfl 3 (by decide) rfl 20 rfl (hts (.fieldLink RX6 22 "CatLeases$Sightings" "inside" "[Z") (List.mem_of_getElem? (i := 4) rfl)) (fun _ h9 => h9) dX6_allow_37 (fun a25 e_a25 g_a25 => ?_)
          refine lv_iload_n hx hb dX6_allow_40 rfl (lv_at hl 3 rfl) ?_
          refine h_zald (j := v3_2.toNatClampNeg) (lo := 0) (hi := 1) hx hb hK hI g_a25 (by decide) rfl (iv_in (n := 30) i5 (by decide) (by decide)) rfl (hI.iv1 (n := 30) g_a25 rfl (in_lt (iv_in (n := 30) i5 (by decide) (by decide))) rfl) dX6_allow_41 (fun v26 e_v26 i_v26 => ?_)
          refine lv_icmp_eq (tgt := 47) hx hb dX6_allow_42 (by decide) (fun c27 => ?_) (fun c27 => ?_)
          · exact J47 H locs ls hI hl
          · refine lv_iconst (v := 0) hx hb dX6_allow_45 (by decide) ?_
            exact h_iret hQ hx hb hr hlocks rfl hK hI ⟨rfl, rfl, rfl, (iv_w (lo' := 0) (hi' := 1) kc_0 (by decide) (by decide))⟩ dX6_allow_46
  refine lv_istore_n (lv' := [(3, .int (0 : Int32)), (0, .ref a), (1, .int p1), (2, .int p2)]) hx hb dX6_allow_1 rfl hl (by decide) rfl (fun ls hl => ?_)
  exact J2 31 (0 : Int32) H locs ls hI (lv_sub hl [1, 2, 3, 0] rfl) (iv_w (lo' := 0) (hi' := 30) kc_0 (by decide) (by decide)) (by have h9 := kc_0; simp only [iv] at h9; omega)
abbrev e_h_countInside_X6 : List (Nat × Nat) := []
set_option maxHeartbeats 4000000 in
set_option maxRecDepth 100000 in
theorem h_countInside_X6 (l : Launch) (D : va_G) (g : Nat → ClassId) (σ : Nat → Option Nat) (Z : State → Heap → Prop) (hZ0 : hZ σ Z) (M : hM) (N : hN) (R : hR) (a : Nat) (g_a : σ a = some 6) (p1 : Int32) (h_p1 : iv p1 0 6) (p2 : Int32) (p3 : Int32) : Met l yX6_countInside wsX6_countInside ({ frames := 2, cells := 0, slots := 0, locals := 46 }) (va_Pc [.ref a, .int p1, .int p2, .int p3] (hPre D g σ Z M N R)) (hQi D g σ e_h_countInside_X6 M (fun (r : Int32) (M1 : hM) (N1 : hN) (R1 : hR) => M = M1 ∧ N = N1 ∧ R = R1)) 0 0 (hA σ) := by
  refine h_head (cc := cX6_countInside) (maxL := 6) (ret := (some .int)) (by decide) rfl (Nat.le_of_ble_eq_true rfl) e_h_countInside_X6 ?_
  intro p e s m below meth c ls Q ar hQ hx hb hr hlocks hml hown hts hK hE H locs hI hl
  have hown : s.vm.findClass RX6 = some m.cls := hown
  have hl : lv_has ls 6 [(0, .ref a), (1, .int p1), (2, .int p2), (3, .int p3)] := hl
  refine lv_iconst (v := 0) hx hb dX6_countInside_0 (by decide) ?_
  refine lv_istore (lv' := [(4, .int (0 : Int32)), (0, .ref a), (1, .int p1), (2, .int p2), (3, .int p3)]) hx hb dX6_countInside_1 hl (by decide) rfl (fun ls hl => ?_)
  refine lv_iconst (v := 0) hx hb dX6_countInside_3 (by decide) ?_
  have J6 : ∀ (n : Nat) (v4_6 : Int32) (v5_6 : Int32) (H : Heap) (locs : List Loc) (ls : Array Slot), kI D g σ e_h_countInside_X6 M s.heap M N R H locs → lv_has ls 6 [(0, .ref a), (1, .int p1), (2, .int p2), (3, .int p3), (4, .int v4_6), (5, .int v5_6)] → iv v5_6 0 100 → 101 ≤ v5_6.toInt + (n : Int) → W p l e (headSpec wsX6_countInside ({ frames := 2, cells := 0, slots := 0, locals := 46 })).room s m ar below meth c H locs 0 0 Q (F0 m 6 ls []) := by
    intro n
    induction n with
    | zero => intro v4_6 v5_6 H locs ls hI hl i_v5_6 hn; exfalso; have hz := i_v5_6; simp only [iv] at hz; omega
    | succ n ih6 =>
      intro v4_6 v5_6 H locs ls hI hl i_v5_6 hn6
      refine lv_iload hx hb dX6_countInside_6 (lv_at hl 5 rfl) ?_
      refine lv_bipush (v := 100) hx hb dX6_countInside_8 (by decide) ?_
      refine lv_icmp_ge (tgt := 43) hx hb dX6_countInside_10 (by decide) (fun c1 => ?_) (fun c1 => ?_)
      · have i2 : iv v5_6 100 100 := iv_le2 c1 kc_100 i_v5_6 (by decide)
        refine lv_iload hx hb dX6_countInside_43 (lv_at hl 4 rfl) ?_
        exact h_iret hQ hx hb hr hlocks rfl hK hI ⟨rfl, rfl, rfl⟩ dX6_countInside_45
      · have i3 : iv v5_6 0 99 := iv_nle2 c1 kc_100 i_v5_6 (by decide)
        refine lv_aload_n hx hb dX6_countInside_13 rfl (lv_at hl 0 rfl) ?_
        refine lv_iload hx hb dX6_countInside_14 (lv_at hl 5 rfl) ?_
        refine lv_iload_n hx hb dX6_countInside_16 rfl (lv_at hl 1 rfl) ?_
        refine lv_iload_n hx hb dX6_countInside_17 rfl (lv_at hl 2 rfl) ?_
        refine h_goi hI (by decide) (va_runV (As := [.int v5_6, .int p1, .int p2]) (rest := []) ⟨hx, hb, hml, hown, hts⟩ (h_isInside_X6 l D g σ Z hZ0 M N R a g_a v5_6 i3 p1 h_p1 p2) (cwV 3 hts gX6_countInside_X6_isInside rfl rfl rfl (by decide +kernel) ⟨Nat.le_of_ble_eq_true rfl, Nat.le_of_ble_eq_true rfl⟩) (h_preV hZ0 hK hE hI g_a (by decide) rfl) rfl rfl hl.1 rfl (lv_room (Nat.le_of_ble_eq_true rfl)) dX6_countInside_18 ⟨Nat.le_of_ble_eq_true rfl, Nat.le_of_ble_eq_true rfl⟩) (fun r4 M5 N6 R7 H locs q8 z_M5 hI => ?_)
        obtain ⟨rfl, rfl, rfl, i_r4, z9⟩ := q8
        have J37 : ∀ (v4_37 : Int32) (H : Heap) (locs : List Loc) (ls : Array Slot), kI D g σ e_h_countInside_X6 M s.heap M N R H locs → lv_has ls 6 [(0, .ref a), (1, .int p1), (2, .int p2), (3, .int p3), (4, .int v4_37), (5, .int v5_6)] → W p l e (headSpec wsX6_countInside ({ frames := 2, cells := 0, slots := 0, locals := 46 })).room s m ar below meth c H locs 0 0 Q (F0 m 37 ls []) := by
          intro v4_37 H locs ls hI hl
          obtain ⟨v10, e_v10⟩ : ∃ z : Int32, z = v5_6 + Int32.ofInt 1 := ⟨_, rfl⟩
          have i_v10 : iv v10 1 100 := by rw [e_v10]; exact iv_add i3 (ki_1) (by decide) (by decide) (by decide) (by decide)
          refine lv_iinc (v := v10) (lv' := [(5, .int v10), (0, .ref a), (1, .int p1), (2, .int p2), (3, .int p3), (4, .int v4_37)]) hx hb dX6_countInside_37 hl (k := 5) rfl e_v10.symm (by decide) rfl (fun ls hl => ?_)
          refine lv_goto (tgt := 6) hx hb dX6_countInside_40 (by decide) ?_
          exact ih6 v4_37 v10 H locs ls hI (lv_sub hl [1, 2, 3, 4, 5, 0] rfl) (iv_w (lo' := 0) (hi' := 100) i_v10 (by decide) (by decide)) (by have h9 := (h_inc e_v10 i3 ki_1 (by decide) (by decide)); omega)
        refine lv_if_eq (tgt := 37) hx hb dX6_countInside_21 (by decide) (fun c11 => ?_) (fun c11 => ?_)
        · have i12 : iv r4 0 0 := iv_eq1 c11 i_r4 kc_0
          exact J37 v4_6 H locs ls hI hl
        · have i13 : iv p2 (-2147483648) 2147483646 := z9 c11
          have i14 : iv r4 1 1 := iv_neL c11 i_r4 (by decide) (by decide)
          refine lv_aload_n hx hb dX6_countInside_24 rfl (lv_at hl 0 rfl) ?_
          refine lv_iload hx hb dX6_countInside_25 (lv_at hl 5 rfl) ?_
          refine lv_iload_n hx hb dX6_countInside_27 rfl (lv_at hl 3 rfl) ?_
          refine h_goi hI (by decide) (va_runV (As := [.int v5_6, .int p3]) (rest := []) ⟨hx, hb, hml, hown, hts⟩ (h_allow_X6 l D g σ Z hZ0 M N R a g_a v5_6 i3 p3) (cwV 2 hts gX6_countInside_X6_allow rfl rfl rfl (by decide +kernel) ⟨Nat.le_of_ble_eq_true rfl, Nat.le_of_ble_eq_true rfl⟩) (h_preV hZ0 hK hE hI g_a (by decide) rfl) rfl rfl hl.1 rfl (lv_room (Nat.le_of_ble_eq_true rfl)) dX6_countInside_28 ⟨Nat.le_of_ble_eq_true rfl, Nat.le_of_ble_eq_true rfl⟩) (fun r15 M16 N17 R18 H locs q19 z_M16 hI => ?_)
          obtain ⟨rfl, rfl, rfl, i_r15⟩ := q19
          refine lv_if_eq (tgt := 37) hx hb dX6_countInside_31 (by decide) (fun c20 => ?_) (fun c20 => ?_)
          · have i21 : iv r15 0 0 := iv_eq1 c20 i_r15 kc_0
            exact J37 v4_6 H locs ls hI hl
          · have i22 : iv r15 1 1 := iv_neL c20 i_r15 (by decide) (by decide)
            obtain ⟨v23, e_v23⟩ : ∃ z : Int32, z = v4_6 + Int32.ofInt 1 := ⟨_, rfl⟩
            refine lv_iinc (v := v23) (lv' := [(4, .int v23), (0, .ref a), (1, .int p1), (2, .int p2), (3, .int p3), (5, .int v5_6)]) hx hb dX6_countInside_34 hl (k := 4) rfl e_v23.symm (by decide) rfl (fun ls hl => ?_)
            exact J37 v23 H locs ls hI (lv_sub hl [1, 2, 3, 4, 0, 5] rfl)
  refine lv_istore (lv' := [(5, .int (0 : Int32)), (4, .int (0 : Int32)), (0, .ref a), (1, .int p1), (2, .int p2), (3, .int p3)]) hx hb dX6_countInside_4 hl (by decide) rfl (fun ls hl => ?_)
  exact J6 101 (0 : Int32) (0 : Int32) H locs ls hI (lv_sub hl [2, 3, 4, 5, 1, 0] rfl) (iv_w (lo' := 0) (hi' := 100) kc_0 (by decide) (by decide)) (by have h9 := kc_0; simp only [iv] at h9; omega)
