abbrev e_h_bitsOf_X9 : List (Nat × Nat) := []
set_option maxHeartbeats 4000000 in
set_option maxRecDepth 100000 in
theorem h_bitsOf_X9 (l : Launch) (D : va_G) (g : Nat → ClassId) (σ : Nat → Option Nat) (Z : State → Heap → Prop) (hZ0 : hZ σ Z) (M : hM) (N : hN) (R : hR) (p0 : Int32) : Met l yX9_bitsOf wsX9_bitsOf ({ frames := 0, cells := 0, slots := 0, locals := 0 }) (va_Pc [.int p0] (hPre D g σ Z M N R)) (hQi D g σ e_h_bitsOf_X9 M (fun (r : Int32) (M1 : hM) (N1 : hN) (R1 : hR) => M = M1 ∧ N = N1 ∧ R = R1)) 0 0 (hA σ) := by
  refine h_head (cc := cX9_bitsOf) (maxL := 3) (ret := (some .int)) (by decide) rfl (Nat.le_of_ble_eq_true rfl) e_h_bitsOf_X9 ?_
  intro p e s m below meth c ls Q ar hQ hx hb hr hlocks hml hown hts hK hE H locs hI hl
  have hown : s.vm.findClass RX9 = some m.cls := hown
  have hl : lv_has ls 3 [(0, .int p0)] := hl
  refine lv_iconst (v := 0) hx hb dX9_bitsOf_0 (by decide) ?_
  refine lv_istore_n (lv' := [(1, .int (0 : Int32)), (0, .int p0)]) hx hb dX9_bitsOf_1 rfl hl (by decide) rfl (fun ls hl => ?_)
  refine lv_iload_n hx hb dX9_bitsOf_2 rfl (lv_at hl 1 rfl) ?_
  have J4 : ∀ (n : Nat) (v1_4 : Int32) (v2_4 : Int32) (H : Heap) (locs : List Loc) (ls : Array Slot), kI D g σ e_h_bitsOf_X9 M s.heap M N R H locs → lv_has ls 3 [(1, .int v1_4), (2, .int v2_4)] → v2_4.toBitVec.toNat < n → W p l e (headSpec wsX9_bitsOf ({ frames := 0, cells := 0, slots := 0, locals := 0 })).room s m ar below meth c H locs 0 0 Q (F0 m 4 ls []) := by
    intro n
    induction n with
    | zero => intro v1_4 v2_4 H locs ls hI hl hn; exact absurd hn (Nat.not_lt_zero _)
    | succ n ih4 =>
      intro v1_4 v2_4 H locs ls hI hl hn4
      refine lv_iload_n hx hb dX9_bitsOf_4 rfl (lv_at hl 1 rfl) ?_
      refine lv_if_eq (tgt := 20) hx hb dX9_bitsOf_5 (by decide) (fun c1 => ?_) (fun c1 => ?_)
      · have i2 : iv v2_4 0 0 := iv_eq1 c1 (iv_any v2_4) kc_0
        refine lv_iload_n hx hb dX9_bitsOf_20 rfl (lv_at hl 0 rfl) ?_
        exact h_iret hQ hx hb hr hlocks rfl hK hI ⟨rfl, rfl, rfl⟩ dX9_bitsOf_21
      · obtain ⟨v3, e_v3⟩ : ∃ z : Int32, z = v1_4 + Int32.ofInt 1 := ⟨_, rfl⟩
        refine lv_iinc (v := v3) (lv' := [(1, .int v3), (2, .int v2_4)]) hx hb dX9_bitsOf_8 hl (k := 0) rfl e_v3.symm (by decide) rfl (fun ls hl => ?_)
        refine lv_iload_n hx hb dX9_bitsOf_11 rfl (lv_at hl 1 rfl) ?_
        refine lv_iload_n hx hb dX9_bitsOf_12 rfl (lv_at hl 1 rfl) ?_
        refine lv_iconst (v := 1) hx hb dX9_bitsOf_13 (by decide) ?_
        refine lv_isub hx hb dX9_bitsOf_14 ?_
        refine h_nm (lo := (-2147483648)) (hi := 2147483647) (iv_any _) (fun v4 e_v4 i_v4 => ?_)
        refine lv_iand hx hb dX9_bitsOf_15 ?_
        refine h_nm (lo := (-2147483648)) (hi := 2147483647) (iv_any _) (fun v5 e_v5 i_v5 => ?_)
        refine lv_istore_n (lv' := [(2, .int v5), (1, .int v3)]) hx hb dX9_bitsOf_16 rfl hl (by decide) rfl (fun ls hl => ?_)
        refine lv_goto (tgt := 4) hx hb dX9_bitsOf_17 (by decide) ?_
        exact ih4 v3 v5 H locs ls hI (lv_sub hl [1, 0] rfl) (by have h9 := bits_lt v2_4 c1; rw [e_v5, e_v4]; omega)
  refine lv_istore_n (lv' := [(2, .int p0), (1, .int (0 : Int32)), (0, .int p0)]) hx hb dX9_bitsOf_3 rfl hl (by decide) rfl (fun ls hl => ?_)
  exact J4 4294967296 (0 : Int32) p0 H locs ls hI (lv_sub hl [1, 0] rfl) (BitVec.isLt _)
abbrev e_h_divisor_X9 : List (Nat × Nat) := []
set_option maxHeartbeats 4000000 in
set_option maxRecDepth 100000 in
theorem h_divisor_X9 (l : Launch) (D : va_G) (g : Nat → ClassId) (σ : Nat → Option Nat) (Z : State → Heap → Prop) (hZ0 : hZ σ Z) (M : hM) (N : hN) (R : hR) (p0 : Int32) (h_p0 : iv p0 1 2147483647) (p1 : Int32) : Met l yX9_divisor wsX9_divisor ({ frames := 0, cells := 0, slots := 0, locals := 0 }) (va_Pc [.int p0, .int p1] (hPre D g σ Z M N R)) (hQi D g σ e_h_divisor_X9 M (fun (r : Int32) (M1 : hM) (N1 : hN) (R1 : hR) => M = M1 ∧ N = N1 ∧ R = R1 ∧ iv r 1 2147483647)) 0 0 (hA σ) := by
  refine h_head (cc := cX9_divisor) (maxL := 5) (ret := (some .int)) (by decide) rfl (Nat.le_of_ble_eq_true rfl) e_h_divisor_X9 ?_
  intro p e s m below meth c ls Q ar hQ hx hb hr hlocks hml hown hts hK hE H locs hI hl
  have hown : s.vm.findClass RX9 = some m.cls := hown
  have hl : lv_has ls 5 [(0, .int p0), (1, .int p1)] := hl
  refine lv_iload_n hx hb dX9_divisor_0 rfl (lv_at hl 0 rfl) ?_
  refine lv_istore_n (lv' := [(2, .int p0), (0, .int p0), (1, .int p1)]) hx hb dX9_divisor_1 rfl hl (by decide) rfl (fun ls hl => ?_)
  refine lv_iload_n hx hb dX9_divisor_2 rfl (lv_at hl 2 rfl) ?_
  have J4 : ∀ (n : Nat) (v2_4 : Int32) (v3_4 : Int32) (H : Heap) (locs : List Loc) (ls : Array Slot), kI D g σ e_h_divisor_X9 M s.heap M N R H locs → lv_has ls 5 [(2, .int v2_4), (3, .int v3_4)] → iv v2_4 1 2147483647 → v3_4.toInt + 2147483649 ≤ (n : Int) → W p l e (headSpec wsX9_divisor ({ frames := 0, cells := 0, slots := 0, locals := 0 })).room s m ar below meth c H locs 0 0 Q (F0 m 4 ls []) := by
    intro n
    induction n with
    | zero => intro v2_4 v3_4 H locs ls hI hl i_v2_4 hn; exfalso; have hz := iv_any v3_4; simp only [iv] at hz; omega
    | succ n ih4 =>
      intro v2_4 v3_4 H locs ls hI hl i_v2_4 hn4
      refine lv_iload_n hx hb dX9_divisor_4 rfl (lv_at hl 1 rfl) ?_
      refine lv_if_le (tgt := 21) hx hb dX9_divisor_5 (by decide) (fun c1 => ?_) (fun c1 => ?_)
      · have i2 : iv v3_4 (-2147483648) 0 := iv_le1 c1 (iv_any v3_4) kc_0 (by decide)
        refine lv_iload_n hx hb dX9_divisor_21 rfl (lv_at hl 0 rfl) ?_
        exact h_iret hQ hx hb hr hlocks rfl hK hI ⟨rfl, rfl, rfl, i_v2_4⟩ dX9_divisor_22
      · have i3 : iv v3_4 1 2147483647 := iv_nle1 c1 (iv_any v3_4) kc_0 (by decide)
        refine lv_iload_n hx hb dX9_divisor_8 rfl (lv_at hl 0 rfl) ?_
        refine lv_iload_n hx hb dX9_divisor_9 rfl (lv_at hl 1 rfl) ?_
        refine lv_irem hx hb dX9_divisor_10 (iv_ne i3 kc_0 (by decide)) ?_
        refine h_nm (lo := 0) (hi := 2147483646) (iv_rem i_v2_4 i3 (by decide) (by decide) (by decide)) (fun v4 e_v4 i_v4 => ?_)
        refine lv_istore (lv' := [(4, .int v4), (2, .int v2_4), (3, .int v3_4)]) hx hb dX9_divisor_11 hl (by decide) rfl (fun ls hl => ?_)
        refine lv_iload_n hx hb dX9_divisor_13 rfl (lv_at hl 2 rfl) ?_
        refine lv_istore_n (lv' := [(2, .int v3_4), (4, .int v4), (3, .int v3_4)]) hx hb dX9_divisor_14 rfl hl (by decide) rfl (fun ls hl => ?_)
        refine lv_iload hx hb dX9_divisor_15 (lv_at hl 1 rfl) ?_
        refine lv_istore_n (lv' := [(3, .int v4), (2, .int v3_4), (4, .int v4)]) hx hb dX9_divisor_17 rfl hl (by decide) rfl (fun ls hl => ?_)
        refine lv_goto (tgt := 4) hx hb dX9_divisor_18 (by decide) ?_
        exact ih4 v3_4 v4 H locs ls hI (lv_sub hl [1, 0] rfl) i3 (by have h9 := rem_lt e_v4 i_v2_4 i3 (by decide) (by decide); omega)
  refine lv_istore_n (lv' := [(3, .int p1), (2, .int p0), (0, .int p0), (1, .int p1)]) hx hb dX9_divisor_3 rfl hl (by decide) rfl (fun ls hl => ?_)
  exact J4 4294967296 p0 p1 H locs ls hI (lv_sub hl [1, 0] rfl) h_p0 (by have h9 := iv_any p1; simp only [iv] at h9; omega)
abbrev e_h_power_100 : List (Nat × Nat) := []
set_option maxHeartbeats 4000000 in
set_option maxRecDepth 100000 in
theorem h_power_100 (l : Launch) (D : va_G) (g : Nat → ClassId) (σ : Nat → Option Nat) (Z : State → Heap → Prop) (hZ0 : hZ σ Z) (M : hM) (N : hN) (R : hR) (p0 : Int32) (h_p0 : iv p0 100 100) (p1 : Int32) (h_p1 : iv p1 0 4) : Met l yX9_power wsX9_power ({ frames := 0, cells := 0, slots := 0, locals := 0 }) (va_Pc [.int p0, .int p1] (hPre D g σ Z M N R)) (hQi D g σ e_h_power_100 M (fun (r : Int32) (M1 : hM) (N1 : hN) (R1 : hR) => M = M1 ∧ N = N1 ∧ R = R1 ∧ iv r 1 100000000)) 0 0 (hA σ) := by
  refine h_head (cc := cX9_power) (maxL := 4) (ret := (some .int)) (by decide) rfl (Nat.le_of_ble_eq_true rfl) e_h_power_100 ?_
  intro p e s m below meth c ls Q ar hQ hx hb hr hlocks hml hown hts hK hE H locs hI hl
  have hown : s.vm.findClass RX9 = some m.cls := hown
  have hl : lv_has ls 4 [(0, .int p0), (1, .int p1)] := hl
  refine lv_iconst (v := 1) hx hb dX9_power_0 (by decide) ?_
  refine lv_istore_n (lv' := [(2, .int (1 : Int32)), (0, .int p0), (1, .int p1)]) hx hb dX9_power_1 rfl hl (by decide) rfl (fun ls hl => ?_)
  refine lv_iconst (v := 0) hx hb dX9_power_2 (by decide) ?_
  refine lv_istore_n (lv' := [(3, .int (0 : Int32)), (2, .int (1 : Int32)), (0, .int p0), (1, .int p1)]) hx hb dX9_power_3 rfl hl (by decide) rfl (fun ls hl => ?_)
  refine lv_iload_n hx hb dX9_power_4 rfl (lv_at hl 0 rfl) ?_
  refine lv_iload_n hx hb dX9_power_5 rfl (lv_at hl 3 rfl) ?_
  refine lv_icmp_ge (tgt := 19) hx hb dX9_power_6 (by decide) (fun c1 => ?_) (fun c1 => ?_)
  · have i2 : iv p1 0 0 := iv_le1 c1 h_p1 kc_0 (by decide)
    refine lv_iload_n hx hb dX9_power_19 rfl (lv_at hl 1 rfl) ?_
    exact h_iret hQ hx hb hr hlocks rfl hK hI ⟨rfl, rfl, rfl, (iv_w (lo' := 1) (hi' := 100000000) kc_1 (by decide) (by decide))⟩ dX9_power_20
  · have i3 : iv p1 1 4 := iv_nle1 c1 h_p1 kc_0 (by decide)
    refine lv_iload_n hx hb dX9_power_9 rfl (lv_at hl 1 rfl) ?_
    refine lv_iload_n hx hb dX9_power_10 rfl (lv_at hl 2 rfl) ?_
    refine lv_imul hx hb dX9_power_11 ?_
    refine h_nm (lo := 100) (hi := 100) (iv_mul kc_1 h_p0 (by decide) (by decide) (by decide) (by decide) (by decide)) (fun v4 e_v4 i_v4 => ?_)
    refine lv_istore_n (lv' := [(2, .int v4), (3, .int (0 : Int32)), (0, .int p0), (1, .int p1)]) hx hb dX9_power_12 rfl hl (by decide) rfl (fun ls hl => ?_)
    refine lv_iinc (v := (1 : Int32)) (lv' := [(3, .int (1 : Int32)), (2, .int v4), (0, .int p0), (1, .int p1)]) hx hb dX9_power_13 hl (k := 1) rfl (by decide) (by decide) rfl (fun ls hl => ?_)
    refine lv_goto (tgt := 4) hx hb dX9_power_16 (by decide) ?_
    refine lv_iload_n hx hb dX9_power_4 rfl (lv_at hl 0 rfl) ?_
    refine lv_iload_n hx hb dX9_power_5 rfl (lv_at hl 3 rfl) ?_
    refine lv_icmp_ge (tgt := 19) hx hb dX9_power_6 (by decide) (fun c5 => ?_) (fun c5 => ?_)
    · have i6 : iv p1 1 1 := iv_le1 c5 i3 kc_1 (by decide)
      refine lv_iload_n hx hb dX9_power_19 rfl (lv_at hl 1 rfl) ?_
      exact h_iret hQ hx hb hr hlocks rfl hK hI ⟨rfl, rfl, rfl, (iv_w (lo' := 1) (hi' := 100000000) i_v4 (by decide) (by decide))⟩ dX9_power_20
    · have i7 : iv p1 2 4 := iv_nle1 c5 i3 kc_1 (by decide)
      refine lv_iload_n hx hb dX9_power_9 rfl (lv_at hl 1 rfl) ?_
      refine lv_iload_n hx hb dX9_power_10 rfl (lv_at hl 2 rfl) ?_
      refine lv_imul hx hb dX9_power_11 ?_
      refine h_nm (lo := 10000) (hi := 10000) (iv_mul i_v4 h_p0 (by decide) (by decide) (by decide) (by decide) (by decide)) (fun v8 e_v8 i_v8 => ?_)
      refine lv_istore_n (lv' := [(2, .int v8), (3, .int (1 : Int32)), (0, .int p0), (1, .int p1)]) hx hb dX9_power_12 rfl hl (by decide) rfl (fun ls hl => ?_)
      refine lv_iinc (v := (2 : Int32)) (lv' := [(3, .int (2 : Int32)), (2, .int v8), (0, .int p0), (1, .int p1)]) hx hb dX9_power_13 hl (k := 1) rfl (by decide) (by decide) rfl (fun ls hl => ?_)
      refine lv_goto (tgt := 4) hx hb dX9_power_16 (by decide) ?_
      refine lv_iload_n hx hb dX9_power_4 rfl (lv_at hl 0 rfl) ?_
      refine lv_iload_n hx hb dX9_power_5 rfl (lv_at hl 3 rfl) ?_
      refine lv_icmp_ge (tgt := 19) hx hb dX9_power_6 (by decide) (fun c9 => ?_) (fun c9 => ?_)
      · have i10 : iv p1 2 2 := iv_le1 c9 i7 kc_2 (by decide)
        refine lv_iload_n hx hb dX9_power_19 rfl (lv_at hl 1 rfl) ?_
        exact h_iret hQ hx hb hr hlocks rfl hK hI ⟨rfl, rfl, rfl, (iv_w (lo' := 1) (hi' := 100000000) i_v8 (by decide) (by decide))⟩ dX9_power_20
      · have i11 : iv p1 3 4 := iv_nle1 c9 i7 kc_2 (by decide)
        refine lv_iload_n hx hb dX9_power_9 rfl (lv_at hl 1 rfl) ?_
        refine lv_iload_n hx hb dX9_power_10 rfl (lv_at hl 2 rfl) ?_
        refine lv_imul hx hb dX9_power_11 ?_
        refine h_nm (lo := 1000000) (hi := 1000000) (iv_mul i_v8 h_p0 (by decide) (by decide) (by decide) (by decide) (by decide)) (fun v12 e_v12 i_v12 => ?_)
        refine lv_istore_n (lv' := [(2, .int v12), (3, .int (2 : Int32)), (0, .int p0), (1, .int p1)]) hx hb dX9_power_12 rfl hl (by decide) rfl (fun ls hl => ?_)
        refine lv_iinc (v := (3 : Int32)) (lv' := [(3, .int (3 : Int32)), (2, .int v12), (0, .int p0), (1, .int p1)]) hx hb dX9_power_13 hl (k := 1) rfl (by decide) (by decide) rfl (fun ls hl => ?_)
        refine lv_goto (tgt := 4) hx hb dX9_power_16 (by decide) ?_
        refine lv_iload_n hx hb dX9_power_4 rfl (lv_at hl 0 rfl) ?_
        refine lv_iload_n hx hb dX9_power_5 rfl (lv_at hl 3 rfl) ?_
        refine lv_icmp_ge (tgt := 19) hx hb dX9_power_6 (by decide) (fun c13 => ?_) (fun c13 => ?_)
        · have i14 : iv p1 3 3 := iv_le1 c13 i11 kc_3 (by decide)
          refine lv_iload_n hx hb dX9_power_19 rfl (lv_at hl 1 rfl) ?_
          exact h_iret hQ hx hb hr hlocks rfl hK hI ⟨rfl, rfl, rfl, (iv_w (lo' := 1) (hi' := 100000000) i_v12 (by decide) (by decide))⟩ dX9_power_20
        · have i15 : iv p1 4 4 := iv_nle1 c13 i11 kc_3 (by decide)
          refine lv_iload_n hx hb dX9_power_9 rfl (lv_at hl 1 rfl) ?_
          refine lv_iload_n hx hb dX9_power_10 rfl (lv_at hl 2 rfl) ?_
          refine lv_imul hx hb dX9_power_11 ?_
          refine h_nm (lo := 100000000) (hi := 100000000) (iv_mul i_v12 h_p0 (by decide) (by decide) (by decide) (by decide) (by decide)) (fun v16 e_v16 i_v16 => ?_)
          refine lv_istore_n (lv' := [(2, .int v16), (3, .int (3 : Int32)), (0, .int p0), (1, .int p1)]) hx hb dX9_power_12 rfl hl (by decide) rfl (fun ls hl => ?_)
          refine lv_iinc (v := (4 : Int32)) (lv' := [(3, .int (4 : Int32)), (2, .int v16), (0, .int p0), (1, .int p1)]) hx hb dX9_power_13 hl (k := 1) rfl (by decide) (by decide) rfl (fun ls hl => ?_)
          refine lv_goto (tgt := 4) hx hb dX9_power_16 (by decide) ?_
          refine lv_iload_n hx hb dX9_power_4 rfl (lv_at hl 0 rfl) ?_
          refine lv_iload_n hx hb dX9_power_5 rfl (lv_at hl 3 rfl) ?_
          refine lv_icmp_ge (tgt := 19) hx hb dX9_power_6 (by decide) (fun c17 => ?_) (fun c17 => ?_)
          · refine lv_iload_n hx hb dX9_power_19 rfl (lv_at hl 1 rfl) ?_
            exact h_iret hQ hx hb hr hlocks rfl hK hI ⟨rfl, rfl, rfl, (iv_w (lo' := 1) (hi' := 100000000) i_v16 (by decide) (by decide))⟩ dX9_power_20
          · exfalso; have h8 := i15; have h9 := kc_4; simp only [iv] at h8 h9; rw [Int32.le_iff_toInt_le] at c17; omega
abbrev e_h_heirOf_X9 : List (Nat × Nat) := []
set_option maxHeartbeats 4000000 in
set_option maxRecDepth 100000 in
theorem h_heirOf_X9 (l : Launch) (D : va_G) (g : Nat → ClassId) (σ : Nat → Option Nat) (Z : State → Heap → Prop) (hZ0 : hZ σ Z) (M : hM) (N : hN) (R : hR) (y : Nat) (g_y : σ y = some 9) (p1 : Int32) (h_p1 : iv p1 0 5) (p2 : Int32) (m0_HV : HV M R y) (hp1 : p1.toInt < (M (R y 11) (bk M y)).toInt) : Met l yX9_heirOf wsX9_heirOf ({ frames := 2, cells := 0, slots := 0, locals := 42 }) (va_Pc [.ref y, .int p1, .int p2] (hPre D g σ Z M N R)) (hQi D g σ e_h_heirOf_X9 M (fun (r : Int32) (M1 : hM) (N1 : hN) (R1 : hR) => M = M1 ∧ N = N1 ∧ R = R1 ∧ iv r (-1) 5 ∧ (r.toInt < p1.toInt))) 0 0 (hA σ) := by
  refine h_head (cc := cX9_heirOf) (maxL := 4) (ret := (some .int)) (by decide) rfl (Nat.le_of_ble_eq_true rfl) e_h_heirOf_X9 ?_
  intro p e s m below meth c ls Q ar hQ hx hb hr hlocks hml hown hts hK hE H locs hI hl
  have hown : s.vm.findClass RX9 = some m.cls := hown
  have hl : lv_has ls 4 [(0, .ref y), (1, .int p1), (2, .int p2)] := hl
  refine lv_aload_n hx hb dX9_heirOf_0 rfl (lv_at hl 0 rfl) ?_
  refine h_getr hx hb hts iX9_heirOf_X9 hown hK hI g_y (by decide) rfl rfl 19 (by decide) rfl 119 rfl (hts (.fieldLink RX9 45 "CatLeasesModel" "heir" "[I") (List.mem_of_getElem? (i := 1) rfl)) (fun _ h9 => h9) dX9_heirOf_1 (fun a1 e_a1 g_a1 => ?_)
  refine lv_bipush (v := 6) hx hb dX9_heirOf_4 (by decide) ?_
  refine lv_aload_n hx hb dX9_heirOf_6 rfl (lv_at hl 0 rfl) ?_
  refine h_geti (lo := 0) (hi := 1) hx hb hts iX9_heirOf_X9 hown hK hI g_y (by decide) rfl rfl 35 (by decide) rfl rfl (hts (.fieldLink RX9 268 "CatLeasesModel" "bank" "I") (List.mem_of_getElem? (i := 2) rfl)) (fun _ h9 => h9) dX9_heirOf_7 (fun v2 e_v2 i_v2 => ?_)
  refine lv_imul hx hb dX9_heirOf_10 ?_
  refine h_nm (lo := 0) (hi := 6) (iv_mul kc_6 i_v2 (by decide) (by decide) (by decide) (by decide) (by decide)) (fun v3 e_v3 i_v3 => ?_)
  refine lv_iload_n hx hb dX9_heirOf_11 rfl (lv_at hl 1 rfl) ?_
  refine lv_iadd hx hb dX9_heirOf_12 ?_
  refine h_nm (lo := 0) (hi := 11) (iv_add i_v3 h_p1 (by decide) (by decide) (by decide) (by decide)) (fun v4 e_v4 i_v4 => ?_)
  refine h_iald (j := v4.toNatClampNeg) (lo := (-1)) (hi := 5) hx hb hK hI g_a1 (by decide) rfl (iv_in (n := 12) i_v4 (by decide) (by decide)) rfl (hI.iv1 (n := 12) g_a1 rfl (in_lt (iv_in (n := 12) i_v4 (by decide) (by decide))) rfl) dX9_heirOf_13 (fun v5 e_v5 i_v5 => ?_)
  have lt_v5 : v5.toInt < p1.toInt := heir_lt m0_HV e_v2 i_v2 e_v3 e_v4 h_p1 hp1 (by rw [e_v5, e_a1])
  have J15 : ∀ (n : Nat) (v3_15 : Int32) (H : Heap) (locs : List Loc) (ls : Array Slot), kI D g σ e_h_heirOf_X9 M s.heap M N R H locs → lv_has ls 4 [(0, .ref y), (2, .int p2), (3, .int v3_15)] → iv v3_15 (-1) 5 → v3_15.toInt < p1.toInt → v3_15.toInt + 2 ≤ (n : Int) → W p l e (headSpec wsX9_heirOf ({ frames := 2, cells := 0, slots := 0, locals := 42 })).room s m ar below meth c H locs 0 0 Q (F0 m 15 ls []) := by
    intro n
    induction n with
    | zero => intro v3_15 H locs ls hI hl i_v3_15 hv_15 hn; exfalso; have hz := i_v3_15; simp only [iv] at hz; omega
    | succ n ih15 =>
      intro v3_15 H locs ls hI hl i_v3_15 hv_15 hn15
      refine lv_iload_n hx hb dX9_heirOf_15 rfl (lv_at hl 2 rfl) ?_
      refine lv_if_lt (tgt := 53) hx hb dX9_heirOf_16 (by decide) (fun c6 => ?_) (fun c6 => ?_)
      · have i7 : iv v3_15 (-1) (-1) := iv_lt1 c6 i_v3_15 kc_0 (by decide)
        refine lv_iload_n hx hb dX9_heirOf_53 rfl (lv_at hl 2 rfl) ?_
        exact h_iret hQ hx hb hr hlocks rfl hK hI ⟨rfl, rfl, rfl, (iv_w (lo' := (-1)) (hi' := 5) i7 (by decide) (by decide)), hv_15⟩ dX9_heirOf_54
      · have i8 : iv v3_15 0 5 := iv_nlt1 c6 i_v3_15 kc_0 (by decide)
        refine lv_aload_n hx hb dX9_heirOf_19 rfl (lv_at hl 0 rfl) ?_
        refine lv_iload_n hx hb dX9_heirOf_20 rfl (lv_at hl 2 rfl) ?_
        refine h_goi hI (by decide) (va_runV (As := [.int v3_15]) (rest := []) ⟨hx, hb, hml, hown, hts⟩ (h_lives_X9 l D g σ Z hZ0 M N R y g_y v3_15) (cwV 1 hts gX9_heirOf_X9_lives rfl rfl rfl (by decide +kernel) ⟨Nat.le_of_ble_eq_true rfl, Nat.le_of_ble_eq_true rfl⟩) (h_preV hZ0 hK hE hI g_y (by decide) rfl) rfl rfl hl.1 rfl (lv_room (Nat.le_of_ble_eq_true rfl)) dX9_heirOf_21 ⟨Nat.le_of_ble_eq_true rfl, Nat.le_of_ble_eq_true rfl⟩) (fun r9 M10 N11 R12 H locs q13 z_M10 hI => ?_)
        obtain ⟨rfl, rfl, rfl, i_r9⟩ := q13
        have J35 : ∀ (H : Heap) (locs : List Loc) (ls : Array Slot), kI D g σ e_h_heirOf_X9 M s.heap M N R H locs → lv_has ls 4 [(0, .ref y), (2, .int p2), (3, .int v3_15)] → W p l e (headSpec wsX9_heirOf ({ frames := 2, cells := 0, slots := 0, locals := 42 })).room s m ar below meth c H locs 0 0 Q (F0 m 35 ls []) := by
          intro H locs ls hI hl
          refine lv_aload_n hx hb dX9_heirOf_35 rfl (lv_at hl 0 rfl) ?_
          refine h_getr hx hb hts iX9_heirOf_X9 hown hK hI g_y (by decide) rfl rfl 19 (by decide) rfl 119 rfl (hts (.fieldLink RX9 45 "CatLeasesModel" "heir" "[I") (List.mem_of_getElem? (i := 1) rfl)) (fun _ h9 => h9) dX9_heirOf_36 (fun a14 e_a14 g_a14 => ?_)
          have q15 : a1 = a14 := (e_a1).trans e_a14.symm
          subst q15
          refine lv_bipush (v := 6) hx hb dX9_heirOf_39 (by decide) ?_
          refine lv_aload_n hx hb dX9_heirOf_41 rfl (lv_at hl 0 rfl) ?_
          refine h_geti (lo := 0) (hi := 1) hx hb hts iX9_heirOf_X9 hown hK hI g_y (by decide) rfl rfl 35 (by decide) rfl rfl (hts (.fieldLink RX9 268 "CatLeasesModel" "bank" "I") (List.mem_of_getElem? (i := 2) rfl)) (fun _ h9 => h9) dX9_heirOf_42 (fun v16 e_v16 i_v16 => ?_)
          have q17 : v2 = v16 := (e_v2).trans e_v16.symm
          subst q17
          refine lv_imul hx hb dX9_heirOf_45 ?_
          refine h_nm (lo := 0) (hi := 6) (iv_mul kc_6 i_v2 (by decide) (by decide) (by decide) (by decide) (by decide)) (fun v18 e_v18 i_v18 => ?_)
          refine lv_iload_n hx hb dX9_heirOf_46 rfl (lv_at hl 2 rfl) ?_
          refine lv_iadd hx hb dX9_heirOf_47 ?_
          refine h_nm (lo := 0) (hi := 11) (iv_add i_v18 i8 (by decide) (by decide) (by decide) (by decide)) (fun v19 e_v19 i_v19 => ?_)
          refine h_iald (j := v19.toNatClampNeg) (lo := (-1)) (hi := 5) hx hb hK hI g_a1 (by decide) rfl (iv_in (n := 12) i_v19 (by decide) (by decide)) rfl (hI.iv1 (n := 12) g_a1 rfl (in_lt (iv_in (n := 12) i_v19 (by decide) (by decide))) rfl) dX9_heirOf_48 (fun v20 e_v20 i_v20 => ?_)
          have lt_v20 : v20.toInt < v3_15.toInt := heir_lt m0_HV e_v2 i_v2 e_v18 e_v19 i8 (Int.lt_trans hv_15 hp1) (by rw [e_v20, e_a1])
          refine lv_istore_n (lv' := [(3, .int v20), (0, .ref y), (2, .int p2)]) hx hb dX9_heirOf_49 rfl hl (by decide) rfl (fun ls hl => ?_)
          refine lv_goto (tgt := 15) hx hb dX9_heirOf_50 (by decide) ?_
          exact ih15 v20 H locs ls hI (lv_sub hl [1, 2, 0] rfl) i_v20 (Int.lt_trans lt_v20 hv_15) (by have h9 := lt_v20; omega)
        refine lv_if_eq (tgt := 35) hx hb dX9_heirOf_24 (by decide) (fun c21 => ?_) (fun c21 => ?_)
        · have i22 : iv r9 0 0 := iv_eq1 c21 i_r9 kc_0
          exact J35 H locs ls hI hl
        · have i23 : iv r9 1 1 := iv_neL c21 i_r9 (by decide) (by decide)
          refine lv_iload_n hx hb dX9_heirOf_27 rfl (lv_at hl 1 rfl) ?_
          refine lv_iload_n hx hb dX9_heirOf_28 rfl (lv_at hl 2 rfl) ?_
          refine h_goi hI (by decide) (va_runS (As := [.int p2, .int v3_15]) (rest := []) ⟨hx, hb, hml, hown, hts⟩ (h_bit_X9 l D g σ Z hZ0 M N R p2 v3_15) (va_cwS 2 hts gX9_heirOf_X9_bit rfl rfl rfl (by decide +kernel) ⟨Nat.le_of_ble_eq_true rfl, Nat.le_of_ble_eq_true rfl⟩) (h_preS hZ0 hK hE hI) rfl rfl hl.1 rfl (lv_room (Nat.le_of_ble_eq_true rfl)) dX9_heirOf_29 ⟨Nat.le_of_ble_eq_true rfl, Nat.le_of_ble_eq_true rfl⟩) (fun r24 M25 N26 R27 H locs q28 z_M25 hI => ?_)
          obtain ⟨rfl, rfl, rfl, i_r24, z29⟩ := q28
          refine lv_if_eq (tgt := 53) hx hb dX9_heirOf_32 (by decide) (fun c30 => ?_) (fun c30 => ?_)
          · have i31 : iv r24 0 0 := iv_eq1 c30 i_r24 kc_0
            refine lv_iload_n hx hb dX9_heirOf_53 rfl (lv_at hl 2 rfl) ?_
            exact h_iret hQ hx hb hr hlocks rfl hK hI ⟨rfl, rfl, rfl, (iv_w (lo' := (-1)) (hi' := 5) i8 (by decide) (by decide)), hv_15⟩ dX9_heirOf_54
          · have i32 : iv r24 1 1 := iv_neL c30 i_r24 (by decide) (by decide)
            exact J35 H locs ls hI hl
  refine lv_istore_n (lv' := [(3, .int v5), (0, .ref y), (1, .int p1), (2, .int p2)]) hx hb dX9_heirOf_14 rfl hl (by decide) rfl (fun ls hl => ?_)
  exact J15 7 v5 H locs ls hI (lv_sub hl [1, 3, 0] rfl) i_v5 lt_v5 (by have h9 := i_v5; simp only [iv] at h9; omega)
abbrev e_h_keeperIf_X9 : List (Nat × Nat) := []
set_option maxHeartbeats 4000000 in
set_option maxRecDepth 100000 in
theorem h_keeperIf_X9 (l : Launch) (D : va_G) (g : Nat → ClassId) (σ : Nat → Option Nat) (Z : State → Heap → Prop) (hZ0 : hZ σ Z) (M : hM) (N : hN) (R : hR) (y : Nat) (g_y : σ y = some 9) (p1 : Int32) (h_p1 : iv p1 0 7) (p2 : Int32) (m0_KV : KV M R y) (m0_HV : HV M R y) : Met l yX9_keeperIf wsX9_keeperIf ({ frames := 3, cells := 0, slots := 0, locals := 65 }) (va_Pc [.ref y, .int p1, .int p2] (hPre D g σ Z M N R)) (hQi D g σ e_h_keeperIf_X9 M (fun (r : Int32) (M1 : hM) (N1 : hN) (R1 : hR) => M = M1 ∧ N = N1 ∧ R = R1 ∧ iv r (-1) 5 ∧ (r.toInt ≤ (M (R y 45) ((14 : Int32) + p1).toNatClampNeg).toInt))) 0 0 (hA σ) := by
  refine h_head (cc := cX9_keeperIf) (maxL := 4) (ret := (some .int)) (by decide) rfl (Nat.le_of_ble_eq_true rfl) e_h_keeperIf_X9 ?_
  intro p e s m below meth c ls Q ar hQ hx hb hr hlocks hml hown hts hK hE H locs hI hl
  have hown : s.vm.findClass RX9 = some m.cls := hown
  have hl : lv_has ls 4 [(0, .ref y), (1, .int p1), (2, .int p2)] := hl
  refine lv_aload_n hx hb dX9_keeperIf_0 rfl (lv_at hl 0 rfl) ?_
  refine lv_iload_n hx hb dX9_keeperIf_1 rfl (lv_at hl 1 rfl) ?_
  refine h_goi hI (by decide) (va_runV (As := [.int p1]) (rest := []) ⟨hx, hb, hml, hown, hts⟩ (h_keeperOf_X9 l D g σ Z hZ0 M N R y g_y p1 h_p1) (cwV 1 hts gX9_keeperIf_X9_keeperOf rfl rfl rfl (by decide +kernel) ⟨Nat.le_of_ble_eq_true rfl, Nat.le_of_ble_eq_true rfl⟩) (h_preV hZ0 hK hE hI g_y (by decide) rfl) rfl rfl hl.1 rfl (lv_room (Nat.le_of_ble_eq_true rfl)) dX9_keeperIf_2 ⟨Nat.le_of_ble_eq_true rfl, Nat.le_of_ble_eq_true rfl⟩) (fun r1 M2 N3 R4 H locs q5 z_M2 hI => ?_)
  obtain ⟨rfl, rfl, rfl, i_r1, z6⟩ := q5
  refine lv_istore_n (lv' := [(3, .int r1), (0, .ref y), (1, .int p1), (2, .int p2)]) hx hb dX9_keeperIf_5 rfl hl (by decide) rfl (fun ls hl => ?_)
  refine lv_iload_n hx hb dX9_keeperIf_6 rfl (lv_at hl 0 rfl) ?_
  refine lv_if_lt (tgt := 27) hx hb dX9_keeperIf_7 (by decide) (fun c7 => ?_) (fun c7 => ?_)
  · have i8 : iv r1 (-1) (-1) := iv_lt1 c7 i_r1 kc_0 (by decide)
    refine lv_iload_n hx hb dX9_keeperIf_27 rfl (lv_at hl 0 rfl) ?_
    exact h_iret hQ hx hb hr hlocks rfl hK hI ⟨rfl, rfl, rfl, (iv_w (lo' := (-1)) (hi' := 5) i8 (by decide) (by decide)), (Int.le_of_eq (congrArg Int32.toInt z6))⟩ dX9_keeperIf_28
  · have i9 : iv r1 0 5 := iv_nlt1 c7 i_r1 kc_0 (by decide)
    refine lv_iload_n hx hb dX9_keeperIf_10 rfl (lv_at hl 3 rfl) ?_
    refine lv_iload_n hx hb dX9_keeperIf_11 rfl (lv_at hl 0 rfl) ?_
    refine h_goi hI (by decide) (va_runS (As := [.int p2, .int r1]) (rest := []) ⟨hx, hb, hml, hown, hts⟩ (h_bit_X9 l D g σ Z hZ0 M N R p2 r1) (va_cwS 2 hts gX9_keeperIf_X9_bit rfl rfl rfl (by decide +kernel) ⟨Nat.le_of_ble_eq_true rfl, Nat.le_of_ble_eq_true rfl⟩) (h_preS hZ0 hK hE hI) rfl rfl hl.1 rfl (lv_room (Nat.le_of_ble_eq_true rfl)) dX9_keeperIf_12 ⟨Nat.le_of_ble_eq_true rfl, Nat.le_of_ble_eq_true rfl⟩) (fun r10 M11 N12 R13 H locs q14 z_M11 hI => ?_)
    obtain ⟨rfl, rfl, rfl, i_r10, z15⟩ := q14
    refine lv_if_eq (tgt := 27) hx hb dX9_keeperIf_15 (by decide) (fun c16 => ?_) (fun c16 => ?_)
    · have i17 : iv r10 0 0 := iv_eq1 c16 i_r10 kc_0
      refine lv_iload_n hx hb dX9_keeperIf_27 rfl (lv_at hl 0 rfl) ?_
      exact h_iret hQ hx hb hr hlocks rfl hK hI ⟨rfl, rfl, rfl, (iv_w (lo' := (-1)) (hi' := 5) i9 (by decide) (by decide)), (Int.le_of_eq (congrArg Int32.toInt z6))⟩ dX9_keeperIf_28
    · have i18 : iv r10 1 1 := iv_neL c16 i_r10 (by decide) (by decide)
      refine lv_aload_n hx hb dX9_keeperIf_18 rfl (lv_at hl 1 rfl) ?_
      refine lv_iload_n hx hb dX9_keeperIf_19 rfl (lv_at hl 0 rfl) ?_
      refine lv_iload_n hx hb dX9_keeperIf_20 rfl (lv_at hl 3 rfl) ?_
      refine h_goi hI (by decide) (va_runV (As := [.int r1, .int p2]) (rest := []) ⟨hx, hb, hml, hown, hts⟩ (h_heirOf_X9 l D g σ Z hZ0 M N R y g_y r1 i9 p2 m0_HV (by rw [z6]; exact KV_at m0_KV h_p1)) (cwV 2 hts gX9_keeperIf_X9_heirOf rfl rfl rfl (by decide +kernel) ⟨Nat.le_of_ble_eq_true rfl, Nat.le_of_ble_eq_true rfl⟩) (h_preV hZ0 hK hE hI g_y (by decide) rfl) rfl rfl hl.1 rfl (lv_room (Nat.le_of_ble_eq_true rfl)) dX9_keeperIf_21 ⟨Nat.le_of_ble_eq_true rfl, Nat.le_of_ble_eq_true rfl⟩) (fun r19 M20 N21 R22 H locs q23 z_M20 hI => ?_)
      obtain ⟨rfl, rfl, rfl, i_r19, z24⟩ := q23
      refine lv_goto (tgt := 28) hx hb dX9_keeperIf_24 (by decide) ?_
      exact h_iret hQ hx hb hr hlocks rfl hK hI ⟨rfl, rfl, rfl, i_r19, (by rw [← z6]; exact Int.le_of_lt z24)⟩ dX9_keeperIf_28
