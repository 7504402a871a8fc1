abbrev e_h_joinLetter_X5 : List (Nat × Nat) := []
set_option maxHeartbeats 4000000 in
set_option maxRecDepth 100000 in
theorem h_joinLetter_X5 (l : Launch) (D : va_G) (g : Nat → ClassId) (σ : Nat → Option Nat) (Z : State → Heap → Prop) (hZ0 : hZ σ Z) (M : hM) (N : hN) (R : hR) (p0 : Int64) (p2 : Int32) : Met l yX5_joinLetter wsX5_joinLetter ({ frames := 0, cells := 0, slots := 0, locals := 0 }) (va_Pc [.long p0, .int p2] (hPre D g σ Z M N R)) (hQl D g σ e_h_joinLetter_X5 M (fun (r : Int64) (M1 : hM) (N1 : hN) (R1 : hR) => M = M1 ∧ N = N1 ∧ R = R1)) 0 0 (hA σ) := by
  refine h_head (cc := cX5_joinLetter) (maxL := 3) (ret := (some .long)) (by decide) rfl (Nat.le_of_ble_eq_true rfl) e_h_joinLetter_X5 ?_
  intro p e s m below meth c ls Q ar hQ hx hb hr hlocks hml hown hts hK hE H locs hI hl
  have hown : s.vm.findClass RX5 = some m.cls := hown
  have hl : lv_has ls 3 [(0, .long p0), (2, .int p2)] := hl
  refine lv_lload_n hx hb dX5_joinLetter_0 rfl (lv_at hl 0 rfl) ?_
  refine lv_ldc2 (v := 32) hx hb hown (hts (.constantLong RX5 79 (32)) (List.mem_of_getElem? (i := 1) rfl)) dX5_joinLetter_1 ?_
  refine lv_lmul hx hb dX5_joinLetter_4 ?_
  refine h_nml (fun w1 e_w1 => ?_)
  refine lv_iload_n hx hb dX5_joinLetter_5 rfl (lv_at hl 1 rfl) ?_
  refine lv_bipush (v := 97) hx hb dX5_joinLetter_6 (by decide) ?_
  refine lv_isub hx hb dX5_joinLetter_8 ?_
  refine h_nm (lo := (-2147483648)) (hi := 2147483647) (iv_any _) (fun v2 e_v2 i_v2 => ?_)
  refine lv_iconst (v := 1) hx hb dX5_joinLetter_9 (by decide) ?_
  refine lv_iadd hx hb dX5_joinLetter_10 ?_
  refine h_nm (lo := (-2147483648)) (hi := 2147483647) (iv_any _) (fun v3 e_v3 i_v3 => ?_)
  obtain ⟨w4, e_w4⟩ : ∃ z : Int64, v3.toInt64 = z := ⟨_, rfl⟩
  refine lv_i2l (v := w4) hx hb dX5_joinLetter_11 e_w4 ?_
  refine lv_ladd hx hb dX5_joinLetter_12 ?_
  refine h_nml (fun w5 e_w5 => ?_)
  exact h_lret hQ hx hb hr hlocks hK hI ⟨rfl, rfl, rfl⟩ dX5_joinLetter_13
abbrev e_h_isBlank_X5 : List (Nat × Nat) := []
set_option maxHeartbeats 4000000 in
set_option maxRecDepth 100000 in
theorem h_isBlank_X5 (l : Launch) (D : va_G) (g : Nat → ClassId) (σ : Nat → Option Nat) (Z : State → Heap → Prop) (hZ0 : hZ σ Z) (M : hM) (N : hN) (R : hR) (p0 : Int32) : Met l yX5_isBlank wsX5_isBlank ({ frames := 0, cells := 0, slots := 0, locals := 0 }) (va_Pc [.int p0] (hPre D g σ Z M N R)) (hQi D g σ e_h_isBlank_X5 M (fun (r : Int32) (M1 : hM) (N1 : hN) (R1 : hR) => M = M1 ∧ N = N1 ∧ R = R1 ∧ iv r 0 1)) 0 0 (hA σ) := by
  refine h_head (cc := cX5_isBlank) (maxL := 1) (ret := (some .boolean)) (by decide) rfl (Nat.le_of_ble_eq_true rfl) e_h_isBlank_X5 ?_
  intro p e s m below meth c ls Q ar hQ hx hb hr hlocks hml hown hts hK hE H locs hI hl
  have hown : s.vm.findClass RX5 = some m.cls := hown
  have hl : lv_has ls 1 [(0, .int p0)] := hl
  refine lv_iload_n hx hb dX5_isBlank_0 rfl (lv_at hl 0 rfl) ?_
  refine lv_bipush (v := 32) hx hb dX5_isBlank_1 (by decide) ?_
  have J12 : ∀ (H : Heap) (locs : List Loc) (ls : Array Slot), kI D g σ e_h_isBlank_X5 M s.heap M N R H locs → lv_has ls 1 [] → W p l e (headSpec wsX5_isBlank ({ frames := 0, cells := 0, slots := 0, locals := 0 })).room s m ar below meth c H locs 0 0 Q (F0 m 12 ls []) := by
    intro H locs ls hI hl
    refine lv_iconst (v := 1) hx hb dX5_isBlank_12 (by decide) ?_
    refine lv_goto (tgt := 17) hx hb dX5_isBlank_13 (by decide) ?_
    exact h_iret hQ hx hb hr hlocks rfl hK hI ⟨rfl, rfl, rfl, (iv_w (lo' := 0) (hi' := 1) kc_1 (by decide) (by decide))⟩ dX5_isBlank_17
  refine lv_icmp_eq (tgt := 12) hx hb dX5_isBlank_3 (by decide) (fun c1 => ?_) (fun c1 => ?_)
  · have i2 : iv p0 32 32 := iv_eq1 c1 (iv_any p0) kc_32
    exact J12 H locs ls hI (lv_sub hl [] rfl)
  · refine lv_iload_n hx hb dX5_isBlank_6 rfl (lv_at hl 0 rfl) ?_
    refine lv_bipush (v := 10) hx hb dX5_isBlank_7 (by decide) ?_
    refine lv_icmp_ne (tgt := 16) hx hb dX5_isBlank_9 (by decide) (fun c3 => ?_) (fun c3 => ?_)
    · refine lv_iconst (v := 0) hx hb dX5_isBlank_16 (by decide) ?_
      exact h_iret hQ hx hb hr hlocks rfl hK hI ⟨rfl, rfl, rfl, (iv_w (lo' := 0) (hi' := 1) kc_0 (by decide) (by decide))⟩ dX5_isBlank_17
    · have i4 : iv p0 10 10 := iv_eq1 c3 (iv_any p0) kc_10
      exact J12 H locs ls hI (lv_sub hl [] rfl)
abbrev e_h_isLetter_X5 : List (Nat × Nat) := []
set_option maxHeartbeats 4000000 in
set_option maxRecDepth 100000 in
theorem h_isLetter_X5 (l : Launch) (D : va_G) (g : Nat → ClassId) (σ : Nat → Option Nat) (Z : State → Heap → Prop) (hZ0 : hZ σ Z) (M : hM) (N : hN) (R : hR) (p0 : Int32) : Met l yX5_isLetter wsX5_isLetter ({ frames := 0, cells := 0, slots := 0, locals := 0 }) (va_Pc [.int p0] (hPre D g σ Z M N R)) (hQi D g σ e_h_isLetter_X5 M (fun (r : Int32) (M1 : hM) (N1 : hN) (R1 : hR) => M = M1 ∧ N = N1 ∧ R = R1 ∧ iv r 0 1 ∧ (¬ r = 0 → iv p0 97 122))) 0 0 (hA σ) := by
  refine h_head (cc := cX5_isLetter) (maxL := 1) (ret := (some .boolean)) (by decide) rfl (Nat.le_of_ble_eq_true rfl) e_h_isLetter_X5 ?_
  intro p e s m below meth c ls Q ar hQ hx hb hr hlocks hml hown hts hK hE H locs hI hl
  have hown : s.vm.findClass RX5 = some m.cls := hown
  have hl : lv_has ls 1 [(0, .int p0)] := hl
  refine lv_iload_n hx hb dX5_isLetter_0 rfl (lv_at hl 0 rfl) ?_
  refine lv_bipush (v := 97) hx hb dX5_isLetter_1 (by decide) ?_
  refine lv_icmp_lt (tgt := 16) hx hb dX5_isLetter_3 (by decide) (fun c1 => ?_) (fun c1 => ?_)
  · have i2 : iv p0 (-2147483648) 96 := iv_lt1 c1 (iv_any p0) kc_97 (by decide)
    refine lv_iconst (v := 0) hx hb dX5_isLetter_16 (by decide) ?_
    exact h_iret hQ hx hb hr hlocks rfl hK hI ⟨rfl, rfl, rfl, (iv_w (lo' := 0) (hi' := 1) kc_0 (by decide) (by decide)), (fun h9 => absurd rfl h9)⟩ dX5_isLetter_17
  · have i3 : iv p0 97 2147483647 := iv_nlt1 c1 (iv_any p0) kc_97 (by decide)
    refine lv_iload_n hx hb dX5_isLetter_6 rfl (lv_at hl 0 rfl) ?_
    refine lv_bipush (v := 122) hx hb dX5_isLetter_7 (by decide) ?_
    refine lv_icmp_gt (tgt := 16) hx hb dX5_isLetter_9 (by decide) (fun c4 => ?_) (fun c4 => ?_)
    · have i5 : iv p0 123 2147483647 := iv_lt2 c4 kc_122 i3 (by decide)
      refine lv_iconst (v := 0) hx hb dX5_isLetter_16 (by decide) ?_
      exact h_iret hQ hx hb hr hlocks rfl hK hI ⟨rfl, rfl, rfl, (iv_w (lo' := 0) (hi' := 1) kc_0 (by decide) (by decide)), (fun h9 => absurd rfl h9)⟩ dX5_isLetter_17
    · have i6 : iv p0 97 122 := iv_nlt2 c4 kc_122 i3 (by decide)
      refine lv_iconst (v := 1) hx hb dX5_isLetter_12 (by decide) ?_
      refine lv_goto (tgt := 17) hx hb dX5_isLetter_13 (by decide) ?_
      exact h_iret hQ hx hb hr hlocks rfl hK hI ⟨rfl, rfl, rfl, (iv_w (lo' := 0) (hi' := 1) kc_1 (by decide) (by decide)), (fun _ => i6)⟩ dX5_isLetter_17
abbrev e_h_isDigit_X5 : List (Nat × Nat) := []
set_option maxHeartbeats 4000000 in
set_option maxRecDepth 100000 in
theorem h_isDigit_X5 (l : Launch) (D : va_G) (g : Nat → ClassId) (σ : Nat → Option Nat) (Z : State → Heap → Prop) (hZ0 : hZ σ Z) (M : hM) (N : hN) (R : hR) (p0 : Int32) : Met l yX5_isDigit wsX5_isDigit ({ frames := 0, cells := 0, slots := 0, locals := 0 }) (va_Pc [.int p0] (hPre D g σ Z M N R)) (hQi D g σ e_h_isDigit_X5 M (fun (r : Int32) (M1 : hM) (N1 : hN) (R1 : hR) => M = M1 ∧ N = N1 ∧ R = R1 ∧ iv r 0 1 ∧ (¬ r = 0 → iv p0 48 57))) 0 0 (hA σ) := by
  refine h_head (cc := cX5_isDigit) (maxL := 1) (ret := (some .boolean)) (by decide) rfl (Nat.le_of_ble_eq_true rfl) e_h_isDigit_X5 ?_
  intro p e s m below meth c ls Q ar hQ hx hb hr hlocks hml hown hts hK hE H locs hI hl
  have hown : s.vm.findClass RX5 = some m.cls := hown
  have hl : lv_has ls 1 [(0, .int p0)] := hl
  refine lv_iload_n hx hb dX5_isDigit_0 rfl (lv_at hl 0 rfl) ?_
  refine lv_bipush (v := 48) hx hb dX5_isDigit_1 (by decide) ?_
  refine lv_icmp_lt (tgt := 16) hx hb dX5_isDigit_3 (by decide) (fun c1 => ?_) (fun c1 => ?_)
  · have i2 : iv p0 (-2147483648) 47 := iv_lt1 c1 (iv_any p0) kc_48 (by decide)
    refine lv_iconst (v := 0) hx hb dX5_isDigit_16 (by decide) ?_
    exact h_iret hQ hx hb hr hlocks rfl hK hI ⟨rfl, rfl, rfl, (iv_w (lo' := 0) (hi' := 1) kc_0 (by decide) (by decide)), (fun h9 => absurd rfl h9)⟩ dX5_isDigit_17
  · have i3 : iv p0 48 2147483647 := iv_nlt1 c1 (iv_any p0) kc_48 (by decide)
    refine lv_iload_n hx hb dX5_isDigit_6 rfl (lv_at hl 0 rfl) ?_
    refine lv_bipush (v := 57) hx hb dX5_isDigit_7 (by decide) ?_
    refine lv_icmp_gt (tgt := 16) hx hb dX5_isDigit_9 (by decide) (fun c4 => ?_) (fun c4 => ?_)
    · have i5 : iv p0 58 2147483647 := iv_lt2 c4 kc_57 i3 (by decide)
      refine lv_iconst (v := 0) hx hb dX5_isDigit_16 (by decide) ?_
      exact h_iret hQ hx hb hr hlocks rfl hK hI ⟨rfl, rfl, rfl, (iv_w (lo' := 0) (hi' := 1) kc_0 (by decide) (by decide)), (fun h9 => absurd rfl h9)⟩ dX5_isDigit_17
    · have i6 : iv p0 48 57 := iv_nlt2 c4 kc_57 i3 (by decide)
      refine lv_iconst (v := 1) hx hb dX5_isDigit_12 (by decide) ?_
      refine lv_goto (tgt := 17) hx hb dX5_isDigit_13 (by decide) ?_
      exact h_iret hQ hx hb hr hlocks rfl hK hI ⟨rfl, rfl, rfl, (iv_w (lo' := 0) (hi' := 1) kc_1 (by decide) (by decide)), (fun _ => i6)⟩ dX5_isDigit_17
abbrev e_h_relation_X5 : List (Nat × Nat) := []
set_option maxHeartbeats 4000000 in
set_option maxRecDepth 100000 in
theorem h_relation_X5 (l : Launch) (D : va_G) (g : Nat → ClassId) (σ : Nat → Option Nat) (Z : State → Heap → Prop) (hZ0 : hZ σ Z) (M : hM) (N : hN) (R : hR) (p0 : Int32) : Met l yX5_relation wsX5_relation ({ frames := 0, cells := 0, slots := 0, locals := 0 }) (va_Pc [.int p0] (hPre D g σ Z M N R)) (hQi D g σ e_h_relation_X5 M (fun (r : Int32) (M1 : hM) (N1 : hN) (R1 : hR) => M = M1 ∧ N = N1 ∧ R = R1 ∧ iv r (-25) 0)) 0 0 (hA σ) := by
  refine h_head (cc := cX5_relation) (maxL := 1) (ret := (some .int)) (by decide) rfl (Nat.le_of_ble_eq_true rfl) e_h_relation_X5 ?_
  intro p e s m below meth c ls Q ar hQ hx hb hr hlocks hml hown hts hK hE H locs hI hl
  have hown : s.vm.findClass RX5 = some m.cls := hown
  have hl : lv_has ls 1 [(0, .int p0)] := hl
  refine lv_iload_n hx hb dX5_relation_0 rfl (lv_at hl 0 rfl) ?_
  by_cases c1 : p0 = 60
  · refine lv_tableIn (tgt := 28) hx hb dX5_relation_1 (by rw [c1]; decide) (by rw [c1]; decide) (by rw [c1] <;> rfl) (by decide) ?_
    have i2 : iv p0 60 60 := iv_eq1 c1 (iv_any p0) kc_60
    refine lv_bipush (v := (-23)) hx hb dX5_relation_28 (by decide) ?_
    exact h_iret hQ hx hb hr hlocks rfl hK hI ⟨rfl, rfl, rfl, (iv_w (lo' := (-25)) (hi' := 0) kc_m23 (by decide) (by decide))⟩ dX5_relation_30
  by_cases c3 : p0 = 61
  · refine lv_tableIn (tgt := 34) hx hb dX5_relation_1 (by rw [c3]; decide) (by rw [c3]; decide) (by rw [c3] <;> rfl) (by decide) ?_
    have i4 : iv p0 61 61 := iv_eq1 c3 (iv_any p0) kc_61
    refine lv_bipush (v := (-25)) hx hb dX5_relation_34 (by decide) ?_
    exact h_iret hQ hx hb hr hlocks rfl hK hI ⟨rfl, rfl, rfl, (iv_w (lo' := (-25)) (hi' := 0) kc_m25 (by decide) (by decide))⟩ dX5_relation_36
  by_cases c5 : p0 = 62
  · refine lv_tableIn (tgt := 31) hx hb dX5_relation_1 (by rw [c5]; decide) (by rw [c5]; decide) (by rw [c5] <;> rfl) (by decide) ?_
    have i6 : iv p0 62 62 := iv_eq1 c5 (iv_any p0) kc_62
    refine lv_bipush (v := (-24)) hx hb dX5_relation_31 (by decide) ?_
    exact h_iret hQ hx hb hr hlocks rfl hK hI ⟨rfl, rfl, rfl, (iv_w (lo' := (-25)) (hi' := 0) kc_m24 (by decide) (by decide))⟩ dX5_relation_33
  refine lv_tableOut (tgt := 37) hx hb dX5_relation_1 (by have k60 : (60 : Int32).toInt = 60 := (by decide); have zc1 : ¬ p0.toInt = 60 := fun h9 => c1 (Int32.toInt_inj.mp (h9.trans k60.symm)); have k61 : (61 : Int32).toInt = 61 := (by decide); have zc3 : ¬ p0.toInt = 61 := fun h9 => c3 (Int32.toInt_inj.mp (h9.trans k61.symm)); have k62 : (62 : Int32).toInt = 62 := (by decide); have zc5 : ¬ p0.toInt = 62 := fun h9 => c5 (Int32.toInt_inj.mp (h9.trans k62.symm)); have h8 := (iv_any p0); simp only [iv] at h8; omega) (by decide) ?_
  refine lv_iconst (v := 0) hx hb dX5_relation_37 (by decide) ?_
  exact h_iret hQ hx hb hr hlocks rfl hK hI ⟨rfl, rfl, rfl, (iv_w (lo' := (-25)) (hi' := 0) kc_0 (by decide) (by decide))⟩ dX5_relation_38
abbrev e_h_multiplying_X5 : List (Nat × Nat) := []
set_option maxHeartbeats 4000000 in
set_option maxRecDepth 100000 in
theorem h_multiplying_X5 (l : Launch) (D : va_G) (g : Nat → ClassId) (σ : Nat → Option Nat) (Z : State → Heap → Prop) (hZ0 : hZ σ Z) (M : hM) (N : hN) (R : hR) (p0 : Int32) : Met l yX5_multiplying wsX5_multiplying ({ frames := 0, cells := 0, slots := 0, locals := 0 }) (va_Pc [.int p0] (hPre D g σ Z M N R)) (hQi D g σ e_h_multiplying_X5 M (fun (r : Int32) (M1 : hM) (N1 : hN) (R1 : hR) => M = M1 ∧ N = N1 ∧ R = R1 ∧ iv r (-30) 0)) 0 0 (hA σ) := by
  refine h_head (cc := cX5_multiplying) (maxL := 1) (ret := (some .int)) (by decide) rfl (Nat.le_of_ble_eq_true rfl) e_h_multiplying_X5 ?_
  intro p e s m below meth c ls Q ar hQ hx hb hr hlocks hml hown hts hK hE H locs hI hl
  have hown : s.vm.findClass RX5 = some m.cls := hown
  have hl : lv_has ls 1 [(0, .int p0)] := hl
  refine lv_iload_n hx hb dX5_multiplying_0 rfl (lv_at hl 0 rfl) ?_
  by_cases c1 : p0 = 37
  · refine lv_lookup (off := 41) (tgt := 42) hx hb dX5_multiplying_1 (by decide) (by rw [c1] <;> rfl) (by decide) ?_
    have i2 : iv p0 37 37 := iv_eq1 c1 (iv_any p0) kc_37
    refine lv_bipush (v := (-30)) hx hb dX5_multiplying_42 (by decide) ?_
    exact h_iret hQ hx hb hr hlocks rfl hK hI ⟨rfl, rfl, rfl, (iv_w (lo' := (-30)) (hi' := 0) kc_m30 (by decide) (by decide))⟩ dX5_multiplying_44
  by_cases c3 : p0 = 42
  · refine lv_lookup (off := 35) (tgt := 36) hx hb dX5_multiplying_1 (by decide) (by rw [c3] <;> rfl) (by decide) ?_
    have i4 : iv p0 42 42 := iv_eq1 c3 (iv_any p0) kc_42
    refine lv_bipush (v := (-28)) hx hb dX5_multiplying_36 (by decide) ?_
    exact h_iret hQ hx hb hr hlocks rfl hK hI ⟨rfl, rfl, rfl, (iv_w (lo' := (-30)) (hi' := 0) kc_m28 (by decide) (by decide))⟩ dX5_multiplying_38
  by_cases c5 : p0 = 47
  · refine lv_lookup (off := 38) (tgt := 39) hx hb dX5_multiplying_1 (by decide) (by rw [c5] <;> rfl) (by decide) ?_
    have i6 : iv p0 47 47 := iv_eq1 c5 (iv_any p0) kc_47
    refine lv_bipush (v := (-29)) hx hb dX5_multiplying_39 (by decide) ?_
    exact h_iret hQ hx hb hr hlocks rfl hK hI ⟨rfl, rfl, rfl, (iv_w (lo' := (-30)) (hi' := 0) kc_m29 (by decide) (by decide))⟩ dX5_multiplying_41
  refine lv_lookup (off := 44) (tgt := 45) hx hb dX5_multiplying_1 (by decide) ((lv_osw c1 (by decide)).trans ((lv_osw c3 (by decide)).trans ((lv_osw c5 (by decide)).trans rfl))) (by decide) ?_
  refine lv_iconst (v := 0) hx hb dX5_multiplying_45 (by decide) ?_
  exact h_iret hQ hx hb hr hlocks rfl hK hI ⟨rfl, rfl, rfl, (iv_w (lo' := (-30)) (hi' := 0) kc_0 (by decide) (by decide))⟩ dX5_multiplying_46
abbrev e_h_termOf_X5 : List (Nat × Nat) := []
set_option maxHeartbeats 4000000 in
set_option maxRecDepth 100000 in
theorem h_termOf_X5 (l : Launch) (D : va_G) (g : Nat → ClassId) (σ : Nat → Option Nat) (Z : State → Heap → Prop) (hZ0 : hZ σ Z) (M : hM) (N : hN) (R : hR) (p0 : Int32) : Met l yX5_termOf wsX5_termOf ({ frames := 0, cells := 0, slots := 0, locals := 0 }) (va_Pc [.int p0] (hPre D g σ Z M N R)) (hQi D g σ e_h_termOf_X5 M (fun (r : Int32) (M1 : hM) (N1 : hN) (R1 : hR) => M = M1 ∧ N = N1 ∧ R = R1 ∧ iv r (-1) 6)) 0 0 (hA σ) := by
  refine h_head (cc := cX5_termOf) (maxL := 1) (ret := (some .int)) (by decide) rfl (Nat.le_of_ble_eq_true rfl) e_h_termOf_X5 ?_
  intro p e s m below meth c ls Q ar hQ hx hb hr hlocks hml hown hts hK hE H locs hI hl
  have hown : s.vm.findClass RX5 = some m.cls := hown
  have hl : lv_has ls 1 [(0, .int p0)] := hl
  refine lv_iload_n hx hb dX5_termOf_0 rfl (lv_at hl 0 rfl) ?_
  by_cases c1 : p0 = 6
  · refine lv_tableIn (tgt := 58) hx hb dX5_termOf_1 (by rw [c1]; decide) (by rw [c1]; decide) (by rw [c1] <;> rfl) (by decide) ?_
    have i2 : iv p0 6 6 := iv_eq1 c1 (iv_any p0) kc_6
    refine lv_iconst (v := 1) hx hb dX5_termOf_58 (by decide) ?_
    exact h_iret hQ hx hb hr hlocks rfl hK hI ⟨rfl, rfl, rfl, (iv_w (lo' := (-1)) (hi' := 6) kc_1 (by decide) (by decide))⟩ dX5_termOf_59
  by_cases c3 : p0 = 7
  · refine lv_tableIn (tgt := 71) hx hb dX5_termOf_1 (by rw [c3]; decide) (by rw [c3]; decide) (by rw [c3] <;> rfl) (by decide) ?_
    have i4 : iv p0 7 7 := iv_eq1 c3 (iv_any p0) kc_7
    refine lv_iconst (v := (-1)) hx hb dX5_termOf_71 (by decide) ?_
    exact h_iret hQ hx hb hr hlocks rfl hK hI ⟨rfl, rfl, rfl, (iv_w (lo' := (-1)) (hi' := 6) kc_m1 (by decide) (by decide))⟩ dX5_termOf_72
  by_cases c5 : p0 = 8
  · refine lv_tableIn (tgt := 71) hx hb dX5_termOf_1 (by rw [c5]; decide) (by rw [c5]; decide) (by rw [c5] <;> rfl) (by decide) ?_
    have i6 : iv p0 8 8 := iv_eq1 c5 (iv_any p0) kc_8
    refine lv_iconst (v := (-1)) hx hb dX5_termOf_71 (by decide) ?_
    exact h_iret hQ hx hb hr hlocks rfl hK hI ⟨rfl, rfl, rfl, (iv_w (lo' := (-1)) (hi' := 6) kc_m1 (by decide) (by decide))⟩ dX5_termOf_72
  by_cases c7 : p0 = 9
  · refine lv_tableIn (tgt := 71) hx hb dX5_termOf_1 (by rw [c7]; decide) (by rw [c7]; decide) (by rw [c7] <;> rfl) (by decide) ?_
    have i8 : iv p0 9 9 := iv_eq1 c7 (iv_any p0) kc_9
    refine lv_iconst (v := (-1)) hx hb dX5_termOf_71 (by decide) ?_
    exact h_iret hQ hx hb hr hlocks rfl hK hI ⟨rfl, rfl, rfl, (iv_w (lo' := (-1)) (hi' := 6) kc_m1 (by decide) (by decide))⟩ dX5_termOf_72
  by_cases c9 : p0 = 10
  · refine lv_tableIn (tgt := 56) hx hb dX5_termOf_1 (by rw [c9]; decide) (by rw [c9]; decide) (by rw [c9] <;> rfl) (by decide) ?_
    have i10 : iv p0 10 10 := iv_eq1 c9 (iv_any p0) kc_10
    refine lv_iconst (v := 0) hx hb dX5_termOf_56 (by decide) ?_
    exact h_iret hQ hx hb hr hlocks rfl hK hI ⟨rfl, rfl, rfl, (iv_w (lo' := (-1)) (hi' := 6) kc_0 (by decide) (by decide))⟩ dX5_termOf_57
  by_cases c11 : p0 = 11
  · refine lv_tableIn (tgt := 60) hx hb dX5_termOf_1 (by rw [c11]; decide) (by rw [c11]; decide) (by rw [c11] <;> rfl) (by decide) ?_
    have i12 : iv p0 11 11 := iv_eq1 c11 (iv_any p0) kc_11
    refine lv_iconst (v := 2) hx hb dX5_termOf_60 (by decide) ?_
    exact h_iret hQ hx hb hr hlocks rfl hK hI ⟨rfl, rfl, rfl, (iv_w (lo' := (-1)) (hi' := 6) kc_2 (by decide) (by decide))⟩ dX5_termOf_61
  by_cases c13 : p0 = 12
  · refine lv_tableIn (tgt := 62) hx hb dX5_termOf_1 (by rw [c13]; decide) (by rw [c13]; decide) (by rw [c13] <;> rfl) (by decide) ?_
    have i14 : iv p0 12 12 := iv_eq1 c13 (iv_any p0) kc_12
    refine lv_iconst (v := 3) hx hb dX5_termOf_62 (by decide) ?_
    exact h_iret hQ hx hb hr hlocks rfl hK hI ⟨rfl, rfl, rfl, (iv_w (lo' := (-1)) (hi' := 6) kc_3 (by decide) (by decide))⟩ dX5_termOf_63
  by_cases c15 : p0 = 13
  · refine lv_tableIn (tgt := 64) hx hb dX5_termOf_1 (by rw [c15]; decide) (by rw [c15]; decide) (by rw [c15] <;> rfl) (by decide) ?_
    have i16 : iv p0 13 13 := iv_eq1 c15 (iv_any p0) kc_13
    refine lv_iconst (v := 4) hx hb dX5_termOf_64 (by decide) ?_
    exact h_iret hQ hx hb hr hlocks rfl hK hI ⟨rfl, rfl, rfl, (iv_w (lo' := (-1)) (hi' := 6) kc_4 (by decide) (by decide))⟩ dX5_termOf_65
  by_cases c17 : p0 = 14
  · refine lv_tableIn (tgt := 66) hx hb dX5_termOf_1 (by rw [c17]; decide) (by rw [c17]; decide) (by rw [c17] <;> rfl) (by decide) ?_
    have i18 : iv p0 14 14 := iv_eq1 c17 (iv_any p0) kc_14
    refine lv_iconst (v := 5) hx hb dX5_termOf_66 (by decide) ?_
    exact h_iret hQ hx hb hr hlocks rfl hK hI ⟨rfl, rfl, rfl, (iv_w (lo' := (-1)) (hi' := 6) kc_5 (by decide) (by decide))⟩ dX5_termOf_67
  by_cases c19 : p0 = 15
  · refine lv_tableIn (tgt := 68) hx hb dX5_termOf_1 (by rw [c19]; decide) (by rw [c19]; decide) (by rw [c19] <;> rfl) (by decide) ?_
    have i20 : iv p0 15 15 := iv_eq1 c19 (iv_any p0) kc_15
    refine lv_bipush (v := 6) hx hb dX5_termOf_68 (by decide) ?_
    exact h_iret hQ hx hb hr hlocks rfl hK hI ⟨rfl, rfl, rfl, (iv_w (lo' := (-1)) (hi' := 6) kc_6 (by decide) (by decide))⟩ dX5_termOf_70
  refine lv_tableOut (tgt := 71) hx hb dX5_termOf_1 (by have k6 : (6 : Int32).toInt = 6 := (by decide); have zc1 : ¬ p0.toInt = 6 := fun h9 => c1 (Int32.toInt_inj.mp (h9.trans k6.symm)); have k7 : (7 : Int32).toInt = 7 := (by decide); have zc3 : ¬ p0.toInt = 7 := fun h9 => c3 (Int32.toInt_inj.mp (h9.trans k7.symm)); have k8 : (8 : Int32).toInt = 8 := (by decide); have zc5 : ¬ p0.toInt = 8 := fun h9 => c5 (Int32.toInt_inj.mp (h9.trans k8.symm)); have k9 : (9 : Int32).toInt = 9 := (by decide); have zc7 : ¬ p0.toInt = 9 := fun h9 => c7 (Int32.toInt_inj.mp (h9.trans k9.symm)); have k10 : (10 : Int32).toInt = 10 := (by decide); have zc9 : ¬ p0.toInt = 10 := fun h9 => c9 (Int32.toInt_inj.mp (h9.trans k10.symm)); have k11 : (11 : Int32).toInt = 11 := (by decide); have zc11 : ¬ p0.toInt = 11 := fun h9 => c11 (Int32.toInt_inj.mp (h9.trans k11.symm)); have k12 : (12 : Int32).toInt = 12 := (by decide); have zc13 : ¬ p0.toInt = 12 := fun h9 => c13 (Int32.toInt_inj.mp (h9.trans k12.symm)); have k13 : (13 : Int32).toInt = 13 := (by decide); have zc15 : ¬ p0.toInt = 13 := fun h9 => c15 (Int32.toInt_inj.mp (h9.trans k13.symm)); have k14 : (14 : Int32).toInt = 14 := (by decide); have zc17 : ¬ p0.toInt = 14 := fun h9 => c17 (Int32.toInt_inj.mp (h9.trans k14.symm)); have k15 : (15 : Int32).toInt = 15 := (by decide); have zc19 : ¬ p0.toInt = 15 := fun h9 => c19 (Int32.toInt_inj.mp (h9.trans k15.symm)); have h8 := (iv_any p0); simp only [iv] at h8; omega) (by decide) ?_
  refine lv_iconst (v := (-1)) hx hb dX5_termOf_71 (by decide) ?_
  exact h_iret hQ hx hb hr hlocks rfl hK hI ⟨rfl, rfl, rfl, (iv_w (lo' := (-1)) (hi' := 6) kc_m1 (by decide) (by decide))⟩ dX5_termOf_72
abbrev e_h_byteAt_X5 : List (Nat × Nat) := []
set_option maxHeartbeats 4000000 in
set_option maxRecDepth 100000 in
theorem h_byteAt_X5 (l : Launch) (D : va_G) (g : Nat → ClassId) (σ : Nat → Option Nat) (Z : State → Heap → Prop) (hZ0 : hZ σ Z) (M : hM) (N : hN) (R : hR) (a : Nat) (g_a : σ a = some 5) (p1 : Int32) : Met l yX5_byteAt wsX5_byteAt ({ frames := 0, cells := 0, slots := 0, locals := 0 }) (va_Pc [.ref a, .int p1] (hPre D g σ Z M N R)) (hQi D g σ e_h_byteAt_X5 M (fun (r : Int32) (M1 : hM) (N1 : hN) (R1 : hR) => M = M1 ∧ N = N1 ∧ R = R1 ∧ iv r (-1) 255)) 0 0 (hA σ) := by
  refine h_head (cc := cX5_byteAt) (maxL := 2) (ret := (some .int)) (by decide) rfl (Nat.le_of_ble_eq_true rfl) e_h_byteAt_X5 ?_
  intro p e s m below meth c ls Q ar hQ hx hb hr hlocks hml hown hts hK hE H locs hI hl
  have hown : s.vm.findClass RX5 = some m.cls := hown
  have hl : lv_has ls 2 [(0, .ref a), (1, .int p1)] := hl
  refine lv_iload_n hx hb dX5_byteAt_0 rfl (lv_at hl 1 rfl) ?_
  refine lv_if_lt (tgt := 34) hx hb dX5_byteAt_1 (by decide) (fun c1 => ?_) (fun c1 => ?_)
  · have i2 : iv p1 (-2147483648) (-1) := iv_lt1 c1 (iv_any p1) kc_0 (by decide)
    refine lv_iconst (v := (-1)) hx hb dX5_byteAt_34 (by decide) ?_
    exact h_iret hQ hx hb hr hlocks rfl hK hI ⟨rfl, rfl, rfl, (iv_w (lo' := (-1)) (hi' := 255) kc_m1 (by decide) (by decide))⟩ dX5_byteAt_35
  · have i3 : iv p1 0 2147483647 := iv_nlt1 c1 (iv_any p1) kc_0 (by decide)
    refine lv_iload_n hx hb dX5_byteAt_4 rfl (lv_at hl 1 rfl) ?_
    refine lv_aload_n hx hb dX5_byteAt_5 rfl (lv_at hl 0 rfl) ?_
    refine h_geti (lo := (-2147483648)) (hi := 1600) hx hb hts iX5_byteAt_X5 hown hK hI g_a (by decide) rfl rfl 8 (by decide) rfl rfl (hts (.fieldLink RX5 42 "CatLeases$Reader" "length" "I") (List.mem_of_getElem? (i := 1) rfl)) (fun _ h9 => h9) dX5_byteAt_6 (fun v4 e_v4 i_v4 => ?_)
    refine lv_icmp_ge (tgt := 34) hx hb dX5_byteAt_9 (by decide) (fun c5 => ?_) (fun c5 => ?_)
    · refine lv_iconst (v := (-1)) hx hb dX5_byteAt_34 (by decide) ?_
      exact h_iret hQ hx hb hr hlocks rfl hK hI ⟨rfl, rfl, rfl, (iv_w (lo' := (-1)) (hi' := 255) kc_m1 (by decide) (by decide))⟩ dX5_byteAt_35
    · have i6 : iv v4 1 1600 := iv_nle1 c5 i_v4 i3 (by decide)
      have i7 : iv p1 0 1599 := iv_nle2 c5 i_v4 i3 (by decide)
      refine lv_iload_n hx hb dX5_byteAt_12 rfl (lv_at hl 1 rfl) ?_
      refine lv_aload_n hx hb dX5_byteAt_13 rfl (lv_at hl 0 rfl) ?_
      refine h_getr2 hx hb hts iX5_byteAt_X5 hown hK hI g_a (by decide) rfl rfl 7 (by decide) rfl 10 11 rfl (hts (.fieldLink RX5 38 "CatLeases$Reader" "text" "[B") (List.mem_of_getElem? (i := 2) rfl)) (fun _ h9 => h9) dX5_byteAt_14 (fun a8 e_a8 g_a8 => ?_)
      rcases g_a8 with g_a8 | g_a8
      · refine h_alen (v := 1600) hx hb hK hI g_a8 (by decide) rfl (by decide) (by decide) dX5_byteAt_17 ?_
        refine lv_icmp_ge (tgt := 34) hx hb dX5_byteAt_18 (by decide) (fun c9 => ?_) (fun c9 => ?_)
        · exfalso; have h8 := kc_1600; have h9 := i7; simp only [iv] at h8 h9; rw [Int32.le_iff_toInt_le] at c9; omega
        · refine lv_aload_n hx hb dX5_byteAt_21 rfl (lv_at hl 0 rfl) ?_
          refine h_getr2 hx hb hts iX5_byteAt_X5 hown hK hI g_a (by decide) rfl rfl 7 (by decide) rfl 10 11 rfl (hts (.fieldLink RX5 38 "CatLeases$Reader" "text" "[B") (List.mem_of_getElem? (i := 2) rfl)) (fun _ h9 => h9) dX5_byteAt_22 (fun a10 e_a10 g_a10 => ?_)
          have q11 : a8 = a10 := (e_a8).trans e_a10.symm
          subst q11
          refine lv_iload_n hx hb dX5_byteAt_25 rfl (lv_at hl 1 rfl) ?_
          refine h_bald (j := p1.toNatClampNeg) (lo := (-2147483648)) (hi := 2147483647) hx hb hK hI g_a8 (by decide) rfl (iv_in (n := 1600) i7 (by decide) (by decide)) rfl (iv_any _) dX5_byteAt_26 (fun v12 e_v12 i_v12 => ?_)
          refine lv_sipush (v := 255) hx hb dX5_byteAt_27 (by decide) ?_
          refine lv_iand hx hb dX5_byteAt_30 ?_
          refine h_nm (lo := 0) (hi := 255) (iv_and 8 (by decide) (by decide) (by decide)) (fun v13 e_v13 i_v13 => ?_)
          refine lv_goto (tgt := 35) hx hb dX5_byteAt_31 (by decide) ?_
          exact h_iret hQ hx hb hr hlocks rfl hK hI ⟨rfl, rfl, rfl, (iv_w (lo' := (-1)) (hi' := 255) i_v13 (by decide) (by decide))⟩ dX5_byteAt_35
      · refine h_alen (v := 0) hx hb hK hI g_a8 (by decide) rfl (by decide) (by decide) dX5_byteAt_17 ?_
        refine lv_icmp_ge (tgt := 34) hx hb dX5_byteAt_18 (by decide) (fun c14 => ?_) (fun c14 => ?_)
        · refine lv_iconst (v := (-1)) hx hb dX5_byteAt_34 (by decide) ?_
          exact h_iret hQ hx hb hr hlocks rfl hK hI ⟨rfl, rfl, rfl, (iv_w (lo' := (-1)) (hi' := 255) kc_m1 (by decide) (by decide))⟩ dX5_byteAt_35
        · exfalso; have h8 := kc_0; have h9 := i7; simp only [iv] at h8 h9; rw [Int32.le_iff_toInt_le] at c14; omega
abbrev e_h_indexOfWord_22 : List (Nat × Nat) := []
set_option maxHeartbeats 4000000 in
set_option maxRecDepth 100000 in
theorem h_indexOfWord_22 (l : Launch) (D : va_G) (g : Nat → ClassId) (σ : Nat → Option Nat) (Z : State → Heap → Prop) (hZ0 : hZ σ Z) (M : hM) (N : hN) (R : hR) (a : Nat) (g_a : σ a = some 5) (b : Nat) (g_b : σ b = some 22) (p2 : Int32) : Met l yX5_indexOfWord wsX5_indexOfWord ({ frames := 0, cells := 0, slots := 0, locals := 0 }) (va_Pc [.ref a, .ref b, .int p2] (hPre D g σ Z M N R)) (hQi D g σ e_h_indexOfWord_22 M (fun (r : Int32) (M1 : hM) (N1 : hN) (R1 : hR) => M = M1 ∧ N = N1 ∧ R = R1 ∧ iv r (-1) 18)) 0 0 (hA σ) := by
  refine h_head (cc := cX5_indexOfWord) (maxL := 4) (ret := (some .int)) (by decide) rfl (Nat.le_of_ble_eq_true rfl) e_h_indexOfWord_22 ?_
  intro p e s m below meth c ls Q ar hQ hx hb hr hlocks hml hown hts hK hE H locs hI hl
  have hown : s.vm.findClass RX5 = some m.cls := hown
  have hl : lv_has ls 4 [(0, .ref a), (1, .ref b), (2, .int p2)] := hl
  refine lv_iconst (v := 0) hx hb dX5_indexOfWord_0 (by decide) ?_
  have J2 : ∀ (n : Nat) (v3_2 : Int32) (H : Heap) (locs : List Loc) (ls : Array Slot), kI D g σ e_h_indexOfWord_22 M s.heap M N R H locs → lv_has ls 4 [(0, .ref a), (1, .ref b), (2, .int p2), (3, .int v3_2)] → iv v3_2 0 19 → 20 ≤ v3_2.toInt + (n : Int) → W p l e (headSpec wsX5_indexOfWord ({ frames := 0, cells := 0, slots := 0, locals := 0 })).room s m ar below meth c H locs 0 0 Q (F0 m 2 ls []) := by
    intro n
    induction n with
    | zero => intro v3_2 H locs ls hI hl i_v3_2 hn; exfalso; have hz := i_v3_2; simp only [iv] at hz; omega
    | succ n ih2 =>
      intro v3_2 H locs ls hI hl i_v3_2 hn2
      refine lv_iload_n hx hb dX5_indexOfWord_2 rfl (lv_at hl 3 rfl) ?_
      refine lv_iload_n hx hb dX5_indexOfWord_3 rfl (lv_at hl 2 rfl) ?_
      refine lv_icmp_ge (tgt := 32) hx hb dX5_indexOfWord_4 (by decide) (fun c1 => ?_) (fun c1 => ?_)
      · have i2 : iv p2 (-2147483648) 19 := iv_le1 c1 (iv_any p2) i_v3_2 (by decide)
        refine lv_iconst (v := (-1)) hx hb dX5_indexOfWord_32 (by decide) ?_
        exact h_iret hQ hx hb hr hlocks rfl hK hI ⟨rfl, rfl, rfl, (iv_w (lo' := (-1)) (hi' := 18) kc_m1 (by decide) (by decide))⟩ dX5_indexOfWord_33
      · have i3 : iv p2 1 2147483647 := iv_nle1 c1 (iv_any p2) i_v3_2 (by decide)
        refine lv_iload_n hx hb dX5_indexOfWord_7 rfl (lv_at hl 3 rfl) ?_
        refine lv_aload_n hx hb dX5_indexOfWord_8 rfl (lv_at hl 1 rfl) ?_
        refine h_alen (v := 19) hx hb hK hI g_b (by decide) rfl (by decide) (by decide) dX5_indexOfWord_9 ?_
        refine lv_icmp_ge (tgt := 32) hx hb dX5_indexOfWord_10 (by decide) (fun c4 => ?_) (fun c4 => ?_)
        · have i5 : iv v3_2 19 19 := iv_le2 c4 kc_19 i_v3_2 (by decide)
          refine lv_iconst (v := (-1)) hx hb dX5_indexOfWord_32 (by decide) ?_
          exact h_iret hQ hx hb hr hlocks rfl hK hI ⟨rfl, rfl, rfl, (iv_w (lo' := (-1)) (hi' := 18) kc_m1 (by decide) (by decide))⟩ dX5_indexOfWord_33
        · have i6 : iv v3_2 0 18 := iv_nle2 c4 kc_19 i_v3_2 (by decide)
          refine lv_aload_n hx hb dX5_indexOfWord_13 rfl (lv_at hl 1 rfl) ?_
          refine lv_iload_n hx hb dX5_indexOfWord_14 rfl (lv_at hl 3 rfl) ?_
          refine h_lald (j := v3_2.toNatClampNeg) hx hb hK hI g_b (by decide) rfl (iv_in (n := 19) i6 (by decide) (by decide)) rfl dX5_indexOfWord_15 (fun w7 e_w7 => ?_)
          refine lv_aload_n hx hb dX5_indexOfWord_16 rfl (lv_at hl 0 rfl) ?_
          refine h_getl hx hb hts iX5_indexOfWord_X5 hown hK hI g_a (by decide) rfl rfl 14 (by decide) rfl  (hts (.fieldLink RX5 60 "CatLeases$Reader" "word" "J") (List.mem_of_getElem? (i := 1) rfl)) (fun _ h9 => h9) dX5_indexOfWord_17 (fun w8 e_w8 => ?_)
          refine W.lcmp hx hb dX5_indexOfWord_20 ?_
          refine h_nm (iv_any _) (fun v9 e_v9 i_v9 => ?_)
          refine lv_if_ne (tgt := 26) hx hb dX5_indexOfWord_21 (by decide) (fun c10 => ?_) (fun c10 => ?_)
          · obtain ⟨v11, e_v11⟩ : ∃ z : Int32, z = v3_2 + Int32.ofInt 1 := ⟨_, rfl⟩
            have i_v11 : iv v11 1 19 := by rw [e_v11]; exact iv_add i6 (ki_1) (by decide) (by decide) (by decide) (by decide)
            refine lv_iinc (v := v11) (lv' := [(3, .int v11), (0, .ref a), (1, .ref b), (2, .int p2)]) hx hb dX5_indexOfWord_26 hl (k := 3) rfl e_v11.symm (by decide) rfl (fun ls hl => ?_)
            refine lv_goto (tgt := 2) hx hb dX5_indexOfWord_29 (by decide) ?_
            exact ih2 v11 H locs ls hI (lv_sub hl [1, 2, 3, 0] rfl) (iv_w (lo' := 0) (hi' := 19) i_v11 (by decide) (by decide)) (by have h9 := (h_inc e_v11 i6 ki_1 (by decide) (by decide)); omega)
          · have i12 : iv v9 0 0 := iv_eq1 c10 (iv_any v9) kc_0
            refine lv_iload_n hx hb dX5_indexOfWord_24 rfl (lv_at hl 3 rfl) ?_
            exact h_iret hQ hx hb hr hlocks rfl hK hI ⟨rfl, rfl, rfl, (iv_w (lo' := (-1)) (hi' := 18) i6 (by decide) (by decide))⟩ dX5_indexOfWord_25
  refine lv_istore_n (lv' := [(3, .int (0 : Int32)), (0, .ref a), (1, .ref b), (2, .int p2)]) hx hb dX5_indexOfWord_1 rfl hl (by decide) rfl (fun ls hl => ?_)
  exact J2 20 (0 : Int32) H locs ls hI (lv_sub hl [1, 2, 3, 0] rfl) (iv_w (lo' := 0) (hi' := 19) kc_0 (by decide) (by decide)) (by have h9 := kc_0; simp only [iv] at h9; omega)
abbrev e_h_indexOfWord_23 : List (Nat × Nat) := []
set_option maxHeartbeats 4000000 in
set_option maxRecDepth 100000 in
theorem h_indexOfWord_23 (l : Launch) (D : va_G) (g : Nat → ClassId) (σ : Nat → Option Nat) (Z : State → Heap → Prop) (hZ0 : hZ σ Z) (M : hM) (N : hN) (R : hR) (a : Nat) (g_a : σ a = some 5) (b : Nat) (g_b : σ b = some 23) (p2 : Int32) : Met l yX5_indexOfWord wsX5_indexOfWord ({ frames := 0, cells := 0, slots := 0, locals := 0 }) (va_Pc [.ref a, .ref b, .int p2] (hPre D g σ Z M N R)) (hQi D g σ e_h_indexOfWord_23 M (fun (r : Int32) (M1 : hM) (N1 : hN) (R1 : hR) => M = M1 ∧ N = N1 ∧ R = R1 ∧ iv r (-1) 5)) 0 0 (hA σ) := by
  refine h_head (cc := cX5_indexOfWord) (maxL := 4) (ret := (some .int)) (by decide) rfl (Nat.le_of_ble_eq_true rfl) e_h_indexOfWord_23 ?_
  intro p e s m below meth c ls Q ar hQ hx hb hr hlocks hml hown hts hK hE H locs hI hl
  have hown : s.vm.findClass RX5 = some m.cls := hown
  have hl : lv_has ls 4 [(0, .ref a), (1, .ref b), (2, .int p2)] := hl
  refine lv_iconst (v := 0) hx hb dX5_indexOfWord_0 (by decide) ?_
  have J2 : ∀ (n : Nat) (v3_2 : Int32) (H : Heap) (locs : List Loc) (ls : Array Slot), kI D g σ e_h_indexOfWord_23 M s.heap M N R H locs → lv_has ls 4 [(0, .ref a), (1, .ref b), (2, .int p2), (3, .int v3_2)] → iv v3_2 0 6 → 7 ≤ v3_2.toInt + (n : Int) → W p l e (headSpec wsX5_indexOfWord ({ frames := 0, cells := 0, slots := 0, locals := 0 })).room s m ar below meth c H locs 0 0 Q (F0 m 2 ls []) := by
    intro n
    induction n with
    | zero => intro v3_2 H locs ls hI hl i_v3_2 hn; exfalso; have hz := i_v3_2; simp only [iv] at hz; omega
    | succ n ih2 =>
      intro v3_2 H locs ls hI hl i_v3_2 hn2
      refine lv_iload_n hx hb dX5_indexOfWord_2 rfl (lv_at hl 3 rfl) ?_
      refine lv_iload_n hx hb dX5_indexOfWord_3 rfl (lv_at hl 2 rfl) ?_
      refine lv_icmp_ge (tgt := 32) hx hb dX5_indexOfWord_4 (by decide) (fun c1 => ?_) (fun c1 => ?_)
      · have i2 : iv p2 (-2147483648) 6 := iv_le1 c1 (iv_any p2) i_v3_2 (by decide)
        refine lv_iconst (v := (-1)) hx hb dX5_indexOfWord_32 (by decide) ?_
        exact h_iret hQ hx hb hr hlocks rfl hK hI ⟨rfl, rfl, rfl, (iv_w (lo' := (-1)) (hi' := 5) kc_m1 (by decide) (by decide))⟩ dX5_indexOfWord_33
      · have i3 : iv p2 1 2147483647 := iv_nle1 c1 (iv_any p2) i_v3_2 (by decide)
        refine lv_iload_n hx hb dX5_indexOfWord_7 rfl (lv_at hl 3 rfl) ?_
        refine lv_aload_n hx hb dX5_indexOfWord_8 rfl (lv_at hl 1 rfl) ?_
        refine h_alen (v := 6) hx hb hK hI g_b (by decide) rfl (by decide) (by decide) dX5_indexOfWord_9 ?_
        refine lv_icmp_ge (tgt := 32) hx hb dX5_indexOfWord_10 (by decide) (fun c4 => ?_) (fun c4 => ?_)
        · have i5 : iv v3_2 6 6 := iv_le2 c4 kc_6 i_v3_2 (by decide)
          refine lv_iconst (v := (-1)) hx hb dX5_indexOfWord_32 (by decide) ?_
          exact h_iret hQ hx hb hr hlocks rfl hK hI ⟨rfl, rfl, rfl, (iv_w (lo' := (-1)) (hi' := 5) kc_m1 (by decide) (by decide))⟩ dX5_indexOfWord_33
        · have i6 : iv v3_2 0 5 := iv_nle2 c4 kc_6 i_v3_2 (by decide)
          refine lv_aload_n hx hb dX5_indexOfWord_13 rfl (lv_at hl 1 rfl) ?_
          refine lv_iload_n hx hb dX5_indexOfWord_14 rfl (lv_at hl 3 rfl) ?_
          refine h_lald (j := v3_2.toNatClampNeg) hx hb hK hI g_b (by decide) rfl (iv_in (n := 6) i6 (by decide) (by decide)) rfl dX5_indexOfWord_15 (fun w7 e_w7 => ?_)
          refine lv_aload_n hx hb dX5_indexOfWord_16 rfl (lv_at hl 0 rfl) ?_
          refine h_getl hx hb hts iX5_indexOfWord_X5 hown hK hI g_a (by decide) rfl rfl 14 (by decide) rfl  (hts (.fieldLink RX5 60 "CatLeases$Reader" "word" "J") (List.mem_of_getElem? (i := 1) rfl)) (fun _ h9 => h9) dX5_indexOfWord_17 (fun w8 e_w8 => ?_)
          refine W.lcmp hx hb dX5_indexOfWord_20 ?_
          refine h_nm (iv_any _) (fun v9 e_v9 i_v9 => ?_)
          refine lv_if_ne (tgt := 26) hx hb dX5_indexOfWord_21 (by decide) (fun c10 => ?_) (fun c10 => ?_)
          · obtain ⟨v11, e_v11⟩ : ∃ z : Int32, z = v3_2 + Int32.ofInt 1 := ⟨_, rfl⟩
            have i_v11 : iv v11 1 6 := by rw [e_v11]; exact iv_add i6 (ki_1) (by decide) (by decide) (by decide) (by decide)
            refine lv_iinc (v := v11) (lv' := [(3, .int v11), (0, .ref a), (1, .ref b), (2, .int p2)]) hx hb dX5_indexOfWord_26 hl (k := 3) rfl e_v11.symm (by decide) rfl (fun ls hl => ?_)
            refine lv_goto (tgt := 2) hx hb dX5_indexOfWord_29 (by decide) ?_
            exact ih2 v11 H locs ls hI (lv_sub hl [1, 2, 3, 0] rfl) (iv_w (lo' := 0) (hi' := 6) i_v11 (by decide) (by decide)) (by have h9 := (h_inc e_v11 i6 ki_1 (by decide) (by decide)); omega)
          · have i12 : iv v9 0 0 := iv_eq1 c10 (iv_any v9) kc_0
            refine lv_iload_n hx hb dX5_indexOfWord_24 rfl (lv_at hl 3 rfl) ?_
            exact h_iret hQ hx hb hr hlocks rfl hK hI ⟨rfl, rfl, rfl, (iv_w (lo' := (-1)) (hi' := 5) i6 (by decide) (by decide))⟩ dX5_indexOfWord_25
  refine lv_istore_n (lv' := [(3, .int (0 : Int32)), (0, .ref a), (1, .ref b), (2, .int p2)]) hx hb dX5_indexOfWord_1 rfl hl (by decide) rfl (fun ls hl => ?_)
  exact J2 7 (0 : Int32) H locs ls hI (lv_sub hl [1, 2, 3, 0] rfl) (iv_w (lo' := 0) (hi' := 6) kc_0 (by decide) (by decide)) (by have h9 := kc_0; simp only [iv] at h9; omega)
abbrev e_h_indexOfWord_24 : List (Nat × Nat) := []
set_option maxHeartbeats 4000000 in
set_option maxRecDepth 100000 in
theorem h_indexOfWord_24 (l : Launch) (D : va_G) (g : Nat → ClassId) (σ : Nat → Option Nat) (Z : State → Heap → Prop) (hZ0 : hZ σ Z) (M : hM) (N : hN) (R : hR) (a : Nat) (g_a : σ a = some 5) (b : Nat) (g_b : σ b = some 24) (p2 : Int32) : Met l yX5_indexOfWord wsX5_indexOfWord ({ frames := 0, cells := 0, slots := 0, locals := 0 }) (va_Pc [.ref a, .ref b, .int p2] (hPre D g σ Z M N R)) (hQi D g σ e_h_indexOfWord_24 M (fun (r : Int32) (M1 : hM) (N1 : hN) (R1 : hR) => M = M1 ∧ N = N1 ∧ R = R1 ∧ iv r (-1) 7)) 0 0 (hA σ) := by
  refine h_head (cc := cX5_indexOfWord) (maxL := 4) (ret := (some .int)) (by decide) rfl (Nat.le_of_ble_eq_true rfl) e_h_indexOfWord_24 ?_
  intro p e s m below meth c ls Q ar hQ hx hb hr hlocks hml hown hts hK hE H locs hI hl
  have hown : s.vm.findClass RX5 = some m.cls := hown
  have hl : lv_has ls 4 [(0, .ref a), (1, .ref b), (2, .int p2)] := hl
  refine lv_iconst (v := 0) hx hb dX5_indexOfWord_0 (by decide) ?_
  have J2 : ∀ (n : Nat) (v3_2 : Int32) (H : Heap) (locs : List Loc) (ls : Array Slot), kI D g σ e_h_indexOfWord_24 M s.heap M N R H locs → lv_has ls 4 [(0, .ref a), (1, .ref b), (2, .int p2), (3, .int v3_2)] → iv v3_2 0 8 → 9 ≤ v3_2.toInt + (n : Int) → W p l e (headSpec wsX5_indexOfWord ({ frames := 0, cells := 0, slots := 0, locals := 0 })).room s m ar below meth c H locs 0 0 Q (F0 m 2 ls []) := by
    intro n
    induction n with
    | zero => intro v3_2 H locs ls hI hl i_v3_2 hn; exfalso; have hz := i_v3_2; simp only [iv] at hz; omega
    | succ n ih2 =>
      intro v3_2 H locs ls hI hl i_v3_2 hn2
      refine lv_iload_n hx hb dX5_indexOfWord_2 rfl (lv_at hl 3 rfl) ?_
      refine lv_iload_n hx hb dX5_indexOfWord_3 rfl (lv_at hl 2 rfl) ?_
      refine lv_icmp_ge (tgt := 32) hx hb dX5_indexOfWord_4 (by decide) (fun c1 => ?_) (fun c1 => ?_)
      · have i2 : iv p2 (-2147483648) 8 := iv_le1 c1 (iv_any p2) i_v3_2 (by decide)
        refine lv_iconst (v := (-1)) hx hb dX5_indexOfWord_32 (by decide) ?_
        exact h_iret hQ hx hb hr hlocks rfl hK hI ⟨rfl, rfl, rfl, (iv_w (lo' := (-1)) (hi' := 7) kc_m1 (by decide) (by decide))⟩ dX5_indexOfWord_33
      · have i3 : iv p2 1 2147483647 := iv_nle1 c1 (iv_any p2) i_v3_2 (by decide)
        refine lv_iload_n hx hb dX5_indexOfWord_7 rfl (lv_at hl 3 rfl) ?_
        refine lv_aload_n hx hb dX5_indexOfWord_8 rfl (lv_at hl 1 rfl) ?_
        refine h_alen (v := 8) hx hb hK hI g_b (by decide) rfl (by decide) (by decide) dX5_indexOfWord_9 ?_
        refine lv_icmp_ge (tgt := 32) hx hb dX5_indexOfWord_10 (by decide) (fun c4 => ?_) (fun c4 => ?_)
        · have i5 : iv v3_2 8 8 := iv_le2 c4 kc_8 i_v3_2 (by decide)
          refine lv_iconst (v := (-1)) hx hb dX5_indexOfWord_32 (by decide) ?_
          exact h_iret hQ hx hb hr hlocks rfl hK hI ⟨rfl, rfl, rfl, (iv_w (lo' := (-1)) (hi' := 7) kc_m1 (by decide) (by decide))⟩ dX5_indexOfWord_33
        · have i6 : iv v3_2 0 7 := iv_nle2 c4 kc_8 i_v3_2 (by decide)
          refine lv_aload_n hx hb dX5_indexOfWord_13 rfl (lv_at hl 1 rfl) ?_
          refine lv_iload_n hx hb dX5_indexOfWord_14 rfl (lv_at hl 3 rfl) ?_
          refine h_lald (j := v3_2.toNatClampNeg) hx hb hK hI g_b (by decide) rfl (iv_in (n := 8) i6 (by decide) (by decide)) rfl dX5_indexOfWord_15 (fun w7 e_w7 => ?_)
          refine lv_aload_n hx hb dX5_indexOfWord_16 rfl (lv_at hl 0 rfl) ?_
          refine h_getl hx hb hts iX5_indexOfWord_X5 hown hK hI g_a (by decide) rfl rfl 14 (by decide) rfl  (hts (.fieldLink RX5 60 "CatLeases$Reader" "word" "J") (List.mem_of_getElem? (i := 1) rfl)) (fun _ h9 => h9) dX5_indexOfWord_17 (fun w8 e_w8 => ?_)
          refine W.lcmp hx hb dX5_indexOfWord_20 ?_
          refine h_nm (iv_any _) (fun v9 e_v9 i_v9 => ?_)
          refine lv_if_ne (tgt := 26) hx hb dX5_indexOfWord_21 (by decide) (fun c10 => ?_) (fun c10 => ?_)
          · obtain ⟨v11, e_v11⟩ : ∃ z : Int32, z = v3_2 + Int32.ofInt 1 := ⟨_, rfl⟩
            have i_v11 : iv v11 1 8 := by rw [e_v11]; exact iv_add i6 (ki_1) (by decide) (by decide) (by decide) (by decide)
            refine lv_iinc (v := v11) (lv' := [(3, .int v11), (0, .ref a), (1, .ref b), (2, .int p2)]) hx hb dX5_indexOfWord_26 hl (k := 3) rfl e_v11.symm (by decide) rfl (fun ls hl => ?_)
            refine lv_goto (tgt := 2) hx hb dX5_indexOfWord_29 (by decide) ?_
            exact ih2 v11 H locs ls hI (lv_sub hl [1, 2, 3, 0] rfl) (iv_w (lo' := 0) (hi' := 8) i_v11 (by decide) (by decide)) (by have h9 := (h_inc e_v11 i6 ki_1 (by decide) (by decide)); omega)
          · have i12 : iv v9 0 0 := iv_eq1 c10 (iv_any v9) kc_0
            refine lv_iload_n hx hb dX5_indexOfWord_24 rfl (lv_at hl 3 rfl) ?_
            exact h_iret hQ hx hb hr hlocks rfl hK hI ⟨rfl, rfl, rfl, (iv_w (lo' := (-1)) (hi' := 7) i6 (by decide) (by decide))⟩ dX5_indexOfWord_25
  refine lv_istore_n (lv' := [(3, .int (0 : Int32)), (0, .ref a), (1, .ref b), (2, .int p2)]) hx hb dX5_indexOfWord_1 rfl hl (by decide) rfl (fun ls hl => ?_)
  exact J2 9 (0 : Int32) H locs ls hI (lv_sub hl [1, 2, 3, 0] rfl) (iv_w (lo' := 0) (hi' := 8) kc_0 (by decide) (by decide)) (by have h9 := kc_0; simp only [iv] at h9; omega)
abbrev e_h_indexOfWord_25 : List (Nat × Nat) := []
set_option maxHeartbeats 4000000 in
set_option maxRecDepth 100000 in
theorem h_indexOfWord_25 (l : Launch) (D : va_G) (g : Nat → ClassId) (σ : Nat → Option Nat) (Z : State → Heap → Prop) (hZ0 : hZ σ Z) (M : hM) (N : hN) (R : hR) (a : Nat) (g_a : σ a = some 5) (b : Nat) (g_b : σ b = some 25) (p2 : Int32) : Met l yX5_indexOfWord wsX5_indexOfWord ({ frames := 0, cells := 0, slots := 0, locals := 0 }) (va_Pc [.ref a, .ref b, .int p2] (hPre D g σ Z M N R)) (hQi D g σ e_h_indexOfWord_25 M (fun (r : Int32) (M1 : hM) (N1 : hN) (R1 : hR) => M = M1 ∧ N = N1 ∧ R = R1 ∧ iv r (-1) 6)) 0 0 (hA σ) := by
  refine h_head (cc := cX5_indexOfWord) (maxL := 4) (ret := (some .int)) (by decide) rfl (Nat.le_of_ble_eq_true rfl) e_h_indexOfWord_25 ?_
  intro p e s m below meth c ls Q ar hQ hx hb hr hlocks hml hown hts hK hE H locs hI hl
  have hown : s.vm.findClass RX5 = some m.cls := hown
  have hl : lv_has ls 4 [(0, .ref a), (1, .ref b), (2, .int p2)] := hl
  refine lv_iconst (v := 0) hx hb dX5_indexOfWord_0 (by decide) ?_
  have J2 : ∀ (n : Nat) (v3_2 : Int32) (H : Heap) (locs : List Loc) (ls : Array Slot), kI D g σ e_h_indexOfWord_25 M s.heap M N R H locs → lv_has ls 4 [(0, .ref a), (1, .ref b), (2, .int p2), (3, .int v3_2)] → iv v3_2 0 7 → 8 ≤ v3_2.toInt + (n : Int) → W p l e (headSpec wsX5_indexOfWord ({ frames := 0, cells := 0, slots := 0, locals := 0 })).room s m ar below meth c H locs 0 0 Q (F0 m 2 ls []) := by
    intro n
    induction n with
    | zero => intro v3_2 H locs ls hI hl i_v3_2 hn; exfalso; have hz := i_v3_2; simp only [iv] at hz; omega
    | succ n ih2 =>
      intro v3_2 H locs ls hI hl i_v3_2 hn2
      refine lv_iload_n hx hb dX5_indexOfWord_2 rfl (lv_at hl 3 rfl) ?_
      refine lv_iload_n hx hb dX5_indexOfWord_3 rfl (lv_at hl 2 rfl) ?_
      refine lv_icmp_ge (tgt := 32) hx hb dX5_indexOfWord_4 (by decide) (fun c1 => ?_) (fun c1 => ?_)
      · have i2 : iv p2 (-2147483648) 7 := iv_le1 c1 (iv_any p2) i_v3_2 (by decide)
        refine lv_iconst (v := (-1)) hx hb dX5_indexOfWord_32 (by decide) ?_
        exact h_iret hQ hx hb hr hlocks rfl hK hI ⟨rfl, rfl, rfl, (iv_w (lo' := (-1)) (hi' := 6) kc_m1 (by decide) (by decide))⟩ dX5_indexOfWord_33
      · have i3 : iv p2 1 2147483647 := iv_nle1 c1 (iv_any p2) i_v3_2 (by decide)
        refine lv_iload_n hx hb dX5_indexOfWord_7 rfl (lv_at hl 3 rfl) ?_
        refine lv_aload_n hx hb dX5_indexOfWord_8 rfl (lv_at hl 1 rfl) ?_
        refine h_alen (v := 7) hx hb hK hI g_b (by decide) rfl (by decide) (by decide) dX5_indexOfWord_9 ?_
        refine lv_icmp_ge (tgt := 32) hx hb dX5_indexOfWord_10 (by decide) (fun c4 => ?_) (fun c4 => ?_)
        · have i5 : iv v3_2 7 7 := iv_le2 c4 kc_7 i_v3_2 (by decide)
          refine lv_iconst (v := (-1)) hx hb dX5_indexOfWord_32 (by decide) ?_
          exact h_iret hQ hx hb hr hlocks rfl hK hI ⟨rfl, rfl, rfl, (iv_w (lo' := (-1)) (hi' := 6) kc_m1 (by decide) (by decide))⟩ dX5_indexOfWord_33
        · have i6 : iv v3_2 0 6 := iv_nle2 c4 kc_7 i_v3_2 (by decide)
          refine lv_aload_n hx hb dX5_indexOfWord_13 rfl (lv_at hl 1 rfl) ?_
          refine lv_iload_n hx hb dX5_indexOfWord_14 rfl (lv_at hl 3 rfl) ?_
          refine h_lald (j := v3_2.toNatClampNeg) hx hb hK hI g_b (by decide) rfl (iv_in (n := 7) i6 (by decide) (by decide)) rfl dX5_indexOfWord_15 (fun w7 e_w7 => ?_)
          refine lv_aload_n hx hb dX5_indexOfWord_16 rfl (lv_at hl 0 rfl) ?_
          refine h_getl hx hb hts iX5_indexOfWord_X5 hown hK hI g_a (by decide) rfl rfl 14 (by decide) rfl  (hts (.fieldLink RX5 60 "CatLeases$Reader" "word" "J") (List.mem_of_getElem? (i := 1) rfl)) (fun _ h9 => h9) dX5_indexOfWord_17 (fun w8 e_w8 => ?_)
          refine W.lcmp hx hb dX5_indexOfWord_20 ?_
          refine h_nm (iv_any _) (fun v9 e_v9 i_v9 => ?_)
          refine lv_if_ne (tgt := 26) hx hb dX5_indexOfWord_21 (by decide) (fun c10 => ?_) (fun c10 => ?_)
          · obtain ⟨v11, e_v11⟩ : ∃ z : Int32, z = v3_2 + Int32.ofInt 1 := ⟨_, rfl⟩
            have i_v11 : iv v11 1 7 := by rw [e_v11]; exact iv_add i6 (ki_1) (by decide) (by decide) (by decide) (by decide)
            refine lv_iinc (v := v11) (lv' := [(3, .int v11), (0, .ref a), (1, .ref b), (2, .int p2)]) hx hb dX5_indexOfWord_26 hl (k := 3) rfl e_v11.symm (by decide) rfl (fun ls hl => ?_)
            refine lv_goto (tgt := 2) hx hb dX5_indexOfWord_29 (by decide) ?_
            exact ih2 v11 H locs ls hI (lv_sub hl [1, 2, 3, 0] rfl) (iv_w (lo' := 0) (hi' := 7) i_v11 (by decide) (by decide)) (by have h9 := (h_inc e_v11 i6 ki_1 (by decide) (by decide)); omega)
          · have i12 : iv v9 0 0 := iv_eq1 c10 (iv_any v9) kc_0
            refine lv_iload_n hx hb dX5_indexOfWord_24 rfl (lv_at hl 3 rfl) ?_
            exact h_iret hQ hx hb hr hlocks rfl hK hI ⟨rfl, rfl, rfl, (iv_w (lo' := (-1)) (hi' := 6) i6 (by decide) (by decide))⟩ dX5_indexOfWord_25
  refine lv_istore_n (lv' := [(3, .int (0 : Int32)), (0, .ref a), (1, .ref b), (2, .int p2)]) hx hb dX5_indexOfWord_1 rfl hl (by decide) rfl (fun ls hl => ?_)
  exact J2 8 (0 : Int32) H locs ls hI (lv_sub hl [1, 2, 3, 0] rfl) (iv_w (lo' := 0) (hi' := 7) kc_0 (by decide) (by decide)) (by have h9 := kc_0; simp only [iv] at h9; omega)
