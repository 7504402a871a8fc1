abbrev e_h_isLetter_X9 : List (Nat × Nat) := []
set_option maxHeartbeats 4000000 in
set_option maxRecDepth 100000 in
theorem h_isLetter_X9 (l : Launch) (D : va_G) (g : Nat → ClassId) (σ : Nat → Option Nat) (Z : State → Heap → Prop) (hZ0 : hZ σ Z) (M : hM) (N : hN) (R : hR) (p0 : Int32) : Met l yX9_isLetter wsX9_isLetter ({ frames := 0, cells := 0, slots := 0, locals := 0 }) (va_Pc [.int p0] (hPre D g σ Z M N R)) (hQi D g σ e_h_isLetter_X9 M (fun (r : Int32) (M1 : hM) (N1 : hN) (R1 : hR) => M = M1 ∧ N = N1 ∧ R = R1 ∧ iv r 0 1 ∧ (¬ r = 0 → iv p0 97 122) ∧ (r = 0 → ¬ iv p0 97 122))) 0 0 (hA σ) := by
  refine h_head (cc := cX9_isLetter) (maxL := 1) (ret := (some .boolean)) (by decide) rfl (Nat.le_of_ble_eq_true rfl) e_h_isLetter_X9 ?_
  intro p e s m below meth c ls Q ar hQ hx hb hr hlocks hml hown hts hK hE H locs hI hl
  have hown : s.vm.findClass RX9 = some m.cls := hown
  have hl : lv_has ls 1 [(0, .int p0)] := hl
  refine lv_iload_n hx hb dX9_isLetter_0 rfl (lv_at hl 0 rfl) ?_
  refine lv_bipush (v := 97) hx hb dX9_isLetter_1 (by decide) ?_
  refine lv_icmp_lt (tgt := 16) hx hb dX9_isLetter_3 (by decide) (fun c1 => ?_) (fun c1 => ?_)
  · have i2 : iv p0 (-2147483648) 96 := iv_lt1 c1 (iv_any p0) kc_97 (by decide)
    refine lv_iconst (v := 0) hx hb dX9_isLetter_16 (by decide) ?_
    exact h_iret hQ hx hb hr hlocks rfl hK hI ⟨rfl, rfl, rfl, (iv_w (lo' := 0) (hi' := 1) kc_0 (by decide) (by decide)), (fun h9 => absurd rfl h9), (fun _ h8 => by have h7 := i2; simp only [iv] at h7 h8; omega)⟩ dX9_isLetter_17
  · have i3 : iv p0 97 2147483647 := iv_nlt1 c1 (iv_any p0) kc_97 (by decide)
    refine lv_iload_n hx hb dX9_isLetter_6 rfl (lv_at hl 0 rfl) ?_
    refine lv_bipush (v := 122) hx hb dX9_isLetter_7 (by decide) ?_
    refine lv_icmp_gt (tgt := 16) hx hb dX9_isLetter_9 (by decide) (fun c4 => ?_) (fun c4 => ?_)
    · have i5 : iv p0 123 2147483647 := iv_lt2 c4 kc_122 i3 (by decide)
      refine lv_iconst (v := 0) hx hb dX9_isLetter_16 (by decide) ?_
      exact h_iret hQ hx hb hr hlocks rfl hK hI ⟨rfl, rfl, rfl, (iv_w (lo' := 0) (hi' := 1) kc_0 (by decide) (by decide)), (fun h9 => absurd rfl h9), (fun _ h8 => by have h7 := i5; simp only [iv] at h7 h8; omega)⟩ dX9_isLetter_17
    · have i6 : iv p0 97 122 := iv_nlt2 c4 kc_122 i3 (by decide)
      refine lv_iconst (v := 1) hx hb dX9_isLetter_12 (by decide) ?_
      refine lv_goto (tgt := 17) hx hb dX9_isLetter_13 (by decide) ?_
      exact h_iret hQ hx hb hr hlocks rfl hK hI ⟨rfl, rfl, rfl, (iv_w (lo' := 0) (hi' := 1) kc_1 (by decide) (by decide)), (fun _ => i6), (fun h9 => absurd h9 (by decide))⟩ dX9_isLetter_17
abbrev e_h_isDigit_X9 : List (Nat × Nat) := []
set_option maxHeartbeats 4000000 in
set_option maxRecDepth 100000 in
theorem h_isDigit_X9 (l : Launch) (D : va_G) (g : Nat → ClassId) (σ : Nat → Option Nat) (Z : State → Heap → Prop) (hZ0 : hZ σ Z) (M : hM) (N : hN) (R : hR) (p0 : Int32) : Met l yX9_isDigit wsX9_isDigit ({ frames := 0, cells := 0, slots := 0, locals := 0 }) (va_Pc [.int p0] (hPre D g σ Z M N R)) (hQi D g σ e_h_isDigit_X9 M (fun (r : Int32) (M1 : hM) (N1 : hN) (R1 : hR) => M = M1 ∧ N = N1 ∧ R = R1 ∧ iv r 0 1 ∧ (¬ r = 0 → iv p0 48 57) ∧ (r = 0 → ¬ iv p0 48 57))) 0 0 (hA σ) := by
  refine h_head (cc := cX9_isDigit) (maxL := 1) (ret := (some .boolean)) (by decide) rfl (Nat.le_of_ble_eq_true rfl) e_h_isDigit_X9 ?_
  intro p e s m below meth c ls Q ar hQ hx hb hr hlocks hml hown hts hK hE H locs hI hl
  have hown : s.vm.findClass RX9 = some m.cls := hown
  have hl : lv_has ls 1 [(0, .int p0)] := hl
  refine lv_iload_n hx hb dX9_isDigit_0 rfl (lv_at hl 0 rfl) ?_
  refine lv_bipush (v := 48) hx hb dX9_isDigit_1 (by decide) ?_
  refine lv_icmp_lt (tgt := 16) hx hb dX9_isDigit_3 (by decide) (fun c1 => ?_) (fun c1 => ?_)
  · have i2 : iv p0 (-2147483648) 47 := iv_lt1 c1 (iv_any p0) kc_48 (by decide)
    refine lv_iconst (v := 0) hx hb dX9_isDigit_16 (by decide) ?_
    exact h_iret hQ hx hb hr hlocks rfl hK hI ⟨rfl, rfl, rfl, (iv_w (lo' := 0) (hi' := 1) kc_0 (by decide) (by decide)), (fun h9 => absurd rfl h9), (fun _ h8 => by have h7 := i2; simp only [iv] at h7 h8; omega)⟩ dX9_isDigit_17
  · have i3 : iv p0 48 2147483647 := iv_nlt1 c1 (iv_any p0) kc_48 (by decide)
    refine lv_iload_n hx hb dX9_isDigit_6 rfl (lv_at hl 0 rfl) ?_
    refine lv_bipush (v := 57) hx hb dX9_isDigit_7 (by decide) ?_
    refine lv_icmp_gt (tgt := 16) hx hb dX9_isDigit_9 (by decide) (fun c4 => ?_) (fun c4 => ?_)
    · have i5 : iv p0 58 2147483647 := iv_lt2 c4 kc_57 i3 (by decide)
      refine lv_iconst (v := 0) hx hb dX9_isDigit_16 (by decide) ?_
      exact h_iret hQ hx hb hr hlocks rfl hK hI ⟨rfl, rfl, rfl, (iv_w (lo' := 0) (hi' := 1) kc_0 (by decide) (by decide)), (fun h9 => absurd rfl h9), (fun _ h8 => by have h7 := i5; simp only [iv] at h7 h8; omega)⟩ dX9_isDigit_17
    · have i6 : iv p0 48 57 := iv_nlt2 c4 kc_57 i3 (by decide)
      refine lv_iconst (v := 1) hx hb dX9_isDigit_12 (by decide) ?_
      refine lv_goto (tgt := 17) hx hb dX9_isDigit_13 (by decide) ?_
      exact h_iret hQ hx hb hr hlocks rfl hK hI ⟨rfl, rfl, rfl, (iv_w (lo' := 0) (hi' := 1) kc_1 (by decide) (by decide)), (fun _ => i6), (fun h9 => absurd h9 (by decide))⟩ dX9_isDigit_17
abbrev e_h_isSign_X9 : List (Nat × Nat) := []
set_option maxHeartbeats 4000000 in
set_option maxRecDepth 100000 in
theorem h_isSign_X9 (l : Launch) (D : va_G) (g : Nat → ClassId) (σ : Nat → Option Nat) (Z : State → Heap → Prop) (hZ0 : hZ σ Z) (M : hM) (N : hN) (R : hR) (p0 : Int32) : Met l yX9_isSign wsX9_isSign ({ frames := 0, cells := 0, slots := 0, locals := 0 }) (va_Pc [.int p0] (hPre D g σ Z M N R)) (hQi D g σ e_h_isSign_X9 M (fun (r : Int32) (M1 : hM) (N1 : hN) (R1 : hR) => M = M1 ∧ N = N1 ∧ R = R1 ∧ iv r 0 1)) 0 0 (hA σ) := by
  refine h_head (cc := cX9_isSign) (maxL := 1) (ret := (some .boolean)) (by decide) rfl (Nat.le_of_ble_eq_true rfl) e_h_isSign_X9 ?_
  intro p e s m below meth c ls Q ar hQ hx hb hr hlocks hml hown hts hK hE H locs hI hl
  have hown : s.vm.findClass RX9 = some m.cls := hown
  have hl : lv_has ls 1 [(0, .int p0)] := hl
  refine lv_iload_n hx hb dX9_isSign_0 rfl (lv_at hl 0 rfl) ?_
  refine lv_bipush (v := 59) hx hb dX9_isSign_1 (by decide) ?_
  have J66 : ∀ (H : Heap) (locs : List Loc) (ls : Array Slot), kI D g σ e_h_isSign_X9 M s.heap M N R H locs → lv_has ls 1 [] → W p l e (headSpec wsX9_isSign ({ frames := 0, cells := 0, slots := 0, locals := 0 })).room s m ar below meth c H locs 0 0 Q (F0 m 66 ls []) := by
    intro H locs ls hI hl
    refine lv_iconst (v := 1) hx hb dX9_isSign_66 (by decide) ?_
    refine lv_goto (tgt := 71) hx hb dX9_isSign_67 (by decide) ?_
    exact h_iret hQ hx hb hr hlocks rfl hK hI ⟨rfl, rfl, rfl, (iv_w (lo' := 0) (hi' := 1) kc_1 (by decide) (by decide))⟩ dX9_isSign_71
  refine lv_icmp_eq (tgt := 66) hx hb dX9_isSign_3 (by decide) (fun c1 => ?_) (fun c1 => ?_)
  · have i2 : iv p0 59 59 := iv_eq1 c1 (iv_any p0) kc_59
    exact J66 H locs ls hI (lv_sub hl [] rfl)
  · refine lv_iload_n hx hb dX9_isSign_6 rfl (lv_at hl 0 rfl) ?_
    refine lv_bipush (v := 40) hx hb dX9_isSign_7 (by decide) ?_
    refine lv_icmp_eq (tgt := 66) hx hb dX9_isSign_9 (by decide) (fun c3 => ?_) (fun c3 => ?_)
    · have i4 : iv p0 40 40 := iv_eq1 c3 (iv_any p0) kc_40
      exact J66 H locs ls hI (lv_sub hl [] rfl)
    · refine lv_iload_n hx hb dX9_isSign_12 rfl (lv_at hl 0 rfl) ?_
      refine lv_bipush (v := 41) hx hb dX9_isSign_13 (by decide) ?_
      refine lv_icmp_eq (tgt := 66) hx hb dX9_isSign_15 (by decide) (fun c5 => ?_) (fun c5 => ?_)
      · have i6 : iv p0 41 41 := iv_eq1 c5 (iv_any p0) kc_41
        exact J66 H locs ls hI (lv_sub hl [] rfl)
      · refine lv_iload_n hx hb dX9_isSign_18 rfl (lv_at hl 0 rfl) ?_
        refine lv_bipush (v := 60) hx hb dX9_isSign_19 (by decide) ?_
        refine lv_icmp_eq (tgt := 66) hx hb dX9_isSign_21 (by decide) (fun c7 => ?_) (fun c7 => ?_)
        · have i8 : iv p0 60 60 := iv_eq1 c7 (iv_any p0) kc_60
          exact J66 H locs ls hI (lv_sub hl [] rfl)
        · refine lv_iload_n hx hb dX9_isSign_24 rfl (lv_at hl 0 rfl) ?_
          refine lv_bipush (v := 62) hx hb dX9_isSign_25 (by decide) ?_
          refine lv_icmp_eq (tgt := 66) hx hb dX9_isSign_27 (by decide) (fun c9 => ?_) (fun c9 => ?_)
          · have i10 : iv p0 62 62 := iv_eq1 c9 (iv_any p0) kc_62
            exact J66 H locs ls hI (lv_sub hl [] rfl)
          · refine lv_iload_n hx hb dX9_isSign_30 rfl (lv_at hl 0 rfl) ?_
            refine lv_bipush (v := 61) hx hb dX9_isSign_31 (by decide) ?_
            refine lv_icmp_eq (tgt := 66) hx hb dX9_isSign_33 (by decide) (fun c11 => ?_) (fun c11 => ?_)
            · have i12 : iv p0 61 61 := iv_eq1 c11 (iv_any p0) kc_61
              exact J66 H locs ls hI (lv_sub hl [] rfl)
            · refine lv_iload_n hx hb dX9_isSign_36 rfl (lv_at hl 0 rfl) ?_
              refine lv_bipush (v := 43) hx hb dX9_isSign_37 (by decide) ?_
              refine lv_icmp_eq (tgt := 66) hx hb dX9_isSign_39 (by decide) (fun c13 => ?_) (fun c13 => ?_)
              · have i14 : iv p0 43 43 := iv_eq1 c13 (iv_any p0) kc_43
                exact J66 H locs ls hI (lv_sub hl [] rfl)
              · refine lv_iload_n hx hb dX9_isSign_42 rfl (lv_at hl 0 rfl) ?_
                refine lv_bipush (v := 45) hx hb dX9_isSign_43 (by decide) ?_
                refine lv_icmp_eq (tgt := 66) hx hb dX9_isSign_45 (by decide) (fun c15 => ?_) (fun c15 => ?_)
                · have i16 : iv p0 45 45 := iv_eq1 c15 (iv_any p0) kc_45
                  exact J66 H locs ls hI (lv_sub hl [] rfl)
                · refine lv_iload_n hx hb dX9_isSign_48 rfl (lv_at hl 0 rfl) ?_
                  refine lv_bipush (v := 42) hx hb dX9_isSign_49 (by decide) ?_
                  refine lv_icmp_eq (tgt := 66) hx hb dX9_isSign_51 (by decide) (fun c17 => ?_) (fun c17 => ?_)
                  · have i18 : iv p0 42 42 := iv_eq1 c17 (iv_any p0) kc_42
                    exact J66 H locs ls hI (lv_sub hl [] rfl)
                  · refine lv_iload_n hx hb dX9_isSign_54 rfl (lv_at hl 0 rfl) ?_
                    refine lv_bipush (v := 47) hx hb dX9_isSign_55 (by decide) ?_
                    refine lv_icmp_eq (tgt := 66) hx hb dX9_isSign_57 (by decide) (fun c19 => ?_) (fun c19 => ?_)
                    · have i20 : iv p0 47 47 := iv_eq1 c19 (iv_any p0) kc_47
                      exact J66 H locs ls hI (lv_sub hl [] rfl)
                    · refine lv_iload_n hx hb dX9_isSign_60 rfl (lv_at hl 0 rfl) ?_
                      refine lv_bipush (v := 37) hx hb dX9_isSign_61 (by decide) ?_
                      refine lv_icmp_ne (tgt := 70) hx hb dX9_isSign_63 (by decide) (fun c21 => ?_) (fun c21 => ?_)
                      · refine lv_iconst (v := 0) hx hb dX9_isSign_70 (by decide) ?_
                        exact h_iret hQ hx hb hr hlocks rfl hK hI ⟨rfl, rfl, rfl, (iv_w (lo' := 0) (hi' := 1) kc_0 (by decide) (by decide))⟩ dX9_isSign_71
                      · have i22 : iv p0 37 37 := iv_eq1 c21 (iv_any p0) kc_37
                        exact J66 H locs ls hI (lv_sub hl [] rfl)
abbrev e_h_isKept_X9 : List (Nat × Nat) := []
set_option maxHeartbeats 4000000 in
set_option maxRecDepth 100000 in
theorem h_isKept_X9 (l : Launch) (D : va_G) (g : Nat → ClassId) (σ : Nat → Option Nat) (Z : State → Heap → Prop) (hZ0 : hZ σ Z) (M : hM) (N : hN) (R : hR) (p0 : Int64) : Met l yX9_isKept wsX9_isKept ({ frames := 0, cells := 0, slots := 0, locals := 0 }) (va_Pc [.long p0] (hPre D g σ Z M N R)) (hQi D g σ e_h_isKept_X9 M (fun (r : Int32) (M1 : hM) (N1 : hN) (R1 : hR) => M = M1 ∧ N = N1 ∧ R = R1 ∧ iv r 0 1)) 0 0 (hA σ) := by
  refine h_head (cc := cX9_isKept) (maxL := 3) (ret := (some .boolean)) (by decide) rfl (Nat.le_of_ble_eq_true rfl) e_h_isKept_X9 ?_
  intro p e s m below meth c ls Q ar hQ hx hb hr hlocks hml hown hts hK hE H locs hI hl
  have hown : s.vm.findClass RX9 = some m.cls := hown
  have hl : lv_has ls 3 [(0, .long p0)] := hl
  refine lv_lload_n hx hb dX9_isKept_0 rfl (lv_at hl 0 rfl) ?_
  refine lv_ldc2 (v := 6513012) hx hb hown (hts (.constantLong RX9 158 (6513012)) (List.mem_of_getElem? (i := 1) rfl)) dX9_isKept_1 ?_
  refine W.lcmp hx hb dX9_isKept_4 ?_
  refine h_nm (iv_any _) (fun v1 e_v1 i_v1 => ?_)
  have J85 : ∀ (t0_85 : Int32) (H : Heap) (locs : List Loc) (ls : Array Slot), kI D g σ e_h_isKept_X9 M s.heap M N R H locs → lv_has ls 3 [(0, .long p0)] → iv t0_85 0 1 → W p l e (headSpec wsX9_isKept ({ frames := 0, cells := 0, slots := 0, locals := 0 })).room s m ar below meth c H locs 0 0 Q (F0 m 85 ls [.int t0_85]) := by
    intro t0_85 H locs ls hI hl i_t0_85
    refine lv_istore_n (lv' := [(2, .int t0_85), (0, .long p0)]) hx hb dX9_isKept_85 rfl hl (by decide) rfl (fun ls hl => ?_)
    refine lv_iload_n hx hb dX9_isKept_86 rfl (lv_at hl 0 rfl) ?_
    have J162 : ∀ (H : Heap) (locs : List Loc) (ls : Array Slot), kI D g σ e_h_isKept_X9 M s.heap M N R H locs → lv_has ls 3 [] → W p l e (headSpec wsX9_isKept ({ frames := 0, cells := 0, slots := 0, locals := 0 })).room s m ar below meth c H locs 0 0 Q (F0 m 162 ls []) := by
      intro H locs ls hI hl
      refine lv_iconst (v := 1) hx hb dX9_isKept_162 (by decide) ?_
      refine lv_goto (tgt := 167) hx hb dX9_isKept_163 (by decide) ?_
      exact h_iret hQ hx hb hr hlocks rfl hK hI ⟨rfl, rfl, rfl, (iv_w (lo' := 0) (hi' := 1) kc_1 (by decide) (by decide))⟩ dX9_isKept_167
    refine lv_if_ne (tgt := 162) hx hb dX9_isKept_87 (by decide) (fun c2 => ?_) (fun c2 => ?_)
    · have i3 : iv t0_85 1 1 := iv_neL c2 i_t0_85 (by decide) (by decide)
      exact J162 H locs ls hI (lv_sub hl [] rfl)
    · have i4 : iv t0_85 0 0 := iv_eq1 c2 i_t0_85 kc_0
      refine lv_lload_n hx hb dX9_isKept_90 rfl (lv_at hl 1 rfl) ?_
      refine lv_ldc2 (v := 465625113971) hx hb hown (hts (.constantLong RX9 178 (465625113971)) (List.mem_of_getElem? (i := 11) rfl)) dX9_isKept_91 ?_
      refine W.lcmp hx hb dX9_isKept_94 ?_
      refine h_nm (iv_any _) (fun v5 e_v5 i_v5 => ?_)
      refine lv_if_eq (tgt := 162) hx hb dX9_isKept_95 (by decide) (fun c6 => ?_) (fun c6 => ?_)
      · have i7 : iv v5 0 0 := iv_eq1 c6 (iv_any v5) kc_0
        exact J162 H locs ls hI (lv_sub hl [] rfl)
      · refine lv_lload_n hx hb dX9_isKept_98 rfl (lv_at hl 1 rfl) ?_
        refine lv_ldc2 (v := 1684628851) hx hb hown (hts (.constantLong RX9 180 (1684628851)) (List.mem_of_getElem? (i := 12) rfl)) dX9_isKept_99 ?_
        refine W.lcmp hx hb dX9_isKept_102 ?_
        refine h_nm (iv_any _) (fun v8 e_v8 i_v8 => ?_)
        refine lv_if_eq (tgt := 162) hx hb dX9_isKept_103 (by decide) (fun c9 => ?_) (fun c9 => ?_)
        · have i10 : iv v8 0 0 := iv_eq1 c9 (iv_any v8) kc_0
          exact J162 H locs ls hI (lv_sub hl [] rfl)
        · refine lv_lload_n hx hb dX9_isKept_106 rfl (lv_at hl 1 rfl) ?_
          refine lv_ldc2 (v := 1685217655) hx hb hown (hts (.constantLong RX9 182 (1685217655)) (List.mem_of_getElem? (i := 13) rfl)) dX9_isKept_107 ?_
          refine W.lcmp hx hb dX9_isKept_110 ?_
          refine h_nm (iv_any _) (fun v11 e_v11 i_v11 => ?_)
          refine lv_if_eq (tgt := 162) hx hb dX9_isKept_111 (by decide) (fun c12 => ?_) (fun c12 => ?_)
          · have i13 : iv v11 0 0 := iv_eq1 c12 (iv_any v11) kc_0
            exact J162 H locs ls hI (lv_sub hl [] rfl)
          · refine lv_lload_n hx hb dX9_isKept_114 rfl (lv_at hl 1 rfl) ?_
            refine lv_ldc2 (v := 126943688746340) hx hb hown (hts (.constantLong RX9 184 (126943688746340)) (List.mem_of_getElem? (i := 14) rfl)) dX9_isKept_115 ?_
            refine W.lcmp hx hb dX9_isKept_118 ?_
            refine h_nm (iv_any _) (fun v14 e_v14 i_v14 => ?_)
            refine lv_if_eq (tgt := 162) hx hb dX9_isKept_119 (by decide) (fun c15 => ?_) (fun c15 => ?_)
            · have i16 : iv v14 0 0 := iv_eq1 c15 (iv_any v14) kc_0
              exact J162 H locs ls hI (lv_sub hl [] rfl)
            · refine lv_lload_n hx hb dX9_isKept_122 rfl (lv_at hl 1 rfl) ?_
              refine lv_ldc2 (v := 491495845235) hx hb hown (hts (.constantLong RX9 186 (491495845235)) (List.mem_of_getElem? (i := 15) rfl)) dX9_isKept_123 ?_
              refine W.lcmp hx hb dX9_isKept_126 ?_
              refine h_nm (iv_any _) (fun v17 e_v17 i_v17 => ?_)
              refine lv_if_eq (tgt := 162) hx hb dX9_isKept_127 (by decide) (fun c18 => ?_) (fun c18 => ?_)
              · have i19 : iv v17 0 0 := iv_eq1 c18 (iv_any v17) kc_0
                exact J162 H locs ls hI (lv_sub hl [] rfl)
              · refine lv_lload_n hx hb dX9_isKept_130 rfl (lv_at hl 1 rfl) ?_
                refine lv_ldc2 (v := 31935733760812402) hx hb hown (hts (.constantLong RX9 188 (31935733760812402)) (List.mem_of_getElem? (i := 16) rfl)) dX9_isKept_131 ?_
                refine W.lcmp hx hb dX9_isKept_134 ?_
                refine h_nm (iv_any _) (fun v20 e_v20 i_v20 => ?_)
                refine lv_if_eq (tgt := 162) hx hb dX9_isKept_135 (by decide) (fun c21 => ?_) (fun c21 => ?_)
                · have i22 : iv v20 0 0 := iv_eq1 c21 (iv_any v20) kc_0
                  exact J162 H locs ls hI (lv_sub hl [] rfl)
                · refine lv_lload_n hx hb dX9_isKept_138 rfl (lv_at hl 1 rfl) ?_
                  refine lv_ldc2 (v := 28530) hx hb hown (hts (.constantLong RX9 190 (28530)) (List.mem_of_getElem? (i := 17) rfl)) dX9_isKept_139 ?_
                  refine W.lcmp hx hb dX9_isKept_142 ?_
                  refine h_nm (iv_any _) (fun v23 e_v23 i_v23 => ?_)
                  refine lv_if_eq (tgt := 162) hx hb dX9_isKept_143 (by decide) (fun c24 => ?_) (fun c24 => ?_)
                  · have i25 : iv v23 0 0 := iv_eq1 c24 (iv_any v23) kc_0
                    exact J162 H locs ls hI (lv_sub hl [] rfl)
                  · refine lv_lload_n hx hb dX9_isKept_146 rfl (lv_at hl 1 rfl) ?_
                    refine lv_ldc2 (v := 6385252) hx hb hown (hts (.constantLong RX9 192 (6385252)) (List.mem_of_getElem? (i := 18) rfl)) dX9_isKept_147 ?_
                    refine W.lcmp hx hb dX9_isKept_150 ?_
                    refine h_nm (iv_any _) (fun v26 e_v26 i_v26 => ?_)
                    refine lv_if_eq (tgt := 162) hx hb dX9_isKept_151 (by decide) (fun c27 => ?_) (fun c27 => ?_)
                    · have i28 : iv v26 0 0 := iv_eq1 c27 (iv_any v26) kc_0
                      exact J162 H locs ls hI (lv_sub hl [] rfl)
                    · refine lv_lload_n hx hb dX9_isKept_154 rfl (lv_at hl 1 rfl) ?_
                      refine lv_ldc2 (v := 7237492) hx hb hown (hts (.constantLong RX9 194 (7237492)) (List.mem_of_getElem? (i := 19) rfl)) dX9_isKept_155 ?_
                      refine W.lcmp hx hb dX9_isKept_158 ?_
                      refine h_nm (iv_any _) (fun v29 e_v29 i_v29 => ?_)
                      refine lv_if_ne (tgt := 166) hx hb dX9_isKept_159 (by decide) (fun c30 => ?_) (fun c30 => ?_)
                      · refine lv_iconst (v := 0) hx hb dX9_isKept_166 (by decide) ?_
                        exact h_iret hQ hx hb hr hlocks rfl hK hI ⟨rfl, rfl, rfl, (iv_w (lo' := 0) (hi' := 1) kc_0 (by decide) (by decide))⟩ dX9_isKept_167
                      · have i31 : iv v29 0 0 := iv_eq1 c30 (iv_any v29) kc_0
                        exact J162 H locs ls hI (lv_sub hl [] rfl)
  have J80 : ∀ (H : Heap) (locs : List Loc) (ls : Array Slot), kI D g σ e_h_isKept_X9 M s.heap M N R H locs → lv_has ls 3 [(0, .long p0)] → W p l e (headSpec wsX9_isKept ({ frames := 0, cells := 0, slots := 0, locals := 0 })).room s m ar below meth c H locs 0 0 Q (F0 m 80 ls []) := by
    intro H locs ls hI hl
    refine lv_iconst (v := 1) hx hb dX9_isKept_80 (by decide) ?_
    refine lv_goto (tgt := 85) hx hb dX9_isKept_81 (by decide) ?_
    exact J85 (1 : Int32) H locs ls hI hl (iv_w (lo' := 0) (hi' := 1) kc_1 (by decide) (by decide))
  refine lv_if_eq (tgt := 80) hx hb dX9_isKept_5 (by decide) (fun c32 => ?_) (fun c32 => ?_)
  · have i33 : iv v1 0 0 := iv_eq1 c32 (iv_any v1) kc_0
    exact J80 H locs ls hI hl
  · refine lv_lload_n hx hb dX9_isKept_8 rfl (lv_at hl 0 rfl) ?_
    refine lv_ldc2 (v := 512735736947) hx hb hown (hts (.constantLong RX9 160 (512735736947)) (List.mem_of_getElem? (i := 2) rfl)) dX9_isKept_9 ?_
    refine W.lcmp hx hb dX9_isKept_12 ?_
    refine h_nm (iv_any _) (fun v34 e_v34 i_v34 => ?_)
    refine lv_if_eq (tgt := 80) hx hb dX9_isKept_13 (by decide) (fun c35 => ?_) (fun c35 => ?_)
    · have i36 : iv v34 0 0 := iv_eq1 c35 (iv_any v34) kc_0
      exact J80 H locs ls hI hl
    · refine lv_lload_n hx hb dX9_isKept_16 rfl (lv_at hl 0 rfl) ?_
      refine lv_ldc2 (v := 1751476594) hx hb hown (hts (.constantLong RX9 162 (1751476594)) (List.mem_of_getElem? (i := 3) rfl)) dX9_isKept_17 ?_
      refine W.lcmp hx hb dX9_isKept_20 ?_
      refine h_nm (iv_any _) (fun v37 e_v37 i_v37 => ?_)
      refine lv_if_eq (tgt := 80) hx hb dX9_isKept_21 (by decide) (fun c38 => ?_) (fun c38 => ?_)
      · have i39 : iv v37 0 0 := iv_eq1 c38 (iv_any v37) kc_0
        exact J80 H locs ls hI hl
      · refine lv_lload_n hx hb dX9_isKept_24 rfl (lv_at hl 0 rfl) ?_
        refine lv_ldc2 (v := 1919905645) hx hb hown (hts (.constantLong RX9 164 (1919905645)) (List.mem_of_getElem? (i := 4) rfl)) dX9_isKept_25 ?_
        refine W.lcmp hx hb dX9_isKept_28 ?_
        refine h_nm (iv_any _) (fun v40 e_v40 i_v40 => ?_)
        refine lv_if_eq (tgt := 80) hx hb dX9_isKept_29 (by decide) (fun c41 => ?_) (fun c41 => ?_)
        · have i42 : iv v40 0 0 := iv_eq1 c41 (iv_any v40) kc_0
          exact J80 H locs ls hI hl
        · refine lv_lload_n hx hb dX9_isKept_32 rfl (lv_at hl 0 rfl) ?_
          refine lv_ldc2 (v := 28518) hx hb hown (hts (.constantLong RX9 166 (28518)) (List.mem_of_getElem? (i := 5) rfl)) dX9_isKept_33 ?_
          refine W.lcmp hx hb dX9_isKept_36 ?_
          refine h_nm (iv_any _) (fun v43 e_v43 i_v43 => ?_)
          refine lv_if_eq (tgt := 80) hx hb dX9_isKept_37 (by decide) (fun c44 => ?_) (fun c44 => ?_)
          · have i45 : iv v43 0 0 := iv_eq1 c44 (iv_any v43) kc_0
            exact J80 H locs ls hI hl
          · refine lv_lload_n hx hb dX9_isKept_40 rfl (lv_at hl 0 rfl) ?_
            refine lv_ldc2 (v := 127978992397940) hx hb hown (hts (.constantLong RX9 168 (127978992397940)) (List.mem_of_getElem? (i := 6) rfl)) dX9_isKept_41 ?_
            refine W.lcmp hx hb dX9_isKept_44 ?_
            refine h_nm (iv_any _) (fun v46 e_v46 i_v46 => ?_)
            refine lv_if_eq (tgt := 80) hx hb dX9_isKept_45 (by decide) (fun c47 => ?_) (fun c47 => ?_)
            · have i48 : iv v46 0 0 := iv_eq1 c47 (iv_any v46) kc_0
              exact J80 H locs ls hI hl
            · refine lv_lload_n hx hb dX9_isKept_48 rfl (lv_at hl 0 rfl) ?_
              refine lv_ldc2 (v := 448546566771) hx hb hown (hts (.constantLong RX9 170 (448546566771)) (List.mem_of_getElem? (i := 7) rfl)) dX9_isKept_49 ?_
              refine W.lcmp hx hb dX9_isKept_52 ?_
              refine h_nm (iv_any _) (fun v49 e_v49 i_v49 => ?_)
              refine lv_if_eq (tgt := 80) hx hb dX9_isKept_53 (by decide) (fun c50 => ?_) (fun c50 => ?_)
              · have i51 : iv v49 0 0 := iv_eq1 c50 (iv_any v49) kc_0
                exact J80 H locs ls hI hl
              · refine lv_lload_n hx hb dX9_isKept_56 rfl (lv_at hl 0 rfl) ?_
                refine lv_ldc2 (v := 2002874989) hx hb hown (hts (.constantLong RX9 172 (2002874989)) (List.mem_of_getElem? (i := 8) rfl)) dX9_isKept_57 ?_
                refine W.lcmp hx hb dX9_isKept_60 ?_
                refine h_nm (iv_any _) (fun v52 e_v52 i_v52 => ?_)
                refine lv_if_eq (tgt := 80) hx hb dX9_isKept_61 (by decide) (fun c53 => ?_) (fun c53 => ?_)
                · have i54 : iv v52 0 0 := iv_eq1 c53 (iv_any v52) kc_0
                  exact J80 H locs ls hI hl
                · refine lv_lload_n hx hb dX9_isKept_64 rfl (lv_at hl 0 rfl) ?_
                  refine lv_ldc2 (v := 28826327576835187) hx hb hown (hts (.constantLong RX9 174 (28826327576835187)) (List.mem_of_getElem? (i := 9) rfl)) dX9_isKept_65 ?_
                  refine W.lcmp hx hb dX9_isKept_68 ?_
                  refine h_nm (iv_any _) (fun v55 e_v55 i_v55 => ?_)
                  refine lv_if_eq (tgt := 80) hx hb dX9_isKept_69 (by decide) (fun c56 => ?_) (fun c56 => ?_)
                  · have i57 : iv v55 0 0 := iv_eq1 c56 (iv_any v55) kc_0
                    exact J80 H locs ls hI hl
                  · refine lv_lload_n hx hb dX9_isKept_72 rfl (lv_at hl 0 rfl) ?_
                    refine lv_ldc2 (v := 26990) hx hb hown (hts (.constantLong RX9 176 (26990)) (List.mem_of_getElem? (i := 10) rfl)) dX9_isKept_73 ?_
                    refine W.lcmp hx hb dX9_isKept_76 ?_
                    refine h_nm (iv_any _) (fun v58 e_v58 i_v58 => ?_)
                    refine lv_if_ne (tgt := 84) hx hb dX9_isKept_77 (by decide) (fun c59 => ?_) (fun c59 => ?_)
                    · refine lv_iconst (v := 0) hx hb dX9_isKept_84 (by decide) ?_
                      exact J85 (0 : Int32) H locs ls hI hl (iv_w (lo' := 0) (hi' := 1) kc_0 (by decide) (by decide))
                    · have i60 : iv v58 0 0 := iv_eq1 c59 (iv_any v58) kc_0
                      exact J80 H locs ls hI hl
abbrev e_h_isIn_X9 : List (Nat × Nat) := []
set_option maxHeartbeats 4000000 in
set_option maxRecDepth 100000 in
theorem h_isIn_X9 (l : Launch) (D : va_G) (g : Nat → ClassId) (σ : Nat → Option Nat) (Z : State → Heap → Prop) (hZ0 : hZ σ Z) (M : hM) (N : hN) (R : hR) (p0 : Int32) (p1 : Int32) (p2 : Int32) : Met l yX9_isIn wsX9_isIn ({ frames := 0, cells := 0, slots := 0, locals := 0 }) (va_Pc [.int p0, .int p1, .int p2] (hPre D g σ Z M N R)) (hQi D g σ e_h_isIn_X9 M (fun (r : Int32) (M1 : hM) (N1 : hN) (R1 : hR) => M = M1 ∧ N = N1 ∧ R = R1 ∧ iv r 0 1 ∧ (¬ r = 0 → p1 ≤ p0 ∧ p0 ≤ p2))) 0 0 (hA σ) := by
  refine h_head (cc := cX9_isIn) (maxL := 3) (ret := (some .boolean)) (by decide) rfl (Nat.le_of_ble_eq_true rfl) e_h_isIn_X9 ?_
  intro p e s m below meth c ls Q ar hQ hx hb hr hlocks hml hown hts hK hE H locs hI hl
  have hown : s.vm.findClass RX9 = some m.cls := hown
  have hl : lv_has ls 3 [(0, .int p0), (1, .int p1), (2, .int p2)] := hl
  refine lv_iload_n hx hb dX9_isIn_0 rfl (lv_at hl 0 rfl) ?_
  refine lv_iload_n hx hb dX9_isIn_1 rfl (lv_at hl 1 rfl) ?_
  refine lv_icmp_lt (tgt := 14) hx hb dX9_isIn_2 (by decide) (fun c1 => ?_) (fun c1 => ?_)
  · have i2 : iv p0 (-2147483648) 2147483646 := iv_lt1 c1 (iv_any p0) (iv_any p1) (by decide)
    have i3 : iv p1 (-2147483647) 2147483647 := iv_lt2 c1 (iv_any p0) (iv_any p1) (by decide)
    refine lv_iconst (v := 0) hx hb dX9_isIn_14 (by decide) ?_
    exact h_iret hQ hx hb hr hlocks rfl hK hI ⟨rfl, rfl, rfl, (iv_w (lo' := 0) (hi' := 1) kc_0 (by decide) (by decide)), (fun h9 => absurd rfl h9)⟩ dX9_isIn_15
  · refine lv_iload_n hx hb dX9_isIn_5 rfl (lv_at hl 0 rfl) ?_
    refine lv_iload_n hx hb dX9_isIn_6 rfl (lv_at hl 2 rfl) ?_
    refine lv_icmp_gt (tgt := 14) hx hb dX9_isIn_7 (by decide) (fun c4 => ?_) (fun c4 => ?_)
    · have i5 : iv p2 (-2147483648) 2147483646 := iv_lt1 c4 (iv_any p2) (iv_any p0) (by decide)
      have i6 : iv p0 (-2147483647) 2147483647 := iv_lt2 c4 (iv_any p2) (iv_any p0) (by decide)
      refine lv_iconst (v := 0) hx hb dX9_isIn_14 (by decide) ?_
      exact h_iret hQ hx hb hr hlocks rfl hK hI ⟨rfl, rfl, rfl, (iv_w (lo' := 0) (hi' := 1) kc_0 (by decide) (by decide)), (fun h9 => absurd rfl h9)⟩ dX9_isIn_15
    · refine lv_iconst (v := 1) hx hb dX9_isIn_10 (by decide) ?_
      refine lv_goto (tgt := 15) hx hb dX9_isIn_11 (by decide) ?_
      exact h_iret hQ hx hb hr hlocks rfl hK hI ⟨rfl, rfl, rfl, (iv_w (lo' := 0) (hi' := 1) kc_1 (by decide) (by decide)), (fun _ => ⟨(Int32.not_lt.mp c1), (Int32.not_lt.mp c4)⟩)⟩ dX9_isIn_15
abbrev e_h_bit_X9 : List (Nat × Nat) := []
set_option maxHeartbeats 4000000 in
set_option maxRecDepth 100000 in
theorem h_bit_X9 (l : Launch) (D : va_G) (g : Nat → ClassId) (σ : Nat → Option Nat) (Z : State → Heap → Prop) (hZ0 : hZ σ Z) (M : hM) (N : hN) (R : hR) (p0 : Int32) (p1 : Int32) : Met l yX9_bit wsX9_bit ({ frames := 0, cells := 0, slots := 0, locals := 0 }) (va_Pc [.int p0, .int p1] (hPre D g σ Z M N R)) (hQi D g σ e_h_bit_X9 M (fun (r : Int32) (M1 : hM) (N1 : hN) (R1 : hR) => M = M1 ∧ N = N1 ∧ R = R1 ∧ iv r 0 1 ∧ (¬ r = 0 → (p0 >>> (p1 &&& 31)) &&& 1 = 1))) 0 0 (hA σ) := by
  refine h_head (cc := cX9_bit) (maxL := 2) (ret := (some .boolean)) (by decide) rfl (Nat.le_of_ble_eq_true rfl) e_h_bit_X9 ?_
  intro p e s m below meth c ls Q ar hQ hx hb hr hlocks hml hown hts hK hE H locs hI hl
  have hown : s.vm.findClass RX9 = some m.cls := hown
  have hl : lv_has ls 2 [(0, .int p0), (1, .int p1)] := hl
  refine lv_iload_n hx hb dX9_bit_0 rfl (lv_at hl 0 rfl) ?_
  refine lv_iload_n hx hb dX9_bit_1 rfl (lv_at hl 1 rfl) ?_
  refine lv_ishr hx hb dX9_bit_2 ?_
  refine h_nm (lo := (-2147483648)) (hi := 2147483647) (iv_any _) (fun v1 e_v1 i_v1 => ?_)
  refine lv_iconst (v := 1) hx hb dX9_bit_3 (by decide) ?_
  refine lv_iand hx hb dX9_bit_4 ?_
  refine h_nm (lo := 0) (hi := 1) (iv_and 1 (by decide) (by decide) (by decide)) (fun v2 e_v2 i_v2 => ?_)
  refine lv_iconst (v := 1) hx hb dX9_bit_5 (by decide) ?_
  refine lv_icmp_ne (tgt := 13) hx hb dX9_bit_6 (by decide) (fun c3 => ?_) (fun c3 => ?_)
  · have i4 : iv v2 0 0 := iv_neH c3 i_v2 (by decide) (by decide)
    refine lv_iconst (v := 0) hx hb dX9_bit_13 (by decide) ?_
    exact h_iret hQ hx hb hr hlocks rfl hK hI ⟨rfl, rfl, rfl, (iv_w (lo' := 0) (hi' := 1) kc_0 (by decide) (by decide)), (fun h9 => absurd rfl h9)⟩ dX9_bit_14
  · have i5 : iv v2 1 1 := iv_eq1 c3 i_v2 kc_1
    refine lv_iconst (v := 1) hx hb dX9_bit_9 (by decide) ?_
    refine lv_goto (tgt := 14) hx hb dX9_bit_10 (by decide) ?_
    exact h_iret hQ hx hb hr hlocks rfl hK hI ⟨rfl, rfl, rfl, (iv_w (lo' := 0) (hi' := 1) kc_1 (by decide) (by decide)), (fun _ => by rw [← e_v1, ← e_v2]; exact c3)⟩ dX9_bit_14
abbrev e_h_held_X9 : List (Nat × Nat) := []
set_option maxHeartbeats 4000000 in
set_option maxRecDepth 100000 in
theorem h_held_X9 (l : Launch) (D : va_G) (g : Nat → ClassId) (σ : Nat → Option Nat) (Z : State → Heap → Prop) (hZ0 : hZ σ Z) (M : hM) (N : hN) (R : hR) (p0 : Int32) : Met l yX9_held wsX9_held ({ frames := 0, cells := 0, slots := 0, locals := 0 }) (va_Pc [.int p0] (hPre D g σ Z M N R)) (hQi D g σ e_h_held_X9 M (fun (r : Int32) (M1 : hM) (N1 : hN) (R1 : hR) => M = M1 ∧ N = N1 ∧ R = R1 ∧ iv r (-9999) 9999)) 0 0 (hA σ) := by
  refine h_head (cc := cX9_held) (maxL := 1) (ret := (some .int)) (by decide) rfl (Nat.le_of_ble_eq_true rfl) e_h_held_X9 ?_
  intro p e s m below meth c ls Q ar hQ hx hb hr hlocks hml hown hts hK hE H locs hI hl
  have hown : s.vm.findClass RX9 = some m.cls := hown
  have hl : lv_has ls 1 [(0, .int p0)] := hl
  refine lv_iload_n hx hb dX9_held_0 rfl (lv_at hl 0 rfl) ?_
  refine lv_sipush (v := (-9999)) hx hb dX9_held_1 (by decide) ?_
  refine lv_icmp_ge (tgt := 13) hx hb dX9_held_4 (by decide) (fun c1 => ?_) (fun c1 => ?_)
  · have i2 : iv p0 (-9999) 2147483647 := iv_le2 c1 kc_m9999 (iv_any p0) (by decide)
    refine lv_iload_n hx hb dX9_held_13 rfl (lv_at hl 0 rfl) ?_
    refine lv_sipush (v := 9999) hx hb dX9_held_14 (by decide) ?_
    refine lv_icmp_le (tgt := 26) hx hb dX9_held_17 (by decide) (fun c3 => ?_) (fun c3 => ?_)
    · have i4 : iv p0 (-9999) 9999 := iv_le1 c3 i2 kc_9999 (by decide)
      refine lv_iload_n hx hb dX9_held_26 rfl (lv_at hl 0 rfl) ?_
      exact h_iret hQ hx hb hr hlocks rfl hK hI ⟨rfl, rfl, rfl, i4⟩ dX9_held_27
    · have i5 : iv p0 10000 2147483647 := iv_nle1 c3 i2 kc_9999 (by decide)
      refine lv_sipush (v := 9999) hx hb dX9_held_20 (by decide) ?_
      refine lv_goto (tgt := 27) hx hb dX9_held_23 (by decide) ?_
      exact h_iret hQ hx hb hr hlocks rfl hK hI ⟨rfl, rfl, rfl, (iv_w (lo' := (-9999)) (hi' := 9999) kc_9999 (by decide) (by decide))⟩ dX9_held_27
  · have i6 : iv p0 (-2147483648) (-10000) := iv_nle2 c1 kc_m9999 (iv_any p0) (by decide)
    refine lv_sipush (v := (-9999)) hx hb dX9_held_7 (by decide) ?_
    refine lv_goto (tgt := 27) hx hb dX9_held_10 (by decide) ?_
    exact h_iret hQ hx hb hr hlocks rfl hK hI ⟨rfl, rfl, rfl, (iv_w (lo' := (-9999)) (hi' := 9999) kc_m9999 (by decide) (by decide))⟩ dX9_held_27
abbrev e_h_two_X9 : List (Nat × Nat) := []
set_option maxHeartbeats 4000000 in
set_option maxRecDepth 100000 in
theorem h_two_X9 (l : Launch) (D : va_G) (g : Nat → ClassId) (σ : Nat → Option Nat) (Z : State → Heap → Prop) (hZ0 : hZ σ Z) (M : hM) (N : hN) (R : hR) (p0 : Int32) (p1 : Int32) (p2 : Int32) : Met l yX9_two wsX9_two ({ frames := 0, cells := 0, slots := 0, locals := 0 }) (va_Pc [.int p0, .int p1, .int p2] (hPre D g σ Z M N R)) (hQi D g σ e_h_two_X9 M (fun (r : Int32) (M1 : hM) (N1 : hN) (R1 : hR) => M = M1 ∧ N = N1 ∧ R = R1)) 0 0 (hA σ) := by
  refine h_head (cc := cX9_two) (maxL := 3) (ret := (some .int)) (by decide) rfl (Nat.le_of_ble_eq_true rfl) e_h_two_X9 ?_
  intro p e s m below meth c ls Q ar hQ hx hb hr hlocks hml hown hts hK hE H locs hI hl
  have hown : s.vm.findClass RX9 = some m.cls := hown
  have hl : lv_has ls 3 [(0, .int p0), (1, .int p1), (2, .int p2)] := hl
  refine lv_iload_n hx hb dX9_two_0 rfl (lv_at hl 0 rfl) ?_
  by_cases c1 : p0 = 37
  · refine lv_tableIn (tgt := 144) hx hb dX9_two_1 (by rw [c1]; decide) (by rw [c1]; decide) (by rw [c1] <;> rfl) (by decide) ?_
    have i2 : iv p0 37 37 := iv_eq1 c1 (iv_any p0) kc_37
    refine lv_iload_n hx hb dX9_two_144 rfl (lv_at hl 2 rfl) ?_
    refine lv_if_ne (tgt := 152) hx hb dX9_two_145 (by decide) (fun c3 => ?_) (fun c3 => ?_)
    · refine lv_iload_n hx hb dX9_two_152 rfl (lv_at hl 1 rfl) ?_
      refine lv_iload_n hx hb dX9_two_153 rfl (lv_at hl 2 rfl) ?_
      refine lv_irem hx hb dX9_two_154 c3 ?_
      refine h_nm (lo := (-2147483648)) (hi := 2147483647) (iv_any _) (fun v4 e_v4 i_v4 => ?_)
      exact h_iret hQ hx hb hr hlocks rfl hK hI ⟨rfl, rfl, rfl⟩ dX9_two_155
    · have i5 : iv p2 0 0 := iv_eq1 c3 (iv_any p2) kc_0
      refine lv_iconst (v := 0) hx hb dX9_two_148 (by decide) ?_
      refine lv_goto (tgt := 155) hx hb dX9_two_149 (by decide) ?_
      exact h_iret hQ hx hb hr hlocks rfl hK hI ⟨rfl, rfl, rfl⟩ dX9_two_155
  by_cases c6 : p0 = 38
  · refine lv_tableIn (tgt := 189) hx hb dX9_two_1 (by rw [c6]; decide) (by rw [c6]; decide) (by rw [c6] <;> rfl) (by decide) ?_
    have i7 : iv p0 38 38 := iv_eq1 c6 (iv_any p0) kc_38
    refine lv_iload_n hx hb dX9_two_189 rfl (lv_at hl 1 rfl) ?_
    refine lv_if_eq (tgt := 201) hx hb dX9_two_190 (by decide) (fun c8 => ?_) (fun c8 => ?_)
    · have i9 : iv p1 0 0 := iv_eq1 c8 (iv_any p1) kc_0
      refine lv_iconst (v := 0) hx hb dX9_two_201 (by decide) ?_
      exact h_iret hQ hx hb hr hlocks rfl hK hI ⟨rfl, rfl, rfl⟩ dX9_two_202
    · refine lv_iload_n hx hb dX9_two_193 rfl (lv_at hl 2 rfl) ?_
      refine lv_if_eq (tgt := 201) hx hb dX9_two_194 (by decide) (fun c10 => ?_) (fun c10 => ?_)
      · have i11 : iv p2 0 0 := iv_eq1 c10 (iv_any p2) kc_0
        refine lv_iconst (v := 0) hx hb dX9_two_201 (by decide) ?_
        exact h_iret hQ hx hb hr hlocks rfl hK hI ⟨rfl, rfl, rfl⟩ dX9_two_202
      · refine lv_iconst (v := 1) hx hb dX9_two_197 (by decide) ?_
        refine lv_goto (tgt := 202) hx hb dX9_two_198 (by decide) ?_
        exact h_iret hQ hx hb hr hlocks rfl hK hI ⟨rfl, rfl, rfl⟩ dX9_two_202
  by_cases c12 : p0 = 39
  · refine lv_tableIn (tgt := 203) hx hb dX9_two_1 (by rw [c12]; decide) (by rw [c12]; decide) (by rw [c12] <;> rfl) (by decide) ?_
    have i13 : iv p0 39 39 := iv_eq1 c12 (iv_any p0) kc_39
    refine lv_iload_n hx hb dX9_two_203 rfl (lv_at hl 1 rfl) ?_
    have J211 : ∀ (H : Heap) (locs : List Loc) (ls : Array Slot), kI D g σ e_h_two_X9 M s.heap M N R H locs → lv_has ls 3 [] → W p l e (headSpec wsX9_two ({ frames := 0, cells := 0, slots := 0, locals := 0 })).room s m ar below meth c H locs 0 0 Q (F0 m 211 ls []) := by
      intro H locs ls hI hl
      refine lv_iconst (v := 1) hx hb dX9_two_211 (by decide) ?_
      refine lv_goto (tgt := 216) hx hb dX9_two_212 (by decide) ?_
      exact h_iret hQ hx hb hr hlocks rfl hK hI ⟨rfl, rfl, rfl⟩ dX9_two_216
    refine lv_if_ne (tgt := 211) hx hb dX9_two_204 (by decide) (fun c14 => ?_) (fun c14 => ?_)
    · exact J211 H locs ls hI (lv_sub hl [] rfl)
    · have i15 : iv p1 0 0 := iv_eq1 c14 (iv_any p1) kc_0
      refine lv_iload_n hx hb dX9_two_207 rfl (lv_at hl 2 rfl) ?_
      refine lv_if_eq (tgt := 215) hx hb dX9_two_208 (by decide) (fun c16 => ?_) (fun c16 => ?_)
      · have i17 : iv p2 0 0 := iv_eq1 c16 (iv_any p2) kc_0
        refine lv_iconst (v := 0) hx hb dX9_two_215 (by decide) ?_
        exact h_iret hQ hx hb hr hlocks rfl hK hI ⟨rfl, rfl, rfl⟩ dX9_two_216
      · exact J211 H locs ls hI (lv_sub hl [] rfl)
  by_cases c18 : p0 = 40
  · refine lv_tableIn (tgt := 203) hx hb dX9_two_1 (by rw [c18]; decide) (by rw [c18]; decide) (by rw [c18] <;> rfl) (by decide) ?_
    have i19 : iv p0 40 40 := iv_eq1 c18 (iv_any p0) kc_40
    refine lv_iload_n hx hb dX9_two_203 rfl (lv_at hl 1 rfl) ?_
    have J211 : ∀ (H : Heap) (locs : List Loc) (ls : Array Slot), kI D g σ e_h_two_X9 M s.heap M N R H locs → lv_has ls 3 [] → W p l e (headSpec wsX9_two ({ frames := 0, cells := 0, slots := 0, locals := 0 })).room s m ar below meth c H locs 0 0 Q (F0 m 211 ls []) := by
      intro H locs ls hI hl
      refine lv_iconst (v := 1) hx hb dX9_two_211 (by decide) ?_
      refine lv_goto (tgt := 216) hx hb dX9_two_212 (by decide) ?_
      exact h_iret hQ hx hb hr hlocks rfl hK hI ⟨rfl, rfl, rfl⟩ dX9_two_216
    refine lv_if_ne (tgt := 211) hx hb dX9_two_204 (by decide) (fun c20 => ?_) (fun c20 => ?_)
    · exact J211 H locs ls hI (lv_sub hl [] rfl)
    · have i21 : iv p1 0 0 := iv_eq1 c20 (iv_any p1) kc_0
      refine lv_iload_n hx hb dX9_two_207 rfl (lv_at hl 2 rfl) ?_
      refine lv_if_eq (tgt := 215) hx hb dX9_two_208 (by decide) (fun c22 => ?_) (fun c22 => ?_)
      · have i23 : iv p2 0 0 := iv_eq1 c22 (iv_any p2) kc_0
        refine lv_iconst (v := 0) hx hb dX9_two_215 (by decide) ?_
        exact h_iret hQ hx hb hr hlocks rfl hK hI ⟨rfl, rfl, rfl⟩ dX9_two_216
      · exact J211 H locs ls hI (lv_sub hl [] rfl)
  by_cases c24 : p0 = 41
  · refine lv_tableIn (tgt := 203) hx hb dX9_two_1 (by rw [c24]; decide) (by rw [c24]; decide) (by rw [c24] <;> rfl) (by decide) ?_
    have i25 : iv p0 41 41 := iv_eq1 c24 (iv_any p0) kc_41
    refine lv_iload_n hx hb dX9_two_203 rfl (lv_at hl 1 rfl) ?_
    have J211 : ∀ (H : Heap) (locs : List Loc) (ls : Array Slot), kI D g σ e_h_two_X9 M s.heap M N R H locs → lv_has ls 3 [] → W p l e (headSpec wsX9_two ({ frames := 0, cells := 0, slots := 0, locals := 0 })).room s m ar below meth c H locs 0 0 Q (F0 m 211 ls []) := by
      intro H locs ls hI hl
      refine lv_iconst (v := 1) hx hb dX9_two_211 (by decide) ?_
      refine lv_goto (tgt := 216) hx hb dX9_two_212 (by decide) ?_
      exact h_iret hQ hx hb hr hlocks rfl hK hI ⟨rfl, rfl, rfl⟩ dX9_two_216
    refine lv_if_ne (tgt := 211) hx hb dX9_two_204 (by decide) (fun c26 => ?_) (fun c26 => ?_)
    · exact J211 H locs ls hI (lv_sub hl [] rfl)
    · have i27 : iv p1 0 0 := iv_eq1 c26 (iv_any p1) kc_0
      refine lv_iload_n hx hb dX9_two_207 rfl (lv_at hl 2 rfl) ?_
      refine lv_if_eq (tgt := 215) hx hb dX9_two_208 (by decide) (fun c28 => ?_) (fun c28 => ?_)
      · have i29 : iv p2 0 0 := iv_eq1 c28 (iv_any p2) kc_0
        refine lv_iconst (v := 0) hx hb dX9_two_215 (by decide) ?_
        exact h_iret hQ hx hb hr hlocks rfl hK hI ⟨rfl, rfl, rfl⟩ dX9_two_216
      · exact J211 H locs ls hI (lv_sub hl [] rfl)
  by_cases c30 : p0 = 42
  · refine lv_tableIn (tgt := 128) hx hb dX9_two_1 (by rw [c30]; decide) (by rw [c30]; decide) (by rw [c30] <;> rfl) (by decide) ?_
    have i31 : iv p0 42 42 := iv_eq1 c30 (iv_any p0) kc_42
    refine lv_iload_n hx hb dX9_two_128 rfl (lv_at hl 1 rfl) ?_
    refine lv_iload_n hx hb dX9_two_129 rfl (lv_at hl 2 rfl) ?_
    refine lv_imul hx hb dX9_two_130 ?_
    refine h_nm (lo := (-2147483648)) (hi := 2147483647) (iv_any _) (fun v32 e_v32 i_v32 => ?_)
    exact h_iret hQ hx hb hr hlocks rfl hK hI ⟨rfl, rfl, rfl⟩ dX9_two_131
  by_cases c33 : p0 = 43
  · refine lv_tableIn (tgt := 120) hx hb dX9_two_1 (by rw [c33]; decide) (by rw [c33]; decide) (by rw [c33] <;> rfl) (by decide) ?_
    have i34 : iv p0 43 43 := iv_eq1 c33 (iv_any p0) kc_43
    refine lv_iload_n hx hb dX9_two_120 rfl (lv_at hl 1 rfl) ?_
    refine lv_iload_n hx hb dX9_two_121 rfl (lv_at hl 2 rfl) ?_
    refine lv_iadd hx hb dX9_two_122 ?_
    refine h_nm (lo := (-2147483648)) (hi := 2147483647) (iv_any _) (fun v35 e_v35 i_v35 => ?_)
    exact h_iret hQ hx hb hr hlocks rfl hK hI ⟨rfl, rfl, rfl⟩ dX9_two_123
  by_cases c36 : p0 = 44
  · refine lv_tableIn (tgt := 203) hx hb dX9_two_1 (by rw [c36]; decide) (by rw [c36]; decide) (by rw [c36] <;> rfl) (by decide) ?_
    have i37 : iv p0 44 44 := iv_eq1 c36 (iv_any p0) kc_44
    refine lv_iload_n hx hb dX9_two_203 rfl (lv_at hl 1 rfl) ?_
    have J211 : ∀ (H : Heap) (locs : List Loc) (ls : Array Slot), kI D g σ e_h_two_X9 M s.heap M N R H locs → lv_has ls 3 [] → W p l e (headSpec wsX9_two ({ frames := 0, cells := 0, slots := 0, locals := 0 })).room s m ar below meth c H locs 0 0 Q (F0 m 211 ls []) := by
      intro H locs ls hI hl
      refine lv_iconst (v := 1) hx hb dX9_two_211 (by decide) ?_
      refine lv_goto (tgt := 216) hx hb dX9_two_212 (by decide) ?_
      exact h_iret hQ hx hb hr hlocks rfl hK hI ⟨rfl, rfl, rfl⟩ dX9_two_216
    refine lv_if_ne (tgt := 211) hx hb dX9_two_204 (by decide) (fun c38 => ?_) (fun c38 => ?_)
    · exact J211 H locs ls hI (lv_sub hl [] rfl)
    · have i39 : iv p1 0 0 := iv_eq1 c38 (iv_any p1) kc_0
      refine lv_iload_n hx hb dX9_two_207 rfl (lv_at hl 2 rfl) ?_
      refine lv_if_eq (tgt := 215) hx hb dX9_two_208 (by decide) (fun c40 => ?_) (fun c40 => ?_)
      · have i41 : iv p2 0 0 := iv_eq1 c40 (iv_any p2) kc_0
        refine lv_iconst (v := 0) hx hb dX9_two_215 (by decide) ?_
        exact h_iret hQ hx hb hr hlocks rfl hK hI ⟨rfl, rfl, rfl⟩ dX9_two_216
      · exact J211 H locs ls hI (lv_sub hl [] rfl)
  by_cases c42 : p0 = 45
  · refine lv_tableIn (tgt := 124) hx hb dX9_two_1 (by rw [c42]; decide) (by rw [c42]; decide) (by rw [c42] <;> rfl) (by decide) ?_
    have i43 : iv p0 45 45 := iv_eq1 c42 (iv_any p0) kc_45
    refine lv_iload_n hx hb dX9_two_124 rfl (lv_at hl 1 rfl) ?_
    refine lv_iload_n hx hb dX9_two_125 rfl (lv_at hl 2 rfl) ?_
    refine lv_isub hx hb dX9_two_126 ?_
    refine h_nm (lo := (-2147483648)) (hi := 2147483647) (iv_any _) (fun v44 e_v44 i_v44 => ?_)
    exact h_iret hQ hx hb hr hlocks rfl hK hI ⟨rfl, rfl, rfl⟩ dX9_two_127
  by_cases c45 : p0 = 46
  · refine lv_tableIn (tgt := 203) hx hb dX9_two_1 (by rw [c45]; decide) (by rw [c45]; decide) (by rw [c45] <;> rfl) (by decide) ?_
    have i46 : iv p0 46 46 := iv_eq1 c45 (iv_any p0) kc_46
    refine lv_iload_n hx hb dX9_two_203 rfl (lv_at hl 1 rfl) ?_
    have J211 : ∀ (H : Heap) (locs : List Loc) (ls : Array Slot), kI D g σ e_h_two_X9 M s.heap M N R H locs → lv_has ls 3 [] → W p l e (headSpec wsX9_two ({ frames := 0, cells := 0, slots := 0, locals := 0 })).room s m ar below meth c H locs 0 0 Q (F0 m 211 ls []) := by
      intro H locs ls hI hl
      refine lv_iconst (v := 1) hx hb dX9_two_211 (by decide) ?_
      refine lv_goto (tgt := 216) hx hb dX9_two_212 (by decide) ?_
      exact h_iret hQ hx hb hr hlocks rfl hK hI ⟨rfl, rfl, rfl⟩ dX9_two_216
    refine lv_if_ne (tgt := 211) hx hb dX9_two_204 (by decide) (fun c47 => ?_) (fun c47 => ?_)
    · exact J211 H locs ls hI (lv_sub hl [] rfl)
    · have i48 : iv p1 0 0 := iv_eq1 c47 (iv_any p1) kc_0
      refine lv_iload_n hx hb dX9_two_207 rfl (lv_at hl 2 rfl) ?_
      refine lv_if_eq (tgt := 215) hx hb dX9_two_208 (by decide) (fun c49 => ?_) (fun c49 => ?_)
      · have i50 : iv p2 0 0 := iv_eq1 c49 (iv_any p2) kc_0
        refine lv_iconst (v := 0) hx hb dX9_two_215 (by decide) ?_
        exact h_iret hQ hx hb hr hlocks rfl hK hI ⟨rfl, rfl, rfl⟩ dX9_two_216
      · exact J211 H locs ls hI (lv_sub hl [] rfl)
  by_cases c51 : p0 = 47
  · refine lv_tableIn (tgt := 132) hx hb dX9_two_1 (by rw [c51]; decide) (by rw [c51]; decide) (by rw [c51] <;> rfl) (by decide) ?_
    have i52 : iv p0 47 47 := iv_eq1 c51 (iv_any p0) kc_47
    refine lv_iload_n hx hb dX9_two_132 rfl (lv_at hl 2 rfl) ?_
    refine lv_if_ne (tgt := 140) hx hb dX9_two_133 (by decide) (fun c53 => ?_) (fun c53 => ?_)
    · refine lv_iload_n hx hb dX9_two_140 rfl (lv_at hl 1 rfl) ?_
      refine lv_iload_n hx hb dX9_two_141 rfl (lv_at hl 2 rfl) ?_
      refine lv_idiv hx hb dX9_two_142 c53 ?_
      refine h_nm (lo := (-2147483648)) (hi := 2147483647) (iv_any _) (fun v54 e_v54 i_v54 => ?_)
      exact h_iret hQ hx hb hr hlocks rfl hK hI ⟨rfl, rfl, rfl⟩ dX9_two_143
    · have i55 : iv p2 0 0 := iv_eq1 c53 (iv_any p2) kc_0
      refine lv_iconst (v := 0) hx hb dX9_two_136 (by decide) ?_
      refine lv_goto (tgt := 143) hx hb dX9_two_137 (by decide) ?_
      exact h_iret hQ hx hb hr hlocks rfl hK hI ⟨rfl, rfl, rfl⟩ dX9_two_143
  by_cases c56 : p0 = 48
  · refine lv_tableIn (tgt := 203) hx hb dX9_two_1 (by rw [c56]; decide) (by rw [c56]; decide) (by rw [c56] <;> rfl) (by decide) ?_
    have i57 : iv p0 48 48 := iv_eq1 c56 (iv_any p0) kc_48
    refine lv_iload_n hx hb dX9_two_203 rfl (lv_at hl 1 rfl) ?_
    have J211 : ∀ (H : Heap) (locs : List Loc) (ls : Array Slot), kI D g σ e_h_two_X9 M s.heap M N R H locs → lv_has ls 3 [] → W p l e (headSpec wsX9_two ({ frames := 0, cells := 0, slots := 0, locals := 0 })).room s m ar below meth c H locs 0 0 Q (F0 m 211 ls []) := by
      intro H locs ls hI hl
      refine lv_iconst (v := 1) hx hb dX9_two_211 (by decide) ?_
      refine lv_goto (tgt := 216) hx hb dX9_two_212 (by decide) ?_
      exact h_iret hQ hx hb hr hlocks rfl hK hI ⟨rfl, rfl, rfl⟩ dX9_two_216
    refine lv_if_ne (tgt := 211) hx hb dX9_two_204 (by decide) (fun c58 => ?_) (fun c58 => ?_)
    · exact J211 H locs ls hI (lv_sub hl [] rfl)
    · have i59 : iv p1 0 0 := iv_eq1 c58 (iv_any p1) kc_0
      refine lv_iload_n hx hb dX9_two_207 rfl (lv_at hl 2 rfl) ?_
      refine lv_if_eq (tgt := 215) hx hb dX9_two_208 (by decide) (fun c60 => ?_) (fun c60 => ?_)
      · have i61 : iv p2 0 0 := iv_eq1 c60 (iv_any p2) kc_0
        refine lv_iconst (v := 0) hx hb dX9_two_215 (by decide) ?_
        exact h_iret hQ hx hb hr hlocks rfl hK hI ⟨rfl, rfl, rfl⟩ dX9_two_216
      · exact J211 H locs ls hI (lv_sub hl [] rfl)
  by_cases c62 : p0 = 49
  · refine lv_tableIn (tgt := 203) hx hb dX9_two_1 (by rw [c62]; decide) (by rw [c62]; decide) (by rw [c62] <;> rfl) (by decide) ?_
    have i63 : iv p0 49 49 := iv_eq1 c62 (iv_any p0) kc_49
    refine lv_iload_n hx hb dX9_two_203 rfl (lv_at hl 1 rfl) ?_
    have J211 : ∀ (H : Heap) (locs : List Loc) (ls : Array Slot), kI D g σ e_h_two_X9 M s.heap M N R H locs → lv_has ls 3 [] → W p l e (headSpec wsX9_two ({ frames := 0, cells := 0, slots := 0, locals := 0 })).room s m ar below meth c H locs 0 0 Q (F0 m 211 ls []) := by
      intro H locs ls hI hl
      refine lv_iconst (v := 1) hx hb dX9_two_211 (by decide) ?_
      refine lv_goto (tgt := 216) hx hb dX9_two_212 (by decide) ?_
      exact h_iret hQ hx hb hr hlocks rfl hK hI ⟨rfl, rfl, rfl⟩ dX9_two_216
    refine lv_if_ne (tgt := 211) hx hb dX9_two_204 (by decide) (fun c64 => ?_) (fun c64 => ?_)
    · exact J211 H locs ls hI (lv_sub hl [] rfl)
    · have i65 : iv p1 0 0 := iv_eq1 c64 (iv_any p1) kc_0
      refine lv_iload_n hx hb dX9_two_207 rfl (lv_at hl 2 rfl) ?_
      refine lv_if_eq (tgt := 215) hx hb dX9_two_208 (by decide) (fun c66 => ?_) (fun c66 => ?_)
      · have i67 : iv p2 0 0 := iv_eq1 c66 (iv_any p2) kc_0
        refine lv_iconst (v := 0) hx hb dX9_two_215 (by decide) ?_
        exact h_iret hQ hx hb hr hlocks rfl hK hI ⟨rfl, rfl, rfl⟩ dX9_two_216
      · exact J211 H locs ls hI (lv_sub hl [] rfl)
  by_cases c68 : p0 = 50
  · refine lv_tableIn (tgt := 203) hx hb dX9_two_1 (by rw [c68]; decide) (by rw [c68]; decide) (by rw [c68] <;> rfl) (by decide) ?_
    have i69 : iv p0 50 50 := iv_eq1 c68 (iv_any p0) kc_50
    refine lv_iload_n hx hb dX9_two_203 rfl (lv_at hl 1 rfl) ?_
    have J211 : ∀ (H : Heap) (locs : List Loc) (ls : Array Slot), kI D g σ e_h_two_X9 M s.heap M N R H locs → lv_has ls 3 [] → W p l e (headSpec wsX9_two ({ frames := 0, cells := 0, slots := 0, locals := 0 })).room s m ar below meth c H locs 0 0 Q (F0 m 211 ls []) := by
      intro H locs ls hI hl
      refine lv_iconst (v := 1) hx hb dX9_two_211 (by decide) ?_
      refine lv_goto (tgt := 216) hx hb dX9_two_212 (by decide) ?_
      exact h_iret hQ hx hb hr hlocks rfl hK hI ⟨rfl, rfl, rfl⟩ dX9_two_216
    refine lv_if_ne (tgt := 211) hx hb dX9_two_204 (by decide) (fun c70 => ?_) (fun c70 => ?_)
    · exact J211 H locs ls hI (lv_sub hl [] rfl)
    · have i71 : iv p1 0 0 := iv_eq1 c70 (iv_any p1) kc_0
      refine lv_iload_n hx hb dX9_two_207 rfl (lv_at hl 2 rfl) ?_
      refine lv_if_eq (tgt := 215) hx hb dX9_two_208 (by decide) (fun c72 => ?_) (fun c72 => ?_)
      · have i73 : iv p2 0 0 := iv_eq1 c72 (iv_any p2) kc_0
        refine lv_iconst (v := 0) hx hb dX9_two_215 (by decide) ?_
        exact h_iret hQ hx hb hr hlocks rfl hK hI ⟨rfl, rfl, rfl⟩ dX9_two_216
      · exact J211 H locs ls hI (lv_sub hl [] rfl)
  by_cases c74 : p0 = 51
  · refine lv_tableIn (tgt := 203) hx hb dX9_two_1 (by rw [c74]; decide) (by rw [c74]; decide) (by rw [c74] <;> rfl) (by decide) ?_
    have i75 : iv p0 51 51 := iv_eq1 c74 (iv_any p0) kc_51
    refine lv_iload_n hx hb dX9_two_203 rfl (lv_at hl 1 rfl) ?_
    have J211 : ∀ (H : Heap) (locs : List Loc) (ls : Array Slot), kI D g σ e_h_two_X9 M s.heap M N R H locs → lv_has ls 3 [] → W p l e (headSpec wsX9_two ({ frames := 0, cells := 0, slots := 0, locals := 0 })).room s m ar below meth c H locs 0 0 Q (F0 m 211 ls []) := by
      intro H locs ls hI hl
      refine lv_iconst (v := 1) hx hb dX9_two_211 (by decide) ?_
      refine lv_goto (tgt := 216) hx hb dX9_two_212 (by decide) ?_
      exact h_iret hQ hx hb hr hlocks rfl hK hI ⟨rfl, rfl, rfl⟩ dX9_two_216
    refine lv_if_ne (tgt := 211) hx hb dX9_two_204 (by decide) (fun c76 => ?_) (fun c76 => ?_)
    · exact J211 H locs ls hI (lv_sub hl [] rfl)
    · have i77 : iv p1 0 0 := iv_eq1 c76 (iv_any p1) kc_0
      refine lv_iload_n hx hb dX9_two_207 rfl (lv_at hl 2 rfl) ?_
      refine lv_if_eq (tgt := 215) hx hb dX9_two_208 (by decide) (fun c78 => ?_) (fun c78 => ?_)
      · have i79 : iv p2 0 0 := iv_eq1 c78 (iv_any p2) kc_0
        refine lv_iconst (v := 0) hx hb dX9_two_215 (by decide) ?_
        exact h_iret hQ hx hb hr hlocks rfl hK hI ⟨rfl, rfl, rfl⟩ dX9_two_216
      · exact J211 H locs ls hI (lv_sub hl [] rfl)
  by_cases c80 : p0 = 52
  · refine lv_tableIn (tgt := 203) hx hb dX9_two_1 (by rw [c80]; decide) (by rw [c80]; decide) (by rw [c80] <;> rfl) (by decide) ?_
    have i81 : iv p0 52 52 := iv_eq1 c80 (iv_any p0) kc_52
    refine lv_iload_n hx hb dX9_two_203 rfl (lv_at hl 1 rfl) ?_
    have J211 : ∀ (H : Heap) (locs : List Loc) (ls : Array Slot), kI D g σ e_h_two_X9 M s.heap M N R H locs → lv_has ls 3 [] → W p l e (headSpec wsX9_two ({ frames := 0, cells := 0, slots := 0, locals := 0 })).room s m ar below meth c H locs 0 0 Q (F0 m 211 ls []) := by
      intro H locs ls hI hl
      refine lv_iconst (v := 1) hx hb dX9_two_211 (by decide) ?_
      refine lv_goto (tgt := 216) hx hb dX9_two_212 (by decide) ?_
      exact h_iret hQ hx hb hr hlocks rfl hK hI ⟨rfl, rfl, rfl⟩ dX9_two_216
    refine lv_if_ne (tgt := 211) hx hb dX9_two_204 (by decide) (fun c82 => ?_) (fun c82 => ?_)
    · exact J211 H locs ls hI (lv_sub hl [] rfl)
    · have i83 : iv p1 0 0 := iv_eq1 c82 (iv_any p1) kc_0
      refine lv_iload_n hx hb dX9_two_207 rfl (lv_at hl 2 rfl) ?_
      refine lv_if_eq (tgt := 215) hx hb dX9_two_208 (by decide) (fun c84 => ?_) (fun c84 => ?_)
      · have i85 : iv p2 0 0 := iv_eq1 c84 (iv_any p2) kc_0
        refine lv_iconst (v := 0) hx hb dX9_two_215 (by decide) ?_
        exact h_iret hQ hx hb hr hlocks rfl hK hI ⟨rfl, rfl, rfl⟩ dX9_two_216
      · exact J211 H locs ls hI (lv_sub hl [] rfl)
  by_cases c86 : p0 = 53
  · refine lv_tableIn (tgt := 203) hx hb dX9_two_1 (by rw [c86]; decide) (by rw [c86]; decide) (by rw [c86] <;> rfl) (by decide) ?_
    have i87 : iv p0 53 53 := iv_eq1 c86 (iv_any p0) kc_53
    refine lv_iload_n hx hb dX9_two_203 rfl (lv_at hl 1 rfl) ?_
    have J211 : ∀ (H : Heap) (locs : List Loc) (ls : Array Slot), kI D g σ e_h_two_X9 M s.heap M N R H locs → lv_has ls 3 [] → W p l e (headSpec wsX9_two ({ frames := 0, cells := 0, slots := 0, locals := 0 })).room s m ar below meth c H locs 0 0 Q (F0 m 211 ls []) := by
      intro H locs ls hI hl
      refine lv_iconst (v := 1) hx hb dX9_two_211 (by decide) ?_
      refine lv_goto (tgt := 216) hx hb dX9_two_212 (by decide) ?_
      exact h_iret hQ hx hb hr hlocks rfl hK hI ⟨rfl, rfl, rfl⟩ dX9_two_216
    refine lv_if_ne (tgt := 211) hx hb dX9_two_204 (by decide) (fun c88 => ?_) (fun c88 => ?_)
    · exact J211 H locs ls hI (lv_sub hl [] rfl)
    · have i89 : iv p1 0 0 := iv_eq1 c88 (iv_any p1) kc_0
      refine lv_iload_n hx hb dX9_two_207 rfl (lv_at hl 2 rfl) ?_
      refine lv_if_eq (tgt := 215) hx hb dX9_two_208 (by decide) (fun c90 => ?_) (fun c90 => ?_)
      · have i91 : iv p2 0 0 := iv_eq1 c90 (iv_any p2) kc_0
        refine lv_iconst (v := 0) hx hb dX9_two_215 (by decide) ?_
        exact h_iret hQ hx hb hr hlocks rfl hK hI ⟨rfl, rfl, rfl⟩ dX9_two_216
      · exact J211 H locs ls hI (lv_sub hl [] rfl)
  by_cases c92 : p0 = 54
  · refine lv_tableIn (tgt := 203) hx hb dX9_two_1 (by rw [c92]; decide) (by rw [c92]; decide) (by rw [c92] <;> rfl) (by decide) ?_
    have i93 : iv p0 54 54 := iv_eq1 c92 (iv_any p0) kc_54
    refine lv_iload_n hx hb dX9_two_203 rfl (lv_at hl 1 rfl) ?_
    have J211 : ∀ (H : Heap) (locs : List Loc) (ls : Array Slot), kI D g σ e_h_two_X9 M s.heap M N R H locs → lv_has ls 3 [] → W p l e (headSpec wsX9_two ({ frames := 0, cells := 0, slots := 0, locals := 0 })).room s m ar below meth c H locs 0 0 Q (F0 m 211 ls []) := by
      intro H locs ls hI hl
      refine lv_iconst (v := 1) hx hb dX9_two_211 (by decide) ?_
      refine lv_goto (tgt := 216) hx hb dX9_two_212 (by decide) ?_
      exact h_iret hQ hx hb hr hlocks rfl hK hI ⟨rfl, rfl, rfl⟩ dX9_two_216
    refine lv_if_ne (tgt := 211) hx hb dX9_two_204 (by decide) (fun c94 => ?_) (fun c94 => ?_)
    · exact J211 H locs ls hI (lv_sub hl [] rfl)
    · have i95 : iv p1 0 0 := iv_eq1 c94 (iv_any p1) kc_0
      refine lv_iload_n hx hb dX9_two_207 rfl (lv_at hl 2 rfl) ?_
      refine lv_if_eq (tgt := 215) hx hb dX9_two_208 (by decide) (fun c96 => ?_) (fun c96 => ?_)
      · have i97 : iv p2 0 0 := iv_eq1 c96 (iv_any p2) kc_0
        refine lv_iconst (v := 0) hx hb dX9_two_215 (by decide) ?_
        exact h_iret hQ hx hb hr hlocks rfl hK hI ⟨rfl, rfl, rfl⟩ dX9_two_216
      · exact J211 H locs ls hI (lv_sub hl [] rfl)
  by_cases c98 : p0 = 55
  · refine lv_tableIn (tgt := 203) hx hb dX9_two_1 (by rw [c98]; decide) (by rw [c98]; decide) (by rw [c98] <;> rfl) (by decide) ?_
    have i99 : iv p0 55 55 := iv_eq1 c98 (iv_any p0) kc_55
    refine lv_iload_n hx hb dX9_two_203 rfl (lv_at hl 1 rfl) ?_
    have J211 : ∀ (H : Heap) (locs : List Loc) (ls : Array Slot), kI D g σ e_h_two_X9 M s.heap M N R H locs → lv_has ls 3 [] → W p l e (headSpec wsX9_two ({ frames := 0, cells := 0, slots := 0, locals := 0 })).room s m ar below meth c H locs 0 0 Q (F0 m 211 ls []) := by
      intro H locs ls hI hl
      refine lv_iconst (v := 1) hx hb dX9_two_211 (by decide) ?_
      refine lv_goto (tgt := 216) hx hb dX9_two_212 (by decide) ?_
      exact h_iret hQ hx hb hr hlocks rfl hK hI ⟨rfl, rfl, rfl⟩ dX9_two_216
    refine lv_if_ne (tgt := 211) hx hb dX9_two_204 (by decide) (fun c100 => ?_) (fun c100 => ?_)
    · exact J211 H locs ls hI (lv_sub hl [] rfl)
    · have i101 : iv p1 0 0 := iv_eq1 c100 (iv_any p1) kc_0
      refine lv_iload_n hx hb dX9_two_207 rfl (lv_at hl 2 rfl) ?_
      refine lv_if_eq (tgt := 215) hx hb dX9_two_208 (by decide) (fun c102 => ?_) (fun c102 => ?_)
      · have i103 : iv p2 0 0 := iv_eq1 c102 (iv_any p2) kc_0
        refine lv_iconst (v := 0) hx hb dX9_two_215 (by decide) ?_
        exact h_iret hQ hx hb hr hlocks rfl hK hI ⟨rfl, rfl, rfl⟩ dX9_two_216
      · exact J211 H locs ls hI (lv_sub hl [] rfl)
  by_cases c104 : p0 = 56
  · refine lv_tableIn (tgt := 203) hx hb dX9_two_1 (by rw [c104]; decide) (by rw [c104]; decide) (by rw [c104] <;> rfl) (by decide) ?_
    have i105 : iv p0 56 56 := iv_eq1 c104 (iv_any p0) kc_56
    refine lv_iload_n hx hb dX9_two_203 rfl (lv_at hl 1 rfl) ?_
    have J211 : ∀ (H : Heap) (locs : List Loc) (ls : Array Slot), kI D g σ e_h_two_X9 M s.heap M N R H locs → lv_has ls 3 [] → W p l e (headSpec wsX9_two ({ frames := 0, cells := 0, slots := 0, locals := 0 })).room s m ar below meth c H locs 0 0 Q (F0 m 211 ls []) := by
      intro H locs ls hI hl
      refine lv_iconst (v := 1) hx hb dX9_two_211 (by decide) ?_
      refine lv_goto (tgt := 216) hx hb dX9_two_212 (by decide) ?_
      exact h_iret hQ hx hb hr hlocks rfl hK hI ⟨rfl, rfl, rfl⟩ dX9_two_216
    refine lv_if_ne (tgt := 211) hx hb dX9_two_204 (by decide) (fun c106 => ?_) (fun c106 => ?_)
    · exact J211 H locs ls hI (lv_sub hl [] rfl)
    · have i107 : iv p1 0 0 := iv_eq1 c106 (iv_any p1) kc_0
      refine lv_iload_n hx hb dX9_two_207 rfl (lv_at hl 2 rfl) ?_
      refine lv_if_eq (tgt := 215) hx hb dX9_two_208 (by decide) (fun c108 => ?_) (fun c108 => ?_)
      · have i109 : iv p2 0 0 := iv_eq1 c108 (iv_any p2) kc_0
        refine lv_iconst (v := 0) hx hb dX9_two_215 (by decide) ?_
        exact h_iret hQ hx hb hr hlocks rfl hK hI ⟨rfl, rfl, rfl⟩ dX9_two_216
      · exact J211 H locs ls hI (lv_sub hl [] rfl)
  by_cases c110 : p0 = 57
  · refine lv_tableIn (tgt := 203) hx hb dX9_two_1 (by rw [c110]; decide) (by rw [c110]; decide) (by rw [c110] <;> rfl) (by decide) ?_
    have i111 : iv p0 57 57 := iv_eq1 c110 (iv_any p0) kc_57
    refine lv_iload_n hx hb dX9_two_203 rfl (lv_at hl 1 rfl) ?_
    have J211 : ∀ (H : Heap) (locs : List Loc) (ls : Array Slot), kI D g σ e_h_two_X9 M s.heap M N R H locs → lv_has ls 3 [] → W p l e (headSpec wsX9_two ({ frames := 0, cells := 0, slots := 0, locals := 0 })).room s m ar below meth c H locs 0 0 Q (F0 m 211 ls []) := by
      intro H locs ls hI hl
      refine lv_iconst (v := 1) hx hb dX9_two_211 (by decide) ?_
      refine lv_goto (tgt := 216) hx hb dX9_two_212 (by decide) ?_
      exact h_iret hQ hx hb hr hlocks rfl hK hI ⟨rfl, rfl, rfl⟩ dX9_two_216
    refine lv_if_ne (tgt := 211) hx hb dX9_two_204 (by decide) (fun c112 => ?_) (fun c112 => ?_)
    · exact J211 H locs ls hI (lv_sub hl [] rfl)
    · have i113 : iv p1 0 0 := iv_eq1 c112 (iv_any p1) kc_0
      refine lv_iload_n hx hb dX9_two_207 rfl (lv_at hl 2 rfl) ?_
      refine lv_if_eq (tgt := 215) hx hb dX9_two_208 (by decide) (fun c114 => ?_) (fun c114 => ?_)
      · have i115 : iv p2 0 0 := iv_eq1 c114 (iv_any p2) kc_0
        refine lv_iconst (v := 0) hx hb dX9_two_215 (by decide) ?_
        exact h_iret hQ hx hb hr hlocks rfl hK hI ⟨rfl, rfl, rfl⟩ dX9_two_216
      · exact J211 H locs ls hI (lv_sub hl [] rfl)
  by_cases c116 : p0 = 58
  · refine lv_tableIn (tgt := 203) hx hb dX9_two_1 (by rw [c116]; decide) (by rw [c116]; decide) (by rw [c116] <;> rfl) (by decide) ?_
    have i117 : iv p0 58 58 := iv_eq1 c116 (iv_any p0) kc_58
    refine lv_iload_n hx hb dX9_two_203 rfl (lv_at hl 1 rfl) ?_
    have J211 : ∀ (H : Heap) (locs : List Loc) (ls : Array Slot), kI D g σ e_h_two_X9 M s.heap M N R H locs → lv_has ls 3 [] → W p l e (headSpec wsX9_two ({ frames := 0, cells := 0, slots := 0, locals := 0 })).room s m ar below meth c H locs 0 0 Q (F0 m 211 ls []) := by
      intro H locs ls hI hl
      refine lv_iconst (v := 1) hx hb dX9_two_211 (by decide) ?_
      refine lv_goto (tgt := 216) hx hb dX9_two_212 (by decide) ?_
      exact h_iret hQ hx hb hr hlocks rfl hK hI ⟨rfl, rfl, rfl⟩ dX9_two_216
    refine lv_if_ne (tgt := 211) hx hb dX9_two_204 (by decide) (fun c118 => ?_) (fun c118 => ?_)
    · exact J211 H locs ls hI (lv_sub hl [] rfl)
    · have i119 : iv p1 0 0 := iv_eq1 c118 (iv_any p1) kc_0
      refine lv_iload_n hx hb dX9_two_207 rfl (lv_at hl 2 rfl) ?_
      refine lv_if_eq (tgt := 215) hx hb dX9_two_208 (by decide) (fun c120 => ?_) (fun c120 => ?_)
      · have i121 : iv p2 0 0 := iv_eq1 c120 (iv_any p2) kc_0
        refine lv_iconst (v := 0) hx hb dX9_two_215 (by decide) ?_
        exact h_iret hQ hx hb hr hlocks rfl hK hI ⟨rfl, rfl, rfl⟩ dX9_two_216
      · exact J211 H locs ls hI (lv_sub hl [] rfl)
  by_cases c122 : p0 = 59
  · refine lv_tableIn (tgt := 203) hx hb dX9_two_1 (by rw [c122]; decide) (by rw [c122]; decide) (by rw [c122] <;> rfl) (by decide) ?_
    have i123 : iv p0 59 59 := iv_eq1 c122 (iv_any p0) kc_59
    refine lv_iload_n hx hb dX9_two_203 rfl (lv_at hl 1 rfl) ?_
    have J211 : ∀ (H : Heap) (locs : List Loc) (ls : Array Slot), kI D g σ e_h_two_X9 M s.heap M N R H locs → lv_has ls 3 [] → W p l e (headSpec wsX9_two ({ frames := 0, cells := 0, slots := 0, locals := 0 })).room s m ar below meth c H locs 0 0 Q (F0 m 211 ls []) := by
      intro H locs ls hI hl
      refine lv_iconst (v := 1) hx hb dX9_two_211 (by decide) ?_
      refine lv_goto (tgt := 216) hx hb dX9_two_212 (by decide) ?_
      exact h_iret hQ hx hb hr hlocks rfl hK hI ⟨rfl, rfl, rfl⟩ dX9_two_216
    refine lv_if_ne (tgt := 211) hx hb dX9_two_204 (by decide) (fun c124 => ?_) (fun c124 => ?_)
    · exact J211 H locs ls hI (lv_sub hl [] rfl)
    · have i125 : iv p1 0 0 := iv_eq1 c124 (iv_any p1) kc_0
      refine lv_iload_n hx hb dX9_two_207 rfl (lv_at hl 2 rfl) ?_
      refine lv_if_eq (tgt := 215) hx hb dX9_two_208 (by decide) (fun c126 => ?_) (fun c126 => ?_)
      · have i127 : iv p2 0 0 := iv_eq1 c126 (iv_any p2) kc_0
        refine lv_iconst (v := 0) hx hb dX9_two_215 (by decide) ?_
        exact h_iret hQ hx hb hr hlocks rfl hK hI ⟨rfl, rfl, rfl⟩ dX9_two_216
      · exact J211 H locs ls hI (lv_sub hl [] rfl)
  by_cases c128 : p0 = 60
  · refine lv_tableIn (tgt := 156) hx hb dX9_two_1 (by rw [c128]; decide) (by rw [c128]; decide) (by rw [c128] <;> rfl) (by decide) ?_
    have i129 : iv p0 60 60 := iv_eq1 c128 (iv_any p0) kc_60
    refine lv_iload_n hx hb dX9_two_156 rfl (lv_at hl 1 rfl) ?_
    refine lv_iload_n hx hb dX9_two_157 rfl (lv_at hl 2 rfl) ?_
    refine lv_icmp_ge (tgt := 165) hx hb dX9_two_158 (by decide) (fun c130 => ?_) (fun c130 => ?_)
    · refine lv_iconst (v := 0) hx hb dX9_two_165 (by decide) ?_
      exact h_iret hQ hx hb hr hlocks rfl hK hI ⟨rfl, rfl, rfl⟩ dX9_two_166
    · have i131 : iv p2 (-2147483647) 2147483647 := iv_nle1 c130 (iv_any p2) (iv_any p1) (by decide)
      have i132 : iv p1 (-2147483648) 2147483646 := iv_nle2 c130 (iv_any p2) (iv_any p1) (by decide)
      refine lv_iconst (v := 1) hx hb dX9_two_161 (by decide) ?_
      refine lv_goto (tgt := 166) hx hb dX9_two_162 (by decide) ?_
      exact h_iret hQ hx hb hr hlocks rfl hK hI ⟨rfl, rfl, rfl⟩ dX9_two_166
  by_cases c133 : p0 = 61
  · refine lv_tableIn (tgt := 178) hx hb dX9_two_1 (by rw [c133]; decide) (by rw [c133]; decide) (by rw [c133] <;> rfl) (by decide) ?_
    have i134 : iv p0 61 61 := iv_eq1 c133 (iv_any p0) kc_61
    refine lv_iload_n hx hb dX9_two_178 rfl (lv_at hl 1 rfl) ?_
    refine lv_iload_n hx hb dX9_two_179 rfl (lv_at hl 2 rfl) ?_
    refine lv_icmp_ne (tgt := 187) hx hb dX9_two_180 (by decide) (fun c135 => ?_) (fun c135 => ?_)
    · refine lv_iconst (v := 0) hx hb dX9_two_187 (by decide) ?_
      exact h_iret hQ hx hb hr hlocks rfl hK hI ⟨rfl, rfl, rfl⟩ dX9_two_188
    · refine lv_iconst (v := 1) hx hb dX9_two_183 (by decide) ?_
      refine lv_goto (tgt := 188) hx hb dX9_two_184 (by decide) ?_
      exact h_iret hQ hx hb hr hlocks rfl hK hI ⟨rfl, rfl, rfl⟩ dX9_two_188
  by_cases c136 : p0 = 62
  · refine lv_tableIn (tgt := 167) hx hb dX9_two_1 (by rw [c136]; decide) (by rw [c136]; decide) (by rw [c136] <;> rfl) (by decide) ?_
    have i137 : iv p0 62 62 := iv_eq1 c136 (iv_any p0) kc_62
    refine lv_iload_n hx hb dX9_two_167 rfl (lv_at hl 1 rfl) ?_
    refine lv_iload_n hx hb dX9_two_168 rfl (lv_at hl 2 rfl) ?_
    refine lv_icmp_le (tgt := 176) hx hb dX9_two_169 (by decide) (fun c138 => ?_) (fun c138 => ?_)
    · refine lv_iconst (v := 0) hx hb dX9_two_176 (by decide) ?_
      exact h_iret hQ hx hb hr hlocks rfl hK hI ⟨rfl, rfl, rfl⟩ dX9_two_177
    · have i139 : iv p1 (-2147483647) 2147483647 := iv_nle1 c138 (iv_any p1) (iv_any p2) (by decide)
      have i140 : iv p2 (-2147483648) 2147483646 := iv_nle2 c138 (iv_any p1) (iv_any p2) (by decide)
      refine lv_iconst (v := 1) hx hb dX9_two_172 (by decide) ?_
      refine lv_goto (tgt := 177) hx hb dX9_two_173 (by decide) ?_
      exact h_iret hQ hx hb hr hlocks rfl hK hI ⟨rfl, rfl, rfl⟩ dX9_two_177
  refine lv_tableOut (tgt := 203) hx hb dX9_two_1 (by have k37 : (37 : Int32).toInt = 37 := (by decide); have zc1 : ¬ p0.toInt = 37 := fun h9 => c1 (Int32.toInt_inj.mp (h9.trans k37.symm)); have k38 : (38 : Int32).toInt = 38 := (by decide); have zc6 : ¬ p0.toInt = 38 := fun h9 => c6 (Int32.toInt_inj.mp (h9.trans k38.symm)); have k39 : (39 : Int32).toInt = 39 := (by decide); have zc12 : ¬ p0.toInt = 39 := fun h9 => c12 (Int32.toInt_inj.mp (h9.trans k39.symm)); have k40 : (40 : Int32).toInt = 40 := (by decide); have zc18 : ¬ p0.toInt = 40 := fun h9 => c18 (Int32.toInt_inj.mp (h9.trans k40.symm)); have k41 : (41 : Int32).toInt = 41 := (by decide); have zc24 : ¬ p0.toInt = 41 := fun h9 => c24 (Int32.toInt_inj.mp (h9.trans k41.symm)); have k42 : (42 : Int32).toInt = 42 := (by decide); have zc30 : ¬ p0.toInt = 42 := fun h9 => c30 (Int32.toInt_inj.mp (h9.trans k42.symm)); have k43 : (43 : Int32).toInt = 43 := (by decide); have zc33 : ¬ p0.toInt = 43 := fun h9 => c33 (Int32.toInt_inj.mp (h9.trans k43.symm)); have k44 : (44 : Int32).toInt = 44 := (by decide); have zc36 : ¬ p0.toInt = 44 := fun h9 => c36 (Int32.toInt_inj.mp (h9.trans k44.symm)); have k45 : (45 : Int32).toInt = 45 := (by decide); have zc42 : ¬ p0.toInt = 45 := fun h9 => c42 (Int32.toInt_inj.mp (h9.trans k45.symm)); have k46 : (46 : Int32).toInt = 46 := (by decide); have zc45 : ¬ p0.toInt = 46 := fun h9 => c45 (Int32.toInt_inj.mp (h9.trans k46.symm)); have k47 : (47 : Int32).toInt = 47 := (by decide); have zc51 : ¬ p0.toInt = 47 := fun h9 => c51 (Int32.toInt_inj.mp (h9.trans k47.symm)); have k48 : (48 : Int32).toInt = 48 := (by decide); have zc56 : ¬ p0.toInt = 48 := fun h9 => c56 (Int32.toInt_inj.mp (h9.trans k48.symm)); have k49 : (49 : Int32).toInt = 49 := (by decide); have zc62 : ¬ p0.toInt = 49 := fun h9 => c62 (Int32.toInt_inj.mp (h9.trans k49.symm)); have k50 : (50 : Int32).toInt = 50 := (by decide); have zc68 : ¬ p0.toInt = 50 := fun h9 => c68 (Int32.toInt_inj.mp (h9.trans k50.symm)); have k51 : (51 : Int32).toInt = 51 := (by decide); have zc74 : ¬ p0.toInt = 51 := fun h9 => c74 (Int32.toInt_inj.mp (h9.trans k51.symm)); have k52 : (52 : Int32).toInt = 52 := (by decide); have zc80 : ¬ p0.toInt = 52 := fun h9 => c80 (Int32.toInt_inj.mp (h9.trans k52.symm)); have k53 : (53 : Int32).toInt = 53 := (by decide); have zc86 : ¬ p0.toInt = 53 := fun h9 => c86 (Int32.toInt_inj.mp (h9.trans k53.symm)); have k54 : (54 : Int32).toInt = 54 := (by decide); have zc92 : ¬ p0.toInt = 54 := fun h9 => c92 (Int32.toInt_inj.mp (h9.trans k54.symm)); have k55 : (55 : Int32).toInt = 55 := (by decide); have zc98 : ¬ p0.toInt = 55 := fun h9 => c98 (Int32.toInt_inj.mp (h9.trans k55.symm)); have k56 : (56 : Int32).toInt = 56 := (by decide); have zc104 : ¬ p0.toInt = 56 := fun h9 => c104 (Int32.toInt_inj.mp (h9.trans k56.symm)); have k57 : (57 : Int32).toInt = 57 := (by decide); have zc110 : ¬ p0.toInt = 57 := fun h9 => c110 (Int32.toInt_inj.mp (h9.trans k57.symm)); have k58 : (58 : Int32).toInt = 58 := (by decide); have zc116 : ¬ p0.toInt = 58 := fun h9 => c116 (Int32.toInt_inj.mp (h9.trans k58.symm)); have k59 : (59 : Int32).toInt = 59 := (by decide); have zc122 : ¬ p0.toInt = 59 := fun h9 => c122 (Int32.toInt_inj.mp (h9.trans k59.symm)); have k60 : (60 : Int32).toInt = 60 := (by decide); have zc128 : ¬ p0.toInt = 60 := fun h9 => c128 (Int32.toInt_inj.mp (h9.trans k60.symm)); have k61 : (61 : Int32).toInt = 61 := (by decide); have zc133 : ¬ p0.toInt = 61 := fun h9 => c133 (Int32.toInt_inj.mp (h9.trans k61.symm)); have k62 : (62 : Int32).toInt = 62 := (by decide); have zc136 : ¬ p0.toInt = 62 := fun h9 => c136 (Int32.toInt_inj.mp (h9.trans k62.symm)); have h8 := (iv_any p0); simp only [iv] at h8; omega) (by decide) ?_
  refine lv_iload_n hx hb dX9_two_203 rfl (lv_at hl 1 rfl) ?_
  have J211 : ∀ (H : Heap) (locs : List Loc) (ls : Array Slot), kI D g σ e_h_two_X9 M s.heap M N R H locs → lv_has ls 3 [] → W p l e (headSpec wsX9_two ({ frames := 0, cells := 0, slots := 0, locals := 0 })).room s m ar below meth c H locs 0 0 Q (F0 m 211 ls []) := by
    intro H locs ls hI hl
    refine lv_iconst (v := 1) hx hb dX9_two_211 (by decide) ?_
    refine lv_goto (tgt := 216) hx hb dX9_two_212 (by decide) ?_
    exact h_iret hQ hx hb hr hlocks rfl hK hI ⟨rfl, rfl, rfl⟩ dX9_two_216
  refine lv_if_ne (tgt := 211) hx hb dX9_two_204 (by decide) (fun c141 => ?_) (fun c141 => ?_)
  · exact J211 H locs ls hI (lv_sub hl [] rfl)
  · have i142 : iv p1 0 0 := iv_eq1 c141 (iv_any p1) kc_0
    refine lv_iload_n hx hb dX9_two_207 rfl (lv_at hl 2 rfl) ?_
    refine lv_if_eq (tgt := 215) hx hb dX9_two_208 (by decide) (fun c143 => ?_) (fun c143 => ?_)
    · have i144 : iv p2 0 0 := iv_eq1 c143 (iv_any p2) kc_0
      refine lv_iconst (v := 0) hx hb dX9_two_215 (by decide) ?_
      exact h_iret hQ hx hb hr hlocks rfl hK hI ⟨rfl, rfl, rfl⟩ dX9_two_216
    · exact J211 H locs ls hI (lv_sub hl [] rfl)
abbrev e_h_isAhead_X9 : List (Nat × Nat) := []
set_option maxHeartbeats 4000000 in
set_option maxRecDepth 100000 in
theorem h_isAhead_X9 (l : Launch) (D : va_G) (g : Nat → ClassId) (σ : Nat → Option Nat) (Z : State → Heap → Prop) (hZ0 : hZ σ Z) (M : hM) (N : hN) (R : hR) (p0 : Int32) : Met l yX9_isAhead wsX9_isAhead ({ frames := 0, cells := 0, slots := 0, locals := 0 }) (va_Pc [.int p0] (hPre D g σ Z M N R)) (hQi D g σ e_h_isAhead_X9 M (fun (r : Int32) (M1 : hM) (N1 : hN) (R1 : hR) => M = M1 ∧ N = N1 ∧ R = R1 ∧ iv r 0 1 ∧ (¬ r = 0 → iv p0 0 60))) 0 0 (hA σ) := by
  refine h_head (cc := cX9_isAhead) (maxL := 1) (ret := (some .boolean)) (by decide) rfl (Nat.le_of_ble_eq_true rfl) e_h_isAhead_X9 ?_
  intro p e s m below meth c ls Q ar hQ hx hb hr hlocks hml hown hts hK hE H locs hI hl
  have hown : s.vm.findClass RX9 = some m.cls := hown
  have hl : lv_has ls 1 [(0, .int p0)] := hl
  refine lv_iload_n hx hb dX9_isAhead_0 rfl (lv_at hl 0 rfl) ?_
  refine lv_if_lt (tgt := 14) hx hb dX9_isAhead_1 (by decide) (fun c1 => ?_) (fun c1 => ?_)
  · have i2 : iv p0 (-2147483648) (-1) := iv_lt1 c1 (iv_any p0) kc_0 (by decide)
    refine lv_iconst (v := 0) hx hb dX9_isAhead_14 (by decide) ?_
    exact h_iret hQ hx hb hr hlocks rfl hK hI ⟨rfl, rfl, rfl, (iv_w (lo' := 0) (hi' := 1) kc_0 (by decide) (by decide)), (fun h9 => absurd rfl h9)⟩ dX9_isAhead_15
  · have i3 : iv p0 0 2147483647 := iv_nlt1 c1 (iv_any p0) kc_0 (by decide)
    refine lv_iload_n hx hb dX9_isAhead_4 rfl (lv_at hl 0 rfl) ?_
    refine lv_bipush (v := 60) hx hb dX9_isAhead_5 (by decide) ?_
    refine lv_icmp_gt (tgt := 14) hx hb dX9_isAhead_7 (by decide) (fun c4 => ?_) (fun c4 => ?_)
    · have i5 : iv p0 61 2147483647 := iv_lt2 c4 kc_60 i3 (by decide)
      refine lv_iconst (v := 0) hx hb dX9_isAhead_14 (by decide) ?_
      exact h_iret hQ hx hb hr hlocks rfl hK hI ⟨rfl, rfl, rfl, (iv_w (lo' := 0) (hi' := 1) kc_0 (by decide) (by decide)), (fun h9 => absurd rfl h9)⟩ dX9_isAhead_15
    · have i6 : iv p0 0 60 := iv_nlt2 c4 kc_60 i3 (by decide)
      refine lv_iconst (v := 1) hx hb dX9_isAhead_10 (by decide) ?_
      refine lv_goto (tgt := 15) hx hb dX9_isAhead_11 (by decide) ?_
      exact h_iret hQ hx hb hr hlocks rfl hK hI ⟨rfl, rfl, rfl, (iv_w (lo' := 0) (hi' := 1) kc_1 (by decide) (by decide)), (fun _ => i6)⟩ dX9_isAhead_15
abbrev e_h_capped_X9 : List (Nat × Nat) := []
set_option maxHeartbeats 4000000 in
set_option maxRecDepth 100000 in
theorem h_capped_X9 (l : Launch) (D : va_G) (g : Nat → ClassId) (σ : Nat → Option Nat) (Z : State → Heap → Prop) (hZ0 : hZ σ Z) (M : hM) (N : hN) (R : hR) (p0 : Int32) : Met l yX9_capped wsX9_capped ({ frames := 0, cells := 0, slots := 0, locals := 0 }) (va_Pc [.int p0] (hPre D g σ Z M N R)) (hQi D g σ e_h_capped_X9 M (fun (r : Int32) (M1 : hM) (N1 : hN) (R1 : hR) => M = M1 ∧ N = N1 ∧ R = R1 ∧ iv r (-2147483648) 99)) 0 0 (hA σ) := by
  refine h_head (cc := cX9_capped) (maxL := 1) (ret := (some .int)) (by decide) rfl (Nat.le_of_ble_eq_true rfl) e_h_capped_X9 ?_
  intro p e s m below meth c ls Q ar hQ hx hb hr hlocks hml hown hts hK hE H locs hI hl
  have hown : s.vm.findClass RX9 = some m.cls := hown
  have hl : lv_has ls 1 [(0, .int p0)] := hl
  refine lv_iload_n hx hb dX9_capped_0 rfl (lv_at hl 0 rfl) ?_
  refine lv_bipush (v := 99) hx hb dX9_capped_1 (by decide) ?_
  refine lv_icmp_ge (tgt := 10) hx hb dX9_capped_3 (by decide) (fun c1 => ?_) (fun c1 => ?_)
  · have i2 : iv p0 99 2147483647 := iv_le2 c1 kc_99 (iv_any p0) (by decide)
    refine lv_bipush (v := 99) hx hb dX9_capped_10 (by decide) ?_
    exact h_iret hQ hx hb hr hlocks rfl hK hI ⟨rfl, rfl, rfl, (iv_w (lo' := (-2147483648)) (hi' := 99) kc_99 (by decide) (by decide))⟩ dX9_capped_12
  · have i3 : iv p0 (-2147483648) 98 := iv_nle2 c1 kc_99 (iv_any p0) (by decide)
    refine lv_iload_n hx hb dX9_capped_6 rfl (lv_at hl 0 rfl) ?_
    refine lv_goto (tgt := 12) hx hb dX9_capped_7 (by decide) ?_
    exact h_iret hQ hx hb hr hlocks rfl hK hI ⟨rfl, rfl, rfl, (iv_w (lo' := (-2147483648)) (hi' := 99) i3 (by decide) (by decide))⟩ dX9_capped_12
abbrev e_h_power_X9 : List (Nat × Nat) := []
set_option maxHeartbeats 4000000 in
set_option maxRecDepth 100000 in
theorem h_power_X9 (l : Launch) (D : va_G) (g : Nat → ClassId) (σ : Nat → Option Nat) (Z : State → Heap → Prop) (hZ0 : hZ σ Z) (M : hM) (N : hN) (R : hR) (p0 : Int32) (p1 : Int32) (h_p1 : iv p1 0 4) : Met l yX9_power wsX9_power ({ frames := 0, cells := 0, slots := 0, locals := 0 }) (va_Pc [.int p0, .int p1] (hPre D g σ Z M N R)) (hQi D g σ e_h_power_X9 M (fun (r : Int32) (M1 : hM) (N1 : hN) (R1 : hR) => M = M1 ∧ N = N1 ∧ R = R1)) 0 0 (hA σ) := by
  refine h_head (cc := cX9_power) (maxL := 4) (ret := (some .int)) (by decide) rfl (Nat.le_of_ble_eq_true rfl) e_h_power_X9 ?_
  intro p e s m below meth c ls Q ar hQ hx hb hr hlocks hml hown hts hK hE H locs hI hl
  have hown : s.vm.findClass RX9 = some m.cls := hown
  have hl : lv_has ls 4 [(0, .int p0), (1, .int p1)] := hl
  refine lv_iconst (v := 1) hx hb dX9_power_0 (by decide) ?_
  refine lv_istore_n (lv' := [(2, .int (1 : Int32)), (0, .int p0), (1, .int p1)]) hx hb dX9_power_1 rfl hl (by decide) rfl (fun ls hl => ?_)
  refine lv_iconst (v := 0) hx hb dX9_power_2 (by decide) ?_
  have J4 : ∀ (n : Nat) (v2_4 : Int32) (v3_4 : Int32) (H : Heap) (locs : List Loc) (ls : Array Slot), kI D g σ e_h_power_X9 M s.heap M N R H locs → lv_has ls 4 [(0, .int p0), (1, .int p1), (2, .int v2_4), (3, .int v3_4)] → iv v3_4 0 4 → 5 ≤ v3_4.toInt + (n : Int) → W p l e (headSpec wsX9_power ({ frames := 0, cells := 0, slots := 0, locals := 0 })).room s m ar below meth c H locs 0 0 Q (F0 m 4 ls []) := by
    intro n
    induction n with
    | zero => intro v2_4 v3_4 H locs ls hI hl i_v3_4 hn; exfalso; have hz := i_v3_4; simp only [iv] at hz; omega
    | succ n ih4 =>
      intro v2_4 v3_4 H locs ls hI hl i_v3_4 hn4
      refine lv_iload_n hx hb dX9_power_4 rfl (lv_at hl 3 rfl) ?_
      refine lv_iload_n hx hb dX9_power_5 rfl (lv_at hl 1 rfl) ?_
      refine lv_icmp_ge (tgt := 19) hx hb dX9_power_6 (by decide) (fun c1 => ?_) (fun c1 => ?_)
      · refine lv_iload_n hx hb dX9_power_19 rfl (lv_at hl 2 rfl) ?_
        exact h_iret hQ hx hb hr hlocks rfl hK hI ⟨rfl, rfl, rfl⟩ dX9_power_20
      · have i2 : iv p1 1 4 := iv_nle1 c1 h_p1 i_v3_4 (by decide)
        have i3 : iv v3_4 0 3 := iv_nle2 c1 h_p1 i_v3_4 (by decide)
        refine lv_iload_n hx hb dX9_power_9 rfl (lv_at hl 2 rfl) ?_
        refine lv_iload_n hx hb dX9_power_10 rfl (lv_at hl 0 rfl) ?_
        refine lv_imul hx hb dX9_power_11 ?_
        refine h_nm (lo := (-2147483648)) (hi := 2147483647) (iv_any _) (fun v4 e_v4 i_v4 => ?_)
        refine lv_istore_n (lv' := [(2, .int v4), (0, .int p0), (1, .int p1), (3, .int v3_4)]) hx hb dX9_power_12 rfl hl (by decide) rfl (fun ls hl => ?_)
        obtain ⟨v5, e_v5⟩ : ∃ z : Int32, z = v3_4 + Int32.ofInt 1 := ⟨_, rfl⟩
        have i_v5 : iv v5 1 4 := by rw [e_v5]; exact iv_add i3 (ki_1) (by decide) (by decide) (by decide) (by decide)
        refine lv_iinc (v := v5) (lv' := [(3, .int v5), (2, .int v4), (0, .int p0), (1, .int p1)]) hx hb dX9_power_13 hl (k := 3) rfl e_v5.symm (by decide) rfl (fun ls hl => ?_)
        refine lv_goto (tgt := 4) hx hb dX9_power_16 (by decide) ?_
        exact ih4 v4 v5 H locs ls hI (lv_sub hl [2, 3, 1, 0] rfl) (iv_w (lo' := 0) (hi' := 4) i_v5 (by decide) (by decide)) (by have h9 := (h_inc e_v5 i3 ki_1 (by decide) (by decide)); omega)
  refine lv_istore_n (lv' := [(3, .int (0 : Int32)), (2, .int (1 : Int32)), (0, .int p0), (1, .int p1)]) hx hb dX9_power_3 rfl hl (by decide) rfl (fun ls hl => ?_)
  exact J4 5 (1 : Int32) (0 : Int32) H locs ls hI (lv_sub hl [2, 3, 1, 0] rfl) (iv_w (lo' := 0) (hi' := 4) kc_0 (by decide) (by decide)) (by have h9 := kc_0; simp only [iv] at h9; omega)
abbrev e_h_many_X9 : List (Nat × Nat) := []
set_option maxHeartbeats 4000000 in
set_option maxRecDepth 100000 in
theorem h_many_X9 (l : Launch) (D : va_G) (g : Nat → ClassId) (σ : Nat → Option Nat) (Z : State → Heap → Prop) (hZ0 : hZ σ Z) (M : hM) (N : hN) (R : hR) (y : Nat) (g_y : σ y = some 9) : Met l yX9_many wsX9_many ({ frames := 0, cells := 0, slots := 0, locals := 0 }) (va_Pc [.ref y] (hPre D g σ Z M N R)) (hQi D g σ e_h_many_X9 M (fun (r : Int32) (M1 : hM) (N1 : hN) (R1 : hR) => M = M1 ∧ N = N1 ∧ R = R1 ∧ iv r 0 7 ∧ (r = M (R y 13) (bk M y)))) 0 0 (hA σ) := by
  refine h_head (cc := cX9_many) (maxL := 1) (ret := (some .int)) (by decide) rfl (Nat.le_of_ble_eq_true rfl) e_h_many_X9 ?_
  intro p e s m below meth c ls Q ar hQ hx hb hr hlocks hml hown hts hK hE H locs hI hl
  have hown : s.vm.findClass RX9 = some m.cls := hown
  have hl : lv_has ls 1 [(0, .ref y)] := hl
  refine lv_aload_n hx hb dX9_many_0 rfl (lv_at hl 0 rfl) ?_
  refine h_getr hx hb hts iX9_many_X9 hown hK hI g_y (by decide) rfl rfl 13 (by decide) rfl 113 rfl (hts (.fieldLink RX9 27 "CatLeasesModel" "tenants" "[I") (List.mem_of_getElem? (i := 1) rfl)) (fun _ h9 => h9) dX9_many_1 (fun a1 e_a1 g_a1 => ?_)
  refine lv_aload_n hx hb dX9_many_4 rfl (lv_at hl 0 rfl) ?_
  refine h_geti (lo := 0) (hi := 1) hx hb hts iX9_many_X9 hown hK hI g_y (by decide) rfl rfl 35 (by decide) rfl rfl (hts (.fieldLink RX9 268 "CatLeasesModel" "bank" "I") (List.mem_of_getElem? (i := 2) rfl)) (fun _ h9 => h9) dX9_many_5 (fun v2 e_v2 i_v2 => ?_)
  refine h_iald (j := v2.toNatClampNeg) (lo := 0) (hi := 7) hx hb hK hI g_a1 (by decide) rfl (iv_in (n := 2) i_v2 (by decide) (by decide)) rfl (hI.iv1 (n := 2) g_a1 rfl (in_lt (iv_in (n := 2) i_v2 (by decide) (by decide))) rfl) dX9_many_8 (fun v3 e_v3 i_v3 => ?_)
  exact h_iret hQ hx hb hr hlocks rfl hK hI ⟨rfl, rfl, rfl, i_v3, (show v3 = M (R y 13) (bk M y) by rw [e_v3, e_a1, bk, ← (show v2 = M y 35 from e_v2)])⟩ dX9_many_9
abbrev e_h_cattery_X9 : List (Nat × Nat) := []
set_option maxHeartbeats 4000000 in
set_option maxRecDepth 100000 in
theorem h_cattery_X9 (l : Launch) (D : va_G) (g : Nat → ClassId) (σ : Nat → Option Nat) (Z : State → Heap → Prop) (hZ0 : hZ σ Z) (M : hM) (N : hN) (R : hR) (y : Nat) (g_y : σ y = some 9) : Met l yX9_cattery wsX9_cattery ({ frames := 0, cells := 0, slots := 0, locals := 0 }) (va_Pc [.ref y] (hPre D g σ Z M N R)) (hQi D g σ e_h_cattery_X9 M (fun (r : Int32) (M1 : hM) (N1 : hN) (R1 : hR) => M = M1 ∧ N = N1 ∧ R = R1 ∧ iv r 0 6 ∧ (r = M (R y 11) (bk M y)))) 0 0 (hA σ) := by
  refine h_head (cc := cX9_cattery) (maxL := 1) (ret := (some .int)) (by decide) rfl (Nat.le_of_ble_eq_true rfl) e_h_cattery_X9 ?_
  intro p e s m below meth c ls Q ar hQ hx hb hr hlocks hml hown hts hK hE H locs hI hl
  have hown : s.vm.findClass RX9 = some m.cls := hown
  have hl : lv_has ls 1 [(0, .ref y)] := hl
  refine lv_aload_n hx hb dX9_cattery_0 rfl (lv_at hl 0 rfl) ?_
  refine h_getr hx hb hts iX9_cattery_X9 hown hK hI g_y (by decide) rfl rfl 11 (by decide) rfl 111 rfl (hts (.fieldLink RX9 20 "CatLeasesModel" "cats" "[I") (List.mem_of_getElem? (i := 1) rfl)) (fun _ h9 => h9) dX9_cattery_1 (fun a1 e_a1 g_a1 => ?_)
  refine lv_aload_n hx hb dX9_cattery_4 rfl (lv_at hl 0 rfl) ?_
  refine h_geti (lo := 0) (hi := 1) hx hb hts iX9_cattery_X9 hown hK hI g_y (by decide) rfl rfl 35 (by decide) rfl rfl (hts (.fieldLink RX9 268 "CatLeasesModel" "bank" "I") (List.mem_of_getElem? (i := 2) rfl)) (fun _ h9 => h9) dX9_cattery_5 (fun v2 e_v2 i_v2 => ?_)
  refine h_iald (j := v2.toNatClampNeg) (lo := 0) (hi := 6) hx hb hK hI g_a1 (by decide) rfl (iv_in (n := 2) i_v2 (by decide) (by decide)) rfl (hI.iv1 (n := 2) g_a1 rfl (in_lt (iv_in (n := 2) i_v2 (by decide) (by decide))) rfl) dX9_cattery_8 (fun v3 e_v3 i_v3 => ?_)
  exact h_iret hQ hx hb hr hlocks rfl hK hI ⟨rfl, rfl, rfl, i_v3, (show v3 = M (R y 11) (bk M y) by rw [e_v3, e_a1, bk, ← (show v2 = M y 35 from e_v2)])⟩ dX9_cattery_9
abbrev e_h_chambers_X9 : List (Nat × Nat) := []
set_option maxHeartbeats 4000000 in
set_option maxRecDepth 100000 in
theorem h_chambers_X9 (l : Launch) (D : va_G) (g : Nat → ClassId) (σ : Nat → Option Nat) (Z : State → Heap → Prop) (hZ0 : hZ σ Z) (M : hM) (N : hN) (R : hR) (y : Nat) (g_y : σ y = some 9) : Met l yX9_chambers wsX9_chambers ({ frames := 0, cells := 0, slots := 0, locals := 0 }) (va_Pc [.ref y] (hPre D g σ Z M N R)) (hQi D g σ e_h_chambers_X9 M (fun (r : Int32) (M1 : hM) (N1 : hN) (R1 : hR) => M = M1 ∧ N = N1 ∧ R = R1 ∧ iv r 0 8 ∧ (r = M (R y 12) (bk M y)))) 0 0 (hA σ) := by
  refine h_head (cc := cX9_chambers) (maxL := 1) (ret := (some .int)) (by decide) rfl (Nat.le_of_ble_eq_true rfl) e_h_chambers_X9 ?_
  intro p e s m below meth c ls Q ar hQ hx hb hr hlocks hml hown hts hK hE H locs hI hl
  have hown : s.vm.findClass RX9 = some m.cls := hown
  have hl : lv_has ls 1 [(0, .ref y)] := hl
  refine lv_aload_n hx hb dX9_chambers_0 rfl (lv_at hl 0 rfl) ?_
  refine h_getr hx hb hts iX9_chambers_X9 hown hK hI g_y (by decide) rfl rfl 12 (by decide) rfl 112 rfl (hts (.fieldLink RX9 24 "CatLeasesModel" "rooms" "[I") (List.mem_of_getElem? (i := 1) rfl)) (fun _ h9 => h9) dX9_chambers_1 (fun a1 e_a1 g_a1 => ?_)
  refine lv_aload_n hx hb dX9_chambers_4 rfl (lv_at hl 0 rfl) ?_
  refine h_geti (lo := 0) (hi := 1) hx hb hts iX9_chambers_X9 hown hK hI g_y (by decide) rfl rfl 35 (by decide) rfl rfl (hts (.fieldLink RX9 268 "CatLeasesModel" "bank" "I") (List.mem_of_getElem? (i := 2) rfl)) (fun _ h9 => h9) dX9_chambers_5 (fun v2 e_v2 i_v2 => ?_)
  refine h_iald (j := v2.toNatClampNeg) (lo := 0) (hi := 8) hx hb hK hI g_a1 (by decide) rfl (iv_in (n := 2) i_v2 (by decide) (by decide)) rfl (hI.iv1 (n := 2) g_a1 rfl (in_lt (iv_in (n := 2) i_v2 (by decide) (by decide))) rfl) dX9_chambers_8 (fun v3 e_v3 i_v3 => ?_)
  exact h_iret hQ hx hb hr hlocks rfl hK hI ⟨rfl, rfl, rfl, i_v3, (show v3 = M (R y 12) (bk M y) by rw [e_v3, e_a1, bk, ← (show v2 = M y 35 from e_v2)])⟩ dX9_chambers_9
abbrev e_h_isTenant_X9 : List (Nat × Nat) := []
set_option maxHeartbeats 4000000 in
set_option maxRecDepth 100000 in
theorem h_isTenant_X9 (l : Launch) (D : va_G) (g : Nat → ClassId) (σ : Nat → Option Nat) (Z : State → Heap → Prop) (hZ0 : hZ σ Z) (M : hM) (N : hN) (R : hR) (y : Nat) (g_y : σ y = some 9) (p1 : Int32) : Met l yX9_isTenant wsX9_isTenant ({ frames := 1, cells := 0, slots := 0, locals := 22 }) (va_Pc [.ref y, .int p1] (hPre D g σ Z M N R)) (hQi D g σ e_h_isTenant_X9 M (fun (r : Int32) (M1 : hM) (N1 : hN) (R1 : hR) => M = M1 ∧ N = N1 ∧ R = R1 ∧ iv r 0 1 ∧ (¬ r = 0 → iv p1 0 6))) 0 0 (hA σ) := by
  refine h_head (cc := cX9_isTenant) (maxL := 2) (ret := (some .boolean)) (by decide) rfl (Nat.le_of_ble_eq_true rfl) e_h_isTenant_X9 ?_
  intro p e s m below meth c ls Q ar hQ hx hb hr hlocks hml hown hts hK hE H locs hI hl
  have hown : s.vm.findClass RX9 = some m.cls := hown
  have hl : lv_has ls 2 [(0, .ref y), (1, .int p1)] := hl
  refine lv_iload_n hx hb dX9_isTenant_0 rfl (lv_at hl 1 rfl) ?_
  refine lv_iconst (v := 0) hx hb dX9_isTenant_1 (by decide) ?_
  refine lv_aload_n hx hb dX9_isTenant_2 rfl (lv_at hl 0 rfl) ?_
  refine h_goi hI (by decide) (va_runV (As := []) (rest := [.int (0 : Int32), .int p1]) ⟨hx, hb, hml, hown, hts⟩ (h_many_X9 l D g σ Z hZ0 M N R y g_y) (cwV 0 hts gX9_isTenant_X9_many rfl rfl rfl (by decide +kernel) ⟨Nat.le_of_ble_eq_true rfl, Nat.le_of_ble_eq_true rfl⟩) (h_preV hZ0 hK hE hI g_y (by decide) rfl) rfl rfl hl.1 rfl (lv_room (Nat.le_of_ble_eq_true rfl)) dX9_isTenant_3 ⟨Nat.le_of_ble_eq_true rfl, Nat.le_of_ble_eq_true rfl⟩) (fun r1 M2 N3 R4 H locs q5 z_M2 hI => ?_)
  obtain ⟨rfl, rfl, rfl, i_r1, z6⟩ := q5
  refine lv_iconst (v := 1) hx hb dX9_isTenant_6 (by decide) ?_
  refine lv_isub hx hb dX9_isTenant_7 ?_
  refine h_nm (lo := (-1)) (hi := 6) (iv_sub i_r1 kc_1 (by decide) (by decide) (by decide) (by decide)) (fun v7 e_v7 i_v7 => ?_)
  refine h_goi hI (by decide) (va_runS (As := [.int p1, .int (0 : Int32), .int v7]) (rest := []) ⟨hx, hb, hml, hown, hts⟩ (h_isIn_X9 l D g σ Z hZ0 M N R p1 (0 : Int32) v7) (va_cwS 3 hts gX9_isTenant_X9_isIn rfl rfl rfl (by decide +kernel) ⟨Nat.le_of_ble_eq_true rfl, Nat.le_of_ble_eq_true rfl⟩) (h_preS hZ0 hK hE hI) rfl rfl hl.1 rfl (lv_room (Nat.le_of_ble_eq_true rfl)) dX9_isTenant_8 ⟨Nat.le_of_ble_eq_true rfl, Nat.le_of_ble_eq_true rfl⟩) (fun r8 M9 N10 R11 H locs q12 z_M9 hI => ?_)
  obtain ⟨rfl, rfl, rfl, i_r8, z13⟩ := q12
  exact h_iret hQ hx hb hr hlocks (nar_z i_r8) hK hI ⟨rfl, rfl, rfl, i_r8, (fun h9 => iv_w ((fun h9 => iv_isin (z13 h9) kc_0 i_v7) h9) (by decide) (by decide))⟩ dX9_isTenant_11
abbrev e_h_isCat_X9 : List (Nat × Nat) := []
set_option maxHeartbeats 4000000 in
set_option maxRecDepth 100000 in
theorem h_isCat_X9 (l : Launch) (D : va_G) (g : Nat → ClassId) (σ : Nat → Option Nat) (Z : State → Heap → Prop) (hZ0 : hZ σ Z) (M : hM) (N : hN) (R : hR) (y : Nat) (g_y : σ y = some 9) (p1 : Int32) : Met l yX9_isCat wsX9_isCat ({ frames := 1, cells := 0, slots := 0, locals := 22 }) (va_Pc [.ref y, .int p1] (hPre D g σ Z M N R)) (hQi D g σ e_h_isCat_X9 M (fun (r : Int32) (M1 : hM) (N1 : hN) (R1 : hR) => M = M1 ∧ N = N1 ∧ R = R1 ∧ iv r 0 1 ∧ (¬ r = 0 → iv p1 0 5) ∧ (¬ r = 0 → p1.toInt < (M (R y 11) (bk M y)).toInt))) 0 0 (hA σ) := by
  refine h_head (cc := cX9_isCat) (maxL := 2) (ret := (some .boolean)) (by decide) rfl (Nat.le_of_ble_eq_true rfl) e_h_isCat_X9 ?_
  intro p e s m below meth c ls Q ar hQ hx hb hr hlocks hml hown hts hK hE H locs hI hl
  have hown : s.vm.findClass RX9 = some m.cls := hown
  have hl : lv_has ls 2 [(0, .ref y), (1, .int p1)] := hl
  refine lv_iload_n hx hb dX9_isCat_0 rfl (lv_at hl 1 rfl) ?_
  refine lv_iconst (v := 0) hx hb dX9_isCat_1 (by decide) ?_
  refine lv_aload_n hx hb dX9_isCat_2 rfl (lv_at hl 0 rfl) ?_
  refine h_goi hI (by decide) (va_runV (As := []) (rest := [.int (0 : Int32), .int p1]) ⟨hx, hb, hml, hown, hts⟩ (h_cattery_X9 l D g σ Z hZ0 M N R y g_y) (cwV 0 hts gX9_isCat_X9_cattery rfl rfl rfl (by decide +kernel) ⟨Nat.le_of_ble_eq_true rfl, Nat.le_of_ble_eq_true rfl⟩) (h_preV hZ0 hK hE hI g_y (by decide) rfl) rfl rfl hl.1 rfl (lv_room (Nat.le_of_ble_eq_true rfl)) dX9_isCat_3 ⟨Nat.le_of_ble_eq_true rfl, Nat.le_of_ble_eq_true rfl⟩) (fun r1 M2 N3 R4 H locs q5 z_M2 hI => ?_)
  obtain ⟨rfl, rfl, rfl, i_r1, z6⟩ := q5
  refine lv_iconst (v := 1) hx hb dX9_isCat_6 (by decide) ?_
  refine lv_isub hx hb dX9_isCat_7 ?_
  refine h_nm (lo := (-1)) (hi := 5) (iv_sub i_r1 kc_1 (by decide) (by decide) (by decide) (by decide)) (fun v7 e_v7 i_v7 => ?_)
  refine h_goi hI (by decide) (va_runS (As := [.int p1, .int (0 : Int32), .int v7]) (rest := []) ⟨hx, hb, hml, hown, hts⟩ (h_isIn_X9 l D g σ Z hZ0 M N R p1 (0 : Int32) v7) (va_cwS 3 hts gX9_isCat_X9_isIn rfl rfl rfl (by decide +kernel) ⟨Nat.le_of_ble_eq_true rfl, Nat.le_of_ble_eq_true rfl⟩) (h_preS hZ0 hK hE hI) rfl rfl hl.1 rfl (lv_room (Nat.le_of_ble_eq_true rfl)) dX9_isCat_8 ⟨Nat.le_of_ble_eq_true rfl, Nat.le_of_ble_eq_true rfl⟩) (fun r8 M9 N10 R11 H locs q12 z_M9 hI => ?_)
  obtain ⟨rfl, rfl, rfl, i_r8, z13⟩ := q12
  exact h_iret hQ hx hb hr hlocks (nar_z i_r8) hK hI ⟨rfl, rfl, rfl, i_r8, (fun h9 => iv_w ((fun h9 => iv_isin (z13 h9) kc_0 i_v7) h9) (by decide) (by decide)), (fun h9 => by have h8 := Int32.le_iff_toInt_le.mp (z13 h9).2; rw [(h_dec e_v7 i_r1 kc_1 (by decide) (by decide))] at h8; have h7 := congrArg Int32.toInt z6; omega)⟩ dX9_isCat_11
abbrev e_h_isRoom_X9 : List (Nat × Nat) := []
set_option maxHeartbeats 4000000 in
set_option maxRecDepth 100000 in
theorem h_isRoom_X9 (l : Launch) (D : va_G) (g : Nat → ClassId) (σ : Nat → Option Nat) (Z : State → Heap → Prop) (hZ0 : hZ σ Z) (M : hM) (N : hN) (R : hR) (y : Nat) (g_y : σ y = some 9) (p1 : Int32) : Met l yX9_isRoom wsX9_isRoom ({ frames := 1, cells := 0, slots := 0, locals := 22 }) (va_Pc [.ref y, .int p1] (hPre D g σ Z M N R)) (hQi D g σ e_h_isRoom_X9 M (fun (r : Int32) (M1 : hM) (N1 : hN) (R1 : hR) => M = M1 ∧ N = N1 ∧ R = R1 ∧ iv r 0 1 ∧ (¬ r = 0 → iv p1 0 7))) 0 0 (hA σ) := by
  refine h_head (cc := cX9_isRoom) (maxL := 2) (ret := (some .boolean)) (by decide) rfl (Nat.le_of_ble_eq_true rfl) e_h_isRoom_X9 ?_
  intro p e s m below meth c ls Q ar hQ hx hb hr hlocks hml hown hts hK hE H locs hI hl
  have hown : s.vm.findClass RX9 = some m.cls := hown
  have hl : lv_has ls 2 [(0, .ref y), (1, .int p1)] := hl
  refine lv_iload_n hx hb dX9_isRoom_0 rfl (lv_at hl 1 rfl) ?_
  refine lv_iconst (v := 0) hx hb dX9_isRoom_1 (by decide) ?_
  refine lv_aload_n hx hb dX9_isRoom_2 rfl (lv_at hl 0 rfl) ?_
  refine h_goi hI (by decide) (va_runV (As := []) (rest := [.int (0 : Int32), .int p1]) ⟨hx, hb, hml, hown, hts⟩ (h_chambers_X9 l D g σ Z hZ0 M N R y g_y) (cwV 0 hts gX9_isRoom_X9_chambers rfl rfl rfl (by decide +kernel) ⟨Nat.le_of_ble_eq_true rfl, Nat.le_of_ble_eq_true rfl⟩) (h_preV hZ0 hK hE hI g_y (by decide) rfl) rfl rfl hl.1 rfl (lv_room (Nat.le_of_ble_eq_true rfl)) dX9_isRoom_3 ⟨Nat.le_of_ble_eq_true rfl, Nat.le_of_ble_eq_true rfl⟩) (fun r1 M2 N3 R4 H locs q5 z_M2 hI => ?_)
  obtain ⟨rfl, rfl, rfl, i_r1, z6⟩ := q5
  refine lv_iconst (v := 1) hx hb dX9_isRoom_6 (by decide) ?_
  refine lv_isub hx hb dX9_isRoom_7 ?_
  refine h_nm (lo := (-1)) (hi := 7) (iv_sub i_r1 kc_1 (by decide) (by decide) (by decide) (by decide)) (fun v7 e_v7 i_v7 => ?_)
  refine h_goi hI (by decide) (va_runS (As := [.int p1, .int (0 : Int32), .int v7]) (rest := []) ⟨hx, hb, hml, hown, hts⟩ (h_isIn_X9 l D g σ Z hZ0 M N R p1 (0 : Int32) v7) (va_cwS 3 hts gX9_isRoom_X9_isIn rfl rfl rfl (by decide +kernel) ⟨Nat.le_of_ble_eq_true rfl, Nat.le_of_ble_eq_true rfl⟩) (h_preS hZ0 hK hE hI) rfl rfl hl.1 rfl (lv_room (Nat.le_of_ble_eq_true rfl)) dX9_isRoom_8 ⟨Nat.le_of_ble_eq_true rfl, Nat.le_of_ble_eq_true rfl⟩) (fun r8 M9 N10 R11 H locs q12 z_M9 hI => ?_)
  obtain ⟨rfl, rfl, rfl, i_r8, z13⟩ := q12
  exact h_iret hQ hx hb hr hlocks (nar_z i_r8) hK hI ⟨rfl, rfl, rfl, i_r8, (fun h9 => iv_w ((fun h9 => iv_isin (z13 h9) kc_0 i_v7) h9) (by decide) (by decide))⟩ dX9_isRoom_11
abbrev e_h_lives_X9 : List (Nat × Nat) := []
set_option maxHeartbeats 4000000 in
set_option maxRecDepth 100000 in
theorem h_lives_X9 (l : Launch) (D : va_G) (g : Nat → ClassId) (σ : Nat → Option Nat) (Z : State → Heap → Prop) (hZ0 : hZ σ Z) (M : hM) (N : hN) (R : hR) (y : Nat) (g_y : σ y = some 9) (p1 : Int32) : Met l yX9_lives wsX9_lives ({ frames := 1, cells := 0, slots := 0, locals := 21 }) (va_Pc [.ref y, .int p1] (hPre D g σ Z M N R)) (hQi D g σ e_h_lives_X9 M (fun (r : Int32) (M1 : hM) (N1 : hN) (R1 : hR) => M = M1 ∧ N = N1 ∧ R = R1 ∧ iv r 0 1)) 0 0 (hA σ) := by
  refine h_head (cc := cX9_lives) (maxL := 2) (ret := (some .boolean)) (by decide) rfl (Nat.le_of_ble_eq_true rfl) e_h_lives_X9 ?_
  intro p e s m below meth c ls Q ar hQ hx hb hr hlocks hml hown hts hK hE H locs hI hl
  have hown : s.vm.findClass RX9 = some m.cls := hown
  have hl : lv_has ls 2 [(0, .ref y), (1, .int p1)] := hl
  refine lv_aload_n hx hb dX9_lives_0 rfl (lv_at hl 0 rfl) ?_
  refine h_getr hx hb hts iX9_lives_X9 hown hK hI g_y (by decide) rfl rfl 45 (by decide) rfl 145 rfl (hts (.fieldLink RX9 94 "CatLeasesModel" "all" "[I") (List.mem_of_getElem? (i := 1) rfl)) (fun _ h9 => h9) dX9_lives_1 (fun a1 e_a1 g_a1 => ?_)
  refine lv_bipush (v := 36) hx hb dX9_lives_4 (by decide) ?_
  refine h_iald (j := 36) (lo := (-2147483648)) (hi := 2147483647) hx hb hK hI g_a1 (by decide) rfl (iv_in (n := 39) kc_36 (by decide) (by decide)) (by decide) (iv_any _) dX9_lives_6 (fun v2 e_v2 i_v2 => ?_)
  refine lv_iload_n hx hb dX9_lives_7 rfl (lv_at hl 1 rfl) ?_
  refine h_goi hI (by decide) (va_runS (As := [.int v2, .int p1]) (rest := []) ⟨hx, hb, hml, hown, hts⟩ (h_bit_X9 l D g σ Z hZ0 M N R v2 p1) (va_cwS 2 hts gX9_lives_X9_bit rfl rfl rfl (by decide +kernel) ⟨Nat.le_of_ble_eq_true rfl, Nat.le_of_ble_eq_true rfl⟩) (h_preS hZ0 hK hE hI) rfl rfl hl.1 rfl (lv_room (Nat.le_of_ble_eq_true rfl)) dX9_lives_8 ⟨Nat.le_of_ble_eq_true rfl, Nat.le_of_ble_eq_true rfl⟩) (fun r3 M4 N5 R6 H locs q7 z_M4 hI => ?_)
  obtain ⟨rfl, rfl, rfl, i_r3, z8⟩ := q7
  exact h_iret hQ hx hb hr hlocks (nar_z i_r3) hK hI ⟨rfl, rfl, rfl, i_r3⟩ dX9_lives_11
abbrev e_h_keeperOf_X9 : List (Nat × Nat) := []
set_option maxHeartbeats 4000000 in
set_option maxRecDepth 100000 in
theorem h_keeperOf_X9 (l : Launch) (D : va_G) (g : Nat → ClassId) (σ : Nat → Option Nat) (Z : State → Heap → Prop) (hZ0 : hZ σ Z) (M : hM) (N : hN) (R : hR) (y : Nat) (g_y : σ y = some 9) (p1 : Int32) (h_p1 : iv p1 0 7) : Met l yX9_keeperOf wsX9_keeperOf ({ frames := 0, cells := 0, slots := 0, locals := 0 }) (va_Pc [.ref y, .int p1] (hPre D g σ Z M N R)) (hQi D g σ e_h_keeperOf_X9 M (fun (r : Int32) (M1 : hM) (N1 : hN) (R1 : hR) => M = M1 ∧ N = N1 ∧ R = R1 ∧ iv r (-1) 5 ∧ (r = M (R y 45) ((14 : Int32) + p1).toNatClampNeg))) 0 0 (hA σ) := by
  refine h_head (cc := cX9_keeperOf) (maxL := 2) (ret := (some .int)) (by decide) rfl (Nat.le_of_ble_eq_true rfl) e_h_keeperOf_X9 ?_
  intro p e s m below meth c ls Q ar hQ hx hb hr hlocks hml hown hts hK hE H locs hI hl
  have hown : s.vm.findClass RX9 = some m.cls := hown
  have hl : lv_has ls 2 [(0, .ref y), (1, .int p1)] := hl
  refine lv_aload_n hx hb dX9_keeperOf_0 rfl (lv_at hl 0 rfl) ?_
  refine h_getr hx hb hts iX9_keeperOf_X9 hown hK hI g_y (by decide) rfl rfl 45 (by decide) rfl 145 rfl (hts (.fieldLink RX9 94 "CatLeasesModel" "all" "[I") (List.mem_of_getElem? (i := 1) rfl)) (fun _ h9 => h9) dX9_keeperOf_1 (fun a1 e_a1 g_a1 => ?_)
  refine lv_bipush (v := 14) hx hb dX9_keeperOf_4 (by decide) ?_
  refine lv_iload_n hx hb dX9_keeperOf_6 rfl (lv_at hl 1 rfl) ?_
  refine lv_iadd hx hb dX9_keeperOf_7 ?_
  refine h_nm (lo := 14) (hi := 21) (iv_add kc_14 h_p1 (by decide) (by decide) (by decide) (by decide)) (fun v2 e_v2 i_v2 => ?_)
  refine h_iald (j := v2.toNatClampNeg) (lo := (-1)) (hi := 5) hx hb hK hI g_a1 (by decide) rfl (iv_in (n := 39) i_v2 (by decide) (by decide)) rfl (hI.iv2 (n := 39) (c := 14) (d := 22) g_a1 rfl (in_lt (iv_in (n := 39) i_v2 (by decide) (by decide))) (iv_nat1 i_v2 (by decide)) (iv_nat2 i_v2 (by decide) (by decide)) (by decide)) dX9_keeperOf_8 (fun v3 e_v3 i_v3 => ?_)
  exact h_iret hQ hx hb hr hlocks rfl hK hI ⟨rfl, rfl, rfl, i_v3, (show v3 = M (R y 45) ((14 : Int32) + p1).toNatClampNeg by rw [e_v3, e_a1, e_v2])⟩ dX9_keeperOf_9
abbrev e_h_isOut_X9 : List (Nat × Nat) := []
set_option maxHeartbeats 4000000 in
set_option maxRecDepth 100000 in
theorem h_isOut_X9 (l : Launch) (D : va_G) (g : Nat → ClassId) (σ : Nat → Option Nat) (Z : State → Heap → Prop) (hZ0 : hZ σ Z) (M : hM) (N : hN) (R : hR) (y : Nat) (g_y : σ y = some 9) (p1 : Int32) (h_p1 : iv p1 0 6) : Met l yX9_isOut wsX9_isOut ({ frames := 0, cells := 0, slots := 0, locals := 0 }) (va_Pc [.ref y, .int p1] (hPre D g σ Z M N R)) (hQi D g σ e_h_isOut_X9 M (fun (r : Int32) (M1 : hM) (N1 : hN) (R1 : hR) => M = M1 ∧ N = N1 ∧ R = R1 ∧ iv r 0 1 ∧ (r = 0 → iv (M (R y 45) p1.toNatClampNeg) 0 7))) 0 0 (hA σ) := by
  refine h_head (cc := cX9_isOut) (maxL := 2) (ret := (some .boolean)) (by decide) rfl (Nat.le_of_ble_eq_true rfl) e_h_isOut_X9 ?_
  intro p e s m below meth c ls Q ar hQ hx hb hr hlocks hml hown hts hK hE H locs hI hl
  have hown : s.vm.findClass RX9 = some m.cls := hown
  have hl : lv_has ls 2 [(0, .ref y), (1, .int p1)] := hl
  refine lv_aload_n hx hb dX9_isOut_0 rfl (lv_at hl 0 rfl) ?_
  refine h_getr hx hb hts iX9_isOut_X9 hown hK hI g_y (by decide) rfl rfl 45 (by decide) rfl 145 rfl (hts (.fieldLink RX9 94 "CatLeasesModel" "all" "[I") (List.mem_of_getElem? (i := 1) rfl)) (fun _ h9 => h9) dX9_isOut_1 (fun a1 e_a1 g_a1 => ?_)
  refine lv_iconst (v := 0) hx hb dX9_isOut_4 (by decide) ?_
  refine lv_iload_n hx hb dX9_isOut_5 rfl (lv_at hl 1 rfl) ?_
  refine lv_iadd hx hb dX9_isOut_6 ?_
  refine k_top (v := p1) (Int32.zero_add _) ?_
  refine h_iald (j := p1.toNatClampNeg) (lo := (-1)) (hi := 7) hx hb hK hI g_a1 (by decide) rfl (iv_in (n := 39) h_p1 (by decide) (by decide)) rfl (hI.iv2 (n := 39) (c := 0) (d := 7) g_a1 rfl (in_lt (iv_in (n := 39) h_p1 (by decide) (by decide))) (iv_nat1 h_p1 (by decide)) (iv_nat2 h_p1 (by decide) (by decide)) (by decide)) dX9_isOut_7 (fun v2 e_v2 i_v2 => ?_)
  refine lv_if_ge (tgt := 15) hx hb dX9_isOut_8 (by decide) (fun c3 => ?_) (fun c3 => ?_)
  · have i4 : iv v2 0 7 := iv_le2 c3 kc_0 i_v2 (by decide)
    refine lv_iconst (v := 0) hx hb dX9_isOut_15 (by decide) ?_
    have i5 : iv (M (R y 45) p1.toNatClampNeg) 0 7 := by rw [← (show v2 = M (R y 45) p1.toNatClampNeg by rw [e_v2, e_a1])]; exact i4
    exact h_iret hQ hx hb hr hlocks rfl hK hI ⟨rfl, rfl, rfl, (iv_w (lo' := 0) (hi' := 1) kc_0 (by decide) (by decide)), (fun _ => i5)⟩ dX9_isOut_16
  · have i6 : iv v2 (-1) (-1) := iv_nle2 c3 kc_0 i_v2 (by decide)
    refine lv_iconst (v := 1) hx hb dX9_isOut_11 (by decide) ?_
    refine lv_goto (tgt := 16) hx hb dX9_isOut_12 (by decide) ?_
    exact h_iret hQ hx hb hr hlocks rfl hK hI ⟨rfl, rfl, rfl, (iv_w (lo' := 0) (hi' := 1) kc_1 (by decide) (by decide)), (fun h9 => absurd h9 (by decide))⟩ dX9_isOut_16
abbrev e_h_isAtHome_X9 : List (Nat × Nat) := []
set_option maxHeartbeats 4000000 in
set_option maxRecDepth 100000 in
theorem h_isAtHome_X9 (l : Launch) (D : va_G) (g : Nat → ClassId) (σ : Nat → Option Nat) (Z : State → Heap → Prop) (hZ0 : hZ σ Z) (M : hM) (N : hN) (R : hR) (y : Nat) (g_y : σ y = some 9) (p1 : Int32) : Met l yX9_isAtHome wsX9_isAtHome ({ frames := 2, cells := 0, slots := 0, locals := 43 }) (va_Pc [.ref y, .int p1] (hPre D g σ Z M N R)) (hQi D g σ e_h_isAtHome_X9 M (fun (r : Int32) (M1 : hM) (N1 : hN) (R1 : hR) => M = M1 ∧ N = N1 ∧ R = R1 ∧ iv r 0 1 ∧ (¬ r = 0 → iv p1 0 6) ∧ (¬ r = 0 → iv (M (R y 45) p1.toNatClampNeg) 0 7 ∧ iv (M (R y 45) ((14 : Int32) + M (R y 45) p1.toNatClampNeg).toNatClampNeg) 0 5))) 0 0 (hA σ) := by
  refine h_head (cc := cX9_isAtHome) (maxL := 2) (ret := (some .boolean)) (by decide) rfl (Nat.le_of_ble_eq_true rfl) e_h_isAtHome_X9 ?_
  intro p e s m below meth c ls Q ar hQ hx hb hr hlocks hml hown hts hK hE H locs hI hl
  have hown : s.vm.findClass RX9 = some m.cls := hown
  have hl : lv_has ls 2 [(0, .ref y), (1, .int p1)] := hl
  refine lv_aload_n hx hb dX9_isAtHome_0 rfl (lv_at hl 0 rfl) ?_
  refine lv_iload_n hx hb dX9_isAtHome_1 rfl (lv_at hl 1 rfl) ?_
  refine h_goi hI (by decide) (va_runV (As := [.int p1]) (rest := []) ⟨hx, hb, hml, hown, hts⟩ (h_isTenant_X9 l D g σ Z hZ0 M N R y g_y p1) (cwV 1 hts gX9_isAtHome_X9_isTenant rfl rfl rfl (by decide +kernel) ⟨Nat.le_of_ble_eq_true rfl, Nat.le_of_ble_eq_true rfl⟩) (h_preV hZ0 hK hE hI g_y (by decide) rfl) rfl rfl hl.1 rfl (lv_room (Nat.le_of_ble_eq_true rfl)) dX9_isAtHome_2 ⟨Nat.le_of_ble_eq_true rfl, Nat.le_of_ble_eq_true rfl⟩) (fun r1 M2 N3 R4 H locs q5 z_M2 hI => ?_)
  obtain ⟨rfl, rfl, rfl, i_r1, z6⟩ := q5
  refine lv_if_eq (tgt := 35) hx hb dX9_isAtHome_5 (by decide) (fun c7 => ?_) (fun c7 => ?_)
  · have i8 : iv r1 0 0 := iv_eq1 c7 i_r1 kc_0
    refine lv_iconst (v := 0) hx hb dX9_isAtHome_35 (by decide) ?_
    exact h_iret hQ hx hb hr hlocks rfl hK hI ⟨rfl, rfl, rfl, (iv_w (lo' := 0) (hi' := 1) kc_0 (by decide) (by decide)), (fun h9 => absurd rfl h9), (fun h9 => absurd rfl h9)⟩ dX9_isAtHome_36
  · have i9 : iv p1 0 6 := z6 c7
    have i10 : iv r1 1 1 := iv_neL c7 i_r1 (by decide) (by decide)
    refine lv_aload_n hx hb dX9_isAtHome_8 rfl (lv_at hl 0 rfl) ?_
    refine lv_iload_n hx hb dX9_isAtHome_9 rfl (lv_at hl 1 rfl) ?_
    refine h_goi hI (by decide) (va_runV (As := [.int p1]) (rest := []) ⟨hx, hb, hml, hown, hts⟩ (h_isOut_X9 l D g σ Z hZ0 M N R y g_y p1 i9) (cwV 1 hts gX9_isAtHome_X9_isOut rfl rfl rfl (by decide +kernel) ⟨Nat.le_of_ble_eq_true rfl, Nat.le_of_ble_eq_true rfl⟩) (h_preV hZ0 hK hE hI g_y (by decide) rfl) rfl rfl hl.1 rfl (lv_room (Nat.le_of_ble_eq_true rfl)) dX9_isAtHome_10 ⟨Nat.le_of_ble_eq_true rfl, Nat.le_of_ble_eq_true rfl⟩) (fun r11 M12 N13 R14 H locs q15 z_M12 hI => ?_)
    obtain ⟨rfl, rfl, rfl, i_r11, z16⟩ := q15
    refine lv_if_ne (tgt := 35) hx hb dX9_isAtHome_13 (by decide) (fun c17 => ?_) (fun c17 => ?_)
    · have i18 : iv r11 1 1 := iv_neL c17 i_r11 (by decide) (by decide)
      refine lv_iconst (v := 0) hx hb dX9_isAtHome_35 (by decide) ?_
      exact h_iret hQ hx hb hr hlocks rfl hK hI ⟨rfl, rfl, rfl, (iv_w (lo' := 0) (hi' := 1) kc_0 (by decide) (by decide)), (fun h9 => absurd rfl h9), (fun h9 => absurd rfl h9)⟩ dX9_isAtHome_36
    · have i19 := z16 c17
      have i20 : iv r11 0 0 := iv_eq1 c17 i_r11 kc_0
      refine lv_aload_n hx hb dX9_isAtHome_16 rfl (lv_at hl 0 rfl) ?_
      refine lv_aload_n hx hb dX9_isAtHome_17 rfl (lv_at hl 0 rfl) ?_
      refine h_getr hx hb hts iX9_isAtHome_X9 hown hK hI g_y (by decide) rfl rfl 45 (by decide) rfl 145 rfl (hts (.fieldLink RX9 94 "CatLeasesModel" "all" "[I") (List.mem_of_getElem? (i := 1) rfl)) (fun _ h9 => h9) dX9_isAtHome_18 (fun a21 e_a21 g_a21 => ?_)
      refine lv_iconst (v := 0) hx hb dX9_isAtHome_21 (by decide) ?_
      refine lv_iload_n hx hb dX9_isAtHome_22 rfl (lv_at hl 1 rfl) ?_
      refine lv_iadd hx hb dX9_isAtHome_23 ?_
      refine k_top (v := p1) (Int32.zero_add _) ?_
      refine h_iald (j := p1.toNatClampNeg) (lo := (-1)) (hi := 7) hx hb hK hI g_a21 (by decide) rfl (iv_in (n := 39) i9 (by decide) (by decide)) rfl (hI.iv2 (n := 39) (c := 0) (d := 7) g_a21 rfl (in_lt (iv_in (n := 39) i9 (by decide) (by decide))) (iv_nat1 i9 (by decide)) (iv_nat2 i9 (by decide) (by decide)) (by decide)) dX9_isAtHome_24 (fun v22 e_v22 i_v22 => ?_)
      have i23 : iv v22 0 7 := by rw [e_v22, e_a21]; exact i19
      refine h_goi hI (by decide) (va_runV (As := [.int v22]) (rest := []) ⟨hx, hb, hml, hown, hts⟩ (h_keeperOf_X9 l D g σ Z hZ0 M N R y g_y v22 i23) (cwV 1 hts gX9_isAtHome_X9_keeperOf rfl rfl rfl (by decide +kernel) ⟨Nat.le_of_ble_eq_true rfl, Nat.le_of_ble_eq_true rfl⟩) (h_preV hZ0 hK hE hI g_y (by decide) rfl) rfl rfl hl.1 rfl (lv_room (Nat.le_of_ble_eq_true rfl)) dX9_isAtHome_25 ⟨Nat.le_of_ble_eq_true rfl, Nat.le_of_ble_eq_true rfl⟩) (fun r24 M25 N26 R27 H locs q28 z_M25 hI => ?_)
      obtain ⟨rfl, rfl, rfl, i_r24, z29⟩ := q28
      refine lv_if_lt (tgt := 35) hx hb dX9_isAtHome_28 (by decide) (fun c30 => ?_) (fun c30 => ?_)
      · have i31 : iv r24 (-1) (-1) := iv_lt1 c30 i_r24 kc_0 (by decide)
        refine lv_iconst (v := 0) hx hb dX9_isAtHome_35 (by decide) ?_
        exact h_iret hQ hx hb hr hlocks rfl hK hI ⟨rfl, rfl, rfl, (iv_w (lo' := 0) (hi' := 1) kc_0 (by decide) (by decide)), (fun h9 => absurd rfl h9), (fun h9 => absurd rfl h9)⟩ dX9_isAtHome_36
      · have i32 : iv r24 0 5 := iv_nlt1 c30 i_r24 kc_0 (by decide)
        refine lv_iconst (v := 1) hx hb dX9_isAtHome_31 (by decide) ?_
        refine lv_goto (tgt := 36) hx hb dX9_isAtHome_32 (by decide) ?_
        have i33 : iv (M (R y 45) ((14 : Int32) + v22).toNatClampNeg) 0 5 := by rw [← z29]; exact i32
        exact h_iret hQ hx hb hr hlocks rfl hK hI ⟨rfl, rfl, rfl, (iv_w (lo' := 0) (hi' := 1) kc_1 (by decide) (by decide)), (fun _ => i9), (fun _ => ⟨i19, by rw [← (show v22 = M (R y 45) p1.toNatClampNeg by rw [e_v22, e_a21])]; exact i33⟩)⟩ dX9_isAtHome_36
abbrev e_h_whoIn_X9 : List (Nat × Nat) := []
set_option maxHeartbeats 4000000 in
set_option maxRecDepth 100000 in
theorem h_whoIn_X9 (l : Launch) (D : va_G) (g : Nat → ClassId) (σ : Nat → Option Nat) (Z : State → Heap → Prop) (hZ0 : hZ σ Z) (M : hM) (N : hN) (R : hR) (y : Nat) (g_y : σ y = some 9) (p1 : Int32) : Met l yX9_whoIn wsX9_whoIn ({ frames := 1, cells := 0, slots := 0, locals := 20 }) (va_Pc [.ref y, .int p1] (hPre D g σ Z M N R)) (hQi D g σ e_h_whoIn_X9 M (fun (r : Int32) (M1 : hM) (N1 : hN) (R1 : hR) => M = M1 ∧ N = N1 ∧ R = R1 ∧ iv r (-1) 6)) 0 0 (hA σ) := by
  refine h_head (cc := cX9_whoIn) (maxL := 3) (ret := (some .int)) (by decide) rfl (Nat.le_of_ble_eq_true rfl) e_h_whoIn_X9 ?_
  intro p e s m below meth c ls Q ar hQ hx hb hr hlocks hml hown hts hK hE H locs hI hl
  have hown : s.vm.findClass RX9 = some m.cls := hown
  have hl : lv_has ls 3 [(0, .ref y), (1, .int p1)] := hl
  refine lv_iconst (v := 0) hx hb dX9_whoIn_0 (by decide) ?_
  have J2 : ∀ (n : Nat) (v2_2 : Int32) (H : Heap) (locs : List Loc) (ls : Array Slot), kI D g σ e_h_whoIn_X9 M s.heap M N R H locs → lv_has ls 3 [(0, .ref y), (1, .int p1), (2, .int v2_2)] → iv v2_2 0 7 → 8 ≤ v2_2.toInt + (n : Int) → W p l e (headSpec wsX9_whoIn ({ frames := 1, cells := 0, slots := 0, locals := 20 })).room s m ar below meth c H locs 0 0 Q (F0 m 2 ls []) := by
    intro n
    induction n with
    | zero => intro v2_2 H locs ls hI hl i_v2_2 hn; exfalso; have hz := i_v2_2; simp only [iv] at hz; omega
    | succ n ih2 =>
      intro v2_2 H locs ls hI hl i_v2_2 hn2
      refine lv_iload_n hx hb dX9_whoIn_2 rfl (lv_at hl 2 rfl) ?_
      refine lv_aload_n hx hb dX9_whoIn_3 rfl (lv_at hl 0 rfl) ?_
      refine h_goi hI (by decide) (va_runV (As := []) (rest := [.int v2_2]) ⟨hx, hb, hml, hown, hts⟩ (h_many_X9 l D g σ Z hZ0 M N R y g_y) (cwV 0 hts gX9_whoIn_X9_many rfl rfl rfl (by decide +kernel) ⟨Nat.le_of_ble_eq_true rfl, Nat.le_of_ble_eq_true rfl⟩) (h_preV hZ0 hK hE hI g_y (by decide) rfl) rfl rfl hl.1 rfl (lv_room (Nat.le_of_ble_eq_true rfl)) dX9_whoIn_4 ⟨Nat.le_of_ble_eq_true rfl, Nat.le_of_ble_eq_true rfl⟩) (fun r1 M2 N3 R4 H locs q5 z_M2 hI => ?_)
      obtain ⟨rfl, rfl, rfl, i_r1, z6⟩ := q5
      refine lv_icmp_ge (tgt := 30) hx hb dX9_whoIn_7 (by decide) (fun c7 => ?_) (fun c7 => ?_)
      · refine lv_iconst (v := (-1)) hx hb dX9_whoIn_30 (by decide) ?_
        exact h_iret hQ hx hb hr hlocks rfl hK hI ⟨rfl, rfl, rfl, (iv_w (lo' := (-1)) (hi' := 6) kc_m1 (by decide) (by decide))⟩ dX9_whoIn_31
      · have i8 : iv r1 1 7 := iv_nle1 c7 i_r1 i_v2_2 (by decide)
        have i9 : iv v2_2 0 6 := iv_nle2 c7 i_r1 i_v2_2 (by decide)
        refine lv_aload_n hx hb dX9_whoIn_10 rfl (lv_at hl 0 rfl) ?_
        refine h_getr hx hb hts iX9_whoIn_X9 hown hK hI g_y (by decide) rfl rfl 45 (by decide) rfl 145 rfl (hts (.fieldLink RX9 94 "CatLeasesModel" "all" "[I") (List.mem_of_getElem? (i := 1) rfl)) (fun _ h9 => h9) dX9_whoIn_11 (fun a10 e_a10 g_a10 => ?_)
        refine lv_iconst (v := 0) hx hb dX9_whoIn_14 (by decide) ?_
        refine lv_iload_n hx hb dX9_whoIn_15 rfl (lv_at hl 2 rfl) ?_
        refine lv_iadd hx hb dX9_whoIn_16 ?_
        refine k_top (v := v2_2) (Int32.zero_add _) ?_
        refine h_iald (j := v2_2.toNatClampNeg) (lo := (-1)) (hi := 7) hx hb hK hI g_a10 (by decide) rfl (iv_in (n := 39) i9 (by decide) (by decide)) rfl (hI.iv2 (n := 39) (c := 0) (d := 7) g_a10 rfl (in_lt (iv_in (n := 39) i9 (by decide) (by decide))) (iv_nat1 i9 (by decide)) (iv_nat2 i9 (by decide) (by decide)) (by decide)) dX9_whoIn_17 (fun v11 e_v11 i_v11 => ?_)
        refine lv_iload_n hx hb dX9_whoIn_18 rfl (lv_at hl 1 rfl) ?_
        refine lv_icmp_ne (tgt := 24) hx hb dX9_whoIn_19 (by decide) (fun c12 => ?_) (fun c12 => ?_)
        · obtain ⟨v13, e_v13⟩ : ∃ z : Int32, z = v2_2 + Int32.ofInt 1 := ⟨_, rfl⟩
          have i_v13 : iv v13 1 7 := by rw [e_v13]; exact iv_add i9 (ki_1) (by decide) (by decide) (by decide) (by decide)
          refine lv_iinc (v := v13) (lv' := [(2, .int v13), (0, .ref y), (1, .int p1)]) hx hb dX9_whoIn_24 hl (k := 2) rfl e_v13.symm (by decide) rfl (fun ls hl => ?_)
          refine lv_goto (tgt := 2) hx hb dX9_whoIn_27 (by decide) ?_
          exact ih2 v13 H locs ls hI (lv_sub hl [1, 2, 0] rfl) (iv_w (lo' := 0) (hi' := 7) i_v13 (by decide) (by decide)) (by have h9 := (h_inc e_v13 i9 ki_1 (by decide) (by decide)); omega)
        · have i14 : iv p1 (-1) 7 := iv_eq2 c12 i_v11 (iv_any p1)
          refine lv_iload_n hx hb dX9_whoIn_22 rfl (lv_at hl 2 rfl) ?_
          exact h_iret hQ hx hb hr hlocks rfl hK hI ⟨rfl, rfl, rfl, (iv_w (lo' := (-1)) (hi' := 6) i9 (by decide) (by decide))⟩ dX9_whoIn_23
  refine lv_istore_n (lv' := [(2, .int (0 : Int32)), (0, .ref y), (1, .int p1)]) hx hb dX9_whoIn_1 rfl hl (by decide) rfl (fun ls hl => ?_)
  exact J2 8 (0 : Int32) H locs ls hI (lv_sub hl [1, 2, 0] rfl) (iv_w (lo' := 0) (hi' := 7) kc_0 (by decide) (by decide)) (by have h9 := kc_0; simp only [iv] at h9; omega)
abbrev e_h_roomsOf_X9 : List (Nat × Nat) := []
set_option maxHeartbeats 4000000 in
set_option maxRecDepth 100000 in
theorem h_roomsOf_X9 (l : Launch) (D : va_G) (g : Nat → ClassId) (σ : Nat → Option Nat) (Z : State → Heap → Prop) (hZ0 : hZ σ Z) (M : hM) (N : hN) (R : hR) (y : Nat) (g_y : σ y = some 9) (p1 : Int32) : Met l yX9_roomsOf wsX9_roomsOf ({ frames := 1, cells := 0, slots := 0, locals := 21 }) (va_Pc [.ref y, .int p1] (hPre D g σ Z M N R)) (hQi D g σ e_h_roomsOf_X9 M (fun (r : Int32) (M1 : hM) (N1 : hN) (R1 : hR) => M = M1 ∧ N = N1 ∧ R = R1 ∧ iv r 0 255 ∧ (RO M R y p1 r))) 0 0 (hA σ) := by
  refine h_head (cc := cX9_roomsOf) (maxL := 4) (ret := (some .int)) (by decide) rfl (Nat.le_of_ble_eq_true rfl) e_h_roomsOf_X9 ?_
  intro p e s m below meth c ls Q ar hQ hx hb hr hlocks hml hown hts hK hE H locs hI hl
  have hown : s.vm.findClass RX9 = some m.cls := hown
  have hl : lv_has ls 4 [(0, .ref y), (1, .int p1)] := hl
  refine lv_iconst (v := 0) hx hb dX9_roomsOf_0 (by decide) ?_
  refine lv_istore_n (lv' := [(2, .int (0 : Int32)), (0, .ref y), (1, .int p1)]) hx hb dX9_roomsOf_1 rfl hl (by decide) rfl (fun ls hl => ?_)
  refine lv_iconst (v := 0) hx hb dX9_roomsOf_2 (by decide) ?_
  have J4 : ∀ (n : Nat) (v2_4 : Int32) (v3_4 : Int32) (H : Heap) (locs : List Loc) (ls : Array Slot), kI D g σ e_h_roomsOf_X9 M s.heap M N R H locs → lv_has ls 4 [(0, .ref y), (1, .int p1), (2, .int v2_4), (3, .int v3_4)] → iv v2_4 0 255 → iv v3_4 0 8 → RO M R y p1 v2_4 → 9 ≤ v3_4.toInt + (n : Int) → W p l e (headSpec wsX9_roomsOf ({ frames := 1, cells := 0, slots := 0, locals := 21 })).room s m ar below meth c H locs 0 0 Q (F0 m 4 ls []) := by
    intro n
    induction n with
    | zero => intro v2_4 v3_4 H locs ls hI hl i_v2_4 i_v3_4 hro_4 hn; exfalso; have hz := i_v3_4; simp only [iv] at hz; omega
    | succ n ih4 =>
      intro v2_4 v3_4 H locs ls hI hl i_v2_4 i_v3_4 hro_4 hn4
      refine lv_iload_n hx hb dX9_roomsOf_4 rfl (lv_at hl 3 rfl) ?_
      refine lv_aload_n hx hb dX9_roomsOf_5 rfl (lv_at hl 0 rfl) ?_
      refine h_goi hI (by decide) (va_runV (As := []) (rest := [.int v3_4]) ⟨hx, hb, hml, hown, hts⟩ (h_chambers_X9 l D g σ Z hZ0 M N R y g_y) (cwV 0 hts gX9_roomsOf_X9_chambers rfl rfl rfl (by decide +kernel) ⟨Nat.le_of_ble_eq_true rfl, Nat.le_of_ble_eq_true rfl⟩) (h_preV hZ0 hK hE hI g_y (by decide) rfl) rfl rfl hl.1 rfl (lv_room (Nat.le_of_ble_eq_true rfl)) dX9_roomsOf_6 ⟨Nat.le_of_ble_eq_true rfl, Nat.le_of_ble_eq_true rfl⟩) (fun r1 M2 N3 R4 H locs q5 z_M2 hI => ?_)
      obtain ⟨rfl, rfl, rfl, i_r1, z6⟩ := q5
      refine lv_icmp_ge (tgt := 33) hx hb dX9_roomsOf_9 (by decide) (fun c7 => ?_) (fun c7 => ?_)
      · refine lv_iload_n hx hb dX9_roomsOf_33 rfl (lv_at hl 2 rfl) ?_
        exact h_iret hQ hx hb hr hlocks rfl hK hI ⟨rfl, rfl, rfl, i_v2_4, hro_4⟩ dX9_roomsOf_34
      · have i8 : iv r1 1 8 := iv_nle1 c7 i_r1 i_v3_4 (by decide)
        have i9 : iv v3_4 0 7 := iv_nle2 c7 i_r1 i_v3_4 (by decide)
        refine lv_aload_n hx hb dX9_roomsOf_12 rfl (lv_at hl 0 rfl) ?_
        refine lv_iload_n hx hb dX9_roomsOf_13 rfl (lv_at hl 3 rfl) ?_
        refine h_goi hI (by decide) (va_runV (As := [.int v3_4]) (rest := []) ⟨hx, hb, hml, hown, hts⟩ (h_keeperOf_X9 l D g σ Z hZ0 M N R y g_y v3_4 i9) (cwV 1 hts gX9_roomsOf_X9_keeperOf rfl rfl rfl (by decide +kernel) ⟨Nat.le_of_ble_eq_true rfl, Nat.le_of_ble_eq_true rfl⟩) (h_preV hZ0 hK hE hI g_y (by decide) rfl) rfl rfl hl.1 rfl (lv_room (Nat.le_of_ble_eq_true rfl)) dX9_roomsOf_14 ⟨Nat.le_of_ble_eq_true rfl, Nat.le_of_ble_eq_true rfl⟩) (fun r10 M11 N12 R13 H locs q14 z_M11 hI => ?_)
        obtain ⟨rfl, rfl, rfl, i_r10, z15⟩ := q14
        refine lv_iload_n hx hb dX9_roomsOf_17 rfl (lv_at hl 1 rfl) ?_
        have J27 : ∀ (v2_27 : Int32) (H : Heap) (locs : List Loc) (ls : Array Slot), kI D g σ e_h_roomsOf_X9 M s.heap M N R H locs → lv_has ls 4 [(0, .ref y), (1, .int p1), (2, .int v2_27), (3, .int v3_4)] → iv v2_27 0 255 → RO M R y p1 v2_27 → W p l e (headSpec wsX9_roomsOf ({ frames := 1, cells := 0, slots := 0, locals := 21 })).room s m ar below meth c H locs 0 0 Q (F0 m 27 ls []) := by
          intro v2_27 H locs ls hI hl i_v2_27 hro_27
          obtain ⟨v16, e_v16⟩ : ∃ z : Int32, z = v3_4 + Int32.ofInt 1 := ⟨_, rfl⟩
          have i_v16 : iv v16 1 8 := by rw [e_v16]; exact iv_add i9 (ki_1) (by decide) (by decide) (by decide) (by decide)
          refine lv_iinc (v := v16) (lv' := [(3, .int v16), (0, .ref y), (1, .int p1), (2, .int v2_27)]) hx hb dX9_roomsOf_27 hl (k := 3) rfl e_v16.symm (by decide) rfl (fun ls hl => ?_)
          refine lv_goto (tgt := 4) hx hb dX9_roomsOf_30 (by decide) ?_
          exact ih4 v2_27 v16 H locs ls hI (lv_sub hl [1, 2, 3, 0] rfl) i_v2_27 (iv_w (lo' := 0) (hi' := 8) i_v16 (by decide) (by decide)) hro_27 (by have h9 := (h_inc e_v16 i9 ki_1 (by decide) (by decide)); omega)
        refine lv_icmp_ne (tgt := 27) hx hb dX9_roomsOf_18 (by decide) (fun c17 => ?_) (fun c17 => ?_)
        · exact J27 v2_4 H locs ls hI hl i_v2_4 hro_4
        · have i18 : iv p1 (-1) 5 := iv_eq2 c17 i_r10 (iv_any p1)
          refine lv_iload_n hx hb dX9_roomsOf_21 rfl (lv_at hl 2 rfl) ?_
          refine lv_iconst (v := 1) hx hb dX9_roomsOf_22 (by decide) ?_
          refine lv_iload_n hx hb dX9_roomsOf_23 rfl (lv_at hl 3 rfl) ?_
          refine lv_ishl hx hb dX9_roomsOf_24 ?_
          refine h_nm (lo := 1) (hi := 128) (iv_shl1 7 i9 (by decide) (by decide) (by decide) (by decide) (by decide)) (fun v19 e_v19 i_v19 => ?_)
          refine lv_ior hx hb dX9_roomsOf_25 ?_
          refine h_nm (lo := 0) (hi := 255) (iv_or 8 i_v2_4 i_v19 (by decide) (by decide) (by decide) (by decide) (by decide) (by decide)) (fun v20 e_v20 i_v20 => ?_)
          refine lv_istore_n (lv' := [(2, .int v20), (0, .ref y), (1, .int p1), (3, .int v3_4)]) hx hb dX9_roomsOf_26 rfl hl (by decide) rfl (fun ls hl => ?_)
          exact J27 v20 H locs ls hI (lv_sub hl [1, 2, 0, 3] rfl) i_v20 (RO_or hro_4 i9 e_v19 e_v20 (by rw [← z15]; exact c17))
  refine lv_istore_n (lv' := [(3, .int (0 : Int32)), (2, .int (0 : Int32)), (0, .ref y), (1, .int p1)]) hx hb dX9_roomsOf_3 rfl hl (by decide) rfl (fun ls hl => ?_)
  exact J4 9 (0 : Int32) (0 : Int32) H locs ls hI (lv_sub hl [2, 3, 1, 0] rfl) (iv_w (lo' := 0) (hi' := 255) kc_0 (by decide) (by decide)) (iv_w (lo' := 0) (hi' := 8) kc_0 (by decide) (by decide)) RO_0 (by have h9 := kc_0; simp only [iv] at h9; omega)
abbrev e_h_thoseIn_X9 : List (Nat × Nat) := []
set_option maxHeartbeats 4000000 in
set_option maxRecDepth 100000 in
theorem h_thoseIn_X9 (l : Launch) (D : va_G) (g : Nat → ClassId) (σ : Nat → Option Nat) (Z : State → Heap → Prop) (hZ0 : hZ σ Z) (M : hM) (N : hN) (R : hR) (y : Nat) (g_y : σ y = some 9) (p1 : Int32) : Met l yX9_thoseIn wsX9_thoseIn ({ frames := 1, cells := 0, slots := 0, locals := 21 }) (va_Pc [.ref y, .int p1] (hPre D g σ Z M N R)) (hQi D g σ e_h_thoseIn_X9 M (fun (r : Int32) (M1 : hM) (N1 : hN) (R1 : hR) => M = M1 ∧ N = N1 ∧ R = R1 ∧ iv r 0 255 ∧ (TI M R y p1 r))) 0 0 (hA σ) := by
  refine h_head (cc := cX9_thoseIn) (maxL := 4) (ret := (some .int)) (by decide) rfl (Nat.le_of_ble_eq_true rfl) e_h_thoseIn_X9 ?_
  intro p e s m below meth c ls Q ar hQ hx hb hr hlocks hml hown hts hK hE H locs hI hl
  have hown : s.vm.findClass RX9 = some m.cls := hown
  have hl : lv_has ls 4 [(0, .ref y), (1, .int p1)] := hl
  refine lv_iconst (v := 0) hx hb dX9_thoseIn_0 (by decide) ?_
  refine lv_istore_n (lv' := [(2, .int (0 : Int32)), (0, .ref y), (1, .int p1)]) hx hb dX9_thoseIn_1 rfl hl (by decide) rfl (fun ls hl => ?_)
  refine lv_iconst (v := 0) hx hb dX9_thoseIn_2 (by decide) ?_
  have J4 : ∀ (n : Nat) (v2_4 : Int32) (v3_4 : Int32) (H : Heap) (locs : List Loc) (ls : Array Slot), kI D g σ e_h_thoseIn_X9 M s.heap M N R H locs → lv_has ls 4 [(0, .ref y), (1, .int p1), (2, .int v2_4), (3, .int v3_4)] → iv v2_4 0 255 → iv v3_4 0 7 → TI M R y p1 v2_4 → 8 ≤ v3_4.toInt + (n : Int) → W p l e (headSpec wsX9_thoseIn ({ frames := 1, cells := 0, slots := 0, locals := 21 })).room s m ar below meth c H locs 0 0 Q (F0 m 4 ls []) := by
    intro n
    induction n with
    | zero => intro v2_4 v3_4 H locs ls hI hl i_v2_4 i_v3_4 hro_4 hn; exfalso; have hz := i_v3_4; simp only [iv] at hz; omega
    | succ n ih4 =>
      intro v2_4 v3_4 H locs ls hI hl i_v2_4 i_v3_4 hro_4 hn4
      refine lv_iload_n hx hb dX9_thoseIn_4 rfl (lv_at hl 3 rfl) ?_
      refine lv_aload_n hx hb dX9_thoseIn_5 rfl (lv_at hl 0 rfl) ?_
      refine h_goi hI (by decide) (va_runV (As := []) (rest := [.int v3_4]) ⟨hx, hb, hml, hown, hts⟩ (h_many_X9 l D g σ Z hZ0 M N R y g_y) (cwV 0 hts gX9_thoseIn_X9_many rfl rfl rfl (by decide +kernel) ⟨Nat.le_of_ble_eq_true rfl, Nat.le_of_ble_eq_true rfl⟩) (h_preV hZ0 hK hE hI g_y (by decide) rfl) rfl rfl hl.1 rfl (lv_room (Nat.le_of_ble_eq_true rfl)) dX9_thoseIn_6 ⟨Nat.le_of_ble_eq_true rfl, Nat.le_of_ble_eq_true rfl⟩) (fun r1 M2 N3 R4 H locs q5 z_M2 hI => ?_)
      obtain ⟨rfl, rfl, rfl, i_r1, z6⟩ := q5
      refine lv_icmp_ge (tgt := 47) hx hb dX9_thoseIn_9 (by decide) (fun c7 => ?_) (fun c7 => ?_)
      · refine lv_iload_n hx hb dX9_thoseIn_47 rfl (lv_at hl 2 rfl) ?_
        exact h_iret hQ hx hb hr hlocks rfl hK hI ⟨rfl, rfl, rfl, i_v2_4, hro_4⟩ dX9_thoseIn_48
      · have i8 : iv r1 1 7 := iv_nle1 c7 i_r1 i_v3_4 (by decide)
        have i9 : iv v3_4 0 6 := iv_nle2 c7 i_r1 i_v3_4 (by decide)
        refine lv_aload_n hx hb dX9_thoseIn_12 rfl (lv_at hl 0 rfl) ?_
        refine lv_iload_n hx hb dX9_thoseIn_13 rfl (lv_at hl 3 rfl) ?_
        refine h_goi hI (by decide) (va_runV (As := [.int v3_4]) (rest := []) ⟨hx, hb, hml, hown, hts⟩ (h_isOut_X9 l D g σ Z hZ0 M N R y g_y v3_4 i9) (cwV 1 hts gX9_thoseIn_X9_isOut rfl rfl rfl (by decide +kernel) ⟨Nat.le_of_ble_eq_true rfl, Nat.le_of_ble_eq_true rfl⟩) (h_preV hZ0 hK hE hI g_y (by decide) rfl) rfl rfl hl.1 rfl (lv_room (Nat.le_of_ble_eq_true rfl)) dX9_thoseIn_14 ⟨Nat.le_of_ble_eq_true rfl, Nat.le_of_ble_eq_true rfl⟩) (fun r10 M11 N12 R13 H locs q14 z_M11 hI => ?_)
        obtain ⟨rfl, rfl, rfl, i_r10, z15⟩ := q14
        have J41 : ∀ (v2_41 : Int32) (H : Heap) (locs : List Loc) (ls : Array Slot), kI D g σ e_h_thoseIn_X9 M s.heap M N R H locs → lv_has ls 4 [(0, .ref y), (1, .int p1), (2, .int v2_41), (3, .int v3_4)] → iv v2_41 0 255 → TI M R y p1 v2_41 → W p l e (headSpec wsX9_thoseIn ({ frames := 1, cells := 0, slots := 0, locals := 21 })).room s m ar below meth c H locs 0 0 Q (F0 m 41 ls []) := by
          intro v2_41 H locs ls hI hl i_v2_41 hro_41
          obtain ⟨v16, e_v16⟩ : ∃ z : Int32, z = v3_4 + Int32.ofInt 1 := ⟨_, rfl⟩
          have i_v16 : iv v16 1 7 := by rw [e_v16]; exact iv_add i9 (ki_1) (by decide) (by decide) (by decide) (by decide)
          refine lv_iinc (v := v16) (lv' := [(3, .int v16), (0, .ref y), (1, .int p1), (2, .int v2_41)]) hx hb dX9_thoseIn_41 hl (k := 3) rfl e_v16.symm (by decide) rfl (fun ls hl => ?_)
          refine lv_goto (tgt := 4) hx hb dX9_thoseIn_44 (by decide) ?_
          exact ih4 v2_41 v16 H locs ls hI (lv_sub hl [1, 2, 3, 0] rfl) i_v2_41 (iv_w (lo' := 0) (hi' := 7) i_v16 (by decide) (by decide)) hro_41 (by have h9 := (h_inc e_v16 i9 ki_1 (by decide) (by decide)); omega)
        refine lv_if_ne (tgt := 41) hx hb dX9_thoseIn_17 (by decide) (fun c17 => ?_) (fun c17 => ?_)
        · have i18 : iv r10 1 1 := iv_neL c17 i_r10 (by decide) (by decide)
          exact J41 v2_4 H locs ls hI hl i_v2_4 hro_4
        · have i19 := z15 c17
          have i20 : iv r10 0 0 := iv_eq1 c17 i_r10 kc_0
          refine lv_iload_n hx hb dX9_thoseIn_20 rfl (lv_at hl 1 rfl) ?_
          refine lv_aload_n hx hb dX9_thoseIn_21 rfl (lv_at hl 0 rfl) ?_
          refine h_getr hx hb hts iX9_thoseIn_X9 hown hK hI g_y (by decide) rfl rfl 45 (by decide) rfl 145 rfl (hts (.fieldLink RX9 94 "CatLeasesModel" "all" "[I") (List.mem_of_getElem? (i := 1) rfl)) (fun _ h9 => h9) dX9_thoseIn_22 (fun a21 e_a21 g_a21 => ?_)
          refine lv_iconst (v := 0) hx hb dX9_thoseIn_25 (by decide) ?_
          refine lv_iload_n hx hb dX9_thoseIn_26 rfl (lv_at hl 3 rfl) ?_
          refine lv_iadd hx hb dX9_thoseIn_27 ?_
          refine k_top (v := v3_4) (Int32.zero_add _) ?_
          refine h_iald (j := v3_4.toNatClampNeg) (lo := (-1)) (hi := 7) hx hb hK hI g_a21 (by decide) rfl (iv_in (n := 39) i9 (by decide) (by decide)) rfl (hI.iv2 (n := 39) (c := 0) (d := 7) g_a21 rfl (in_lt (iv_in (n := 39) i9 (by decide) (by decide))) (iv_nat1 i9 (by decide)) (iv_nat2 i9 (by decide) (by decide)) (by decide)) dX9_thoseIn_28 (fun v22 e_v22 i_v22 => ?_)
          have i23 : iv v22 0 7 := by rw [e_v22, e_a21]; exact i19
          refine h_goi hI (by decide) (va_runS (As := [.int p1, .int v22]) (rest := []) ⟨hx, hb, hml, hown, hts⟩ (h_bit_X9 l D g σ Z hZ0 M N R p1 v22) (va_cwS 2 hts gX9_thoseIn_X9_bit rfl rfl rfl (by decide +kernel) ⟨Nat.le_of_ble_eq_true rfl, Nat.le_of_ble_eq_true rfl⟩) (h_preS hZ0 hK hE hI) rfl rfl hl.1 rfl (lv_room (Nat.le_of_ble_eq_true rfl)) dX9_thoseIn_29 ⟨Nat.le_of_ble_eq_true rfl, Nat.le_of_ble_eq_true rfl⟩) (fun r24 M25 N26 R27 H locs q28 z_M25 hI => ?_)
          obtain ⟨rfl, rfl, rfl, i_r24, z29⟩ := q28
          refine lv_if_eq (tgt := 41) hx hb dX9_thoseIn_32 (by decide) (fun c30 => ?_) (fun c30 => ?_)
          · have i31 : iv r24 0 0 := iv_eq1 c30 i_r24 kc_0
            exact J41 v2_4 H locs ls hI hl i_v2_4 hro_4
          · have i32 : iv r24 1 1 := iv_neL c30 i_r24 (by decide) (by decide)
            refine lv_iload_n hx hb dX9_thoseIn_35 rfl (lv_at hl 2 rfl) ?_
            refine lv_iconst (v := 1) hx hb dX9_thoseIn_36 (by decide) ?_
            refine lv_iload_n hx hb dX9_thoseIn_37 rfl (lv_at hl 3 rfl) ?_
            refine lv_ishl hx hb dX9_thoseIn_38 ?_
            refine h_nm (lo := 1) (hi := 64) (iv_shl1 6 i9 (by decide) (by decide) (by decide) (by decide) (by decide)) (fun v33 e_v33 i_v33 => ?_)
            refine lv_ior hx hb dX9_thoseIn_39 ?_
            refine h_nm (lo := 0) (hi := 255) (iv_or 8 i_v2_4 i_v33 (by decide) (by decide) (by decide) (by decide) (by decide) (by decide)) (fun v34 e_v34 i_v34 => ?_)
            refine lv_istore_n (lv' := [(2, .int v34), (0, .ref y), (1, .int p1), (3, .int v3_4)]) hx hb dX9_thoseIn_40 rfl hl (by decide) rfl (fun ls hl => ?_)
            exact J41 v34 H locs ls hI (lv_sub hl [1, 2, 0, 3] rfl) i_v34 (TI_or hro_4 i9 e_v33 e_v34 (by rw [← (show v22 = M (R y 45) v3_4.toNatClampNeg by rw [e_v22, e_a21])]; exact i23) (by rw [← (show v22 = M (R y 45) v3_4.toNatClampNeg by rw [e_v22, e_a21])]; exact (z29 c30)))
  refine lv_istore_n (lv' := [(3, .int (0 : Int32)), (2, .int (0 : Int32)), (0, .ref y), (1, .int p1)]) hx hb dX9_thoseIn_3 rfl hl (by decide) rfl (fun ls hl => ?_)
  exact J4 8 (0 : Int32) (0 : Int32) H locs ls hI (lv_sub hl [2, 3, 1, 0] rfl) (iv_w (lo' := 0) (hi' := 255) kc_0 (by decide) (by decide)) (iv_w (lo' := 0) (hi' := 7) kc_0 (by decide) (by decide)) TI_0 (by have h9 := kc_0; simp only [iv] at h9; omega)
abbrev e_h_thoseOut_X9 : List (Nat × Nat) := []
set_option maxHeartbeats 4000000 in
set_option maxRecDepth 100000 in
theorem h_thoseOut_X9 (l : Launch) (D : va_G) (g : Nat → ClassId) (σ : Nat → Option Nat) (Z : State → Heap → Prop) (hZ0 : hZ σ Z) (M : hM) (N : hN) (R : hR) (y : Nat) (g_y : σ y = some 9) : Met l yX9_thoseOut wsX9_thoseOut ({ frames := 1, cells := 0, slots := 0, locals := 21 }) (va_Pc [.ref y] (hPre D g σ Z M N R)) (hQi D g σ e_h_thoseOut_X9 M (fun (r : Int32) (M1 : hM) (N1 : hN) (R1 : hR) => M = M1 ∧ N = N1 ∧ R = R1 ∧ iv r 0 255)) 0 0 (hA σ) := by
  refine h_head (cc := cX9_thoseOut) (maxL := 3) (ret := (some .int)) (by decide) rfl (Nat.le_of_ble_eq_true rfl) e_h_thoseOut_X9 ?_
  intro p e s m below meth c ls Q ar hQ hx hb hr hlocks hml hown hts hK hE H locs hI hl
  have hown : s.vm.findClass RX9 = some m.cls := hown
  have hl : lv_has ls 3 [(0, .ref y)] := hl
  refine lv_iconst (v := 0) hx hb dX9_thoseOut_0 (by decide) ?_
  refine lv_istore_n (lv' := [(1, .int (0 : Int32)), (0, .ref y)]) hx hb dX9_thoseOut_1 rfl hl (by decide) rfl (fun ls hl => ?_)
  refine lv_iconst (v := 0) hx hb dX9_thoseOut_2 (by decide) ?_
  have J4 : ∀ (n : Nat) (v1_4 : Int32) (v2_4 : Int32) (H : Heap) (locs : List Loc) (ls : Array Slot), kI D g σ e_h_thoseOut_X9 M s.heap M N R H locs → lv_has ls 3 [(0, .ref y), (1, .int v1_4), (2, .int v2_4)] → iv v1_4 0 255 → iv v2_4 0 7 → 8 ≤ v2_4.toInt + (n : Int) → W p l e (headSpec wsX9_thoseOut ({ frames := 1, cells := 0, slots := 0, locals := 21 })).room s m ar below meth c H locs 0 0 Q (F0 m 4 ls []) := by
    intro n
    induction n with
    | zero => intro v1_4 v2_4 H locs ls hI hl i_v1_4 i_v2_4 hn; exfalso; have hz := i_v2_4; simp only [iv] at hz; omega
    | succ n ih4 =>
      intro v1_4 v2_4 H locs ls hI hl i_v1_4 i_v2_4 hn4
      refine lv_iload_n hx hb dX9_thoseOut_4 rfl (lv_at hl 2 rfl) ?_
      refine lv_aload_n hx hb dX9_thoseOut_5 rfl (lv_at hl 0 rfl) ?_
      refine h_goi hI (by decide) (va_runV (As := []) (rest := [.int v2_4]) ⟨hx, hb, hml, hown, hts⟩ (h_many_X9 l D g σ Z hZ0 M N R y g_y) (cwV 0 hts gX9_thoseOut_X9_many rfl rfl rfl (by decide +kernel) ⟨Nat.le_of_ble_eq_true rfl, Nat.le_of_ble_eq_true rfl⟩) (h_preV hZ0 hK hE hI g_y (by decide) rfl) rfl rfl hl.1 rfl (lv_room (Nat.le_of_ble_eq_true rfl)) dX9_thoseOut_6 ⟨Nat.le_of_ble_eq_true rfl, Nat.le_of_ble_eq_true rfl⟩) (fun r1 M2 N3 R4 H locs q5 z_M2 hI => ?_)
      obtain ⟨rfl, rfl, rfl, i_r1, z6⟩ := q5
      refine lv_icmp_ge (tgt := 32) hx hb dX9_thoseOut_9 (by decide) (fun c7 => ?_) (fun c7 => ?_)
      · refine lv_iload_n hx hb dX9_thoseOut_32 rfl (lv_at hl 1 rfl) ?_
        exact h_iret hQ hx hb hr hlocks rfl hK hI ⟨rfl, rfl, rfl, i_v1_4⟩ dX9_thoseOut_33
      · have i8 : iv r1 1 7 := iv_nle1 c7 i_r1 i_v2_4 (by decide)
        have i9 : iv v2_4 0 6 := iv_nle2 c7 i_r1 i_v2_4 (by decide)
        refine lv_aload_n hx hb dX9_thoseOut_12 rfl (lv_at hl 0 rfl) ?_
        refine lv_iload_n hx hb dX9_thoseOut_13 rfl (lv_at hl 2 rfl) ?_
        refine h_goi hI (by decide) (va_runV (As := [.int v2_4]) (rest := []) ⟨hx, hb, hml, hown, hts⟩ (h_isOut_X9 l D g σ Z hZ0 M N R y g_y v2_4 i9) (cwV 1 hts gX9_thoseOut_X9_isOut rfl rfl rfl (by decide +kernel) ⟨Nat.le_of_ble_eq_true rfl, Nat.le_of_ble_eq_true rfl⟩) (h_preV hZ0 hK hE hI g_y (by decide) rfl) rfl rfl hl.1 rfl (lv_room (Nat.le_of_ble_eq_true rfl)) dX9_thoseOut_14 ⟨Nat.le_of_ble_eq_true rfl, Nat.le_of_ble_eq_true rfl⟩) (fun r10 M11 N12 R13 H locs q14 z_M11 hI => ?_)
        obtain ⟨rfl, rfl, rfl, i_r10, z15⟩ := q14
        have J26 : ∀ (v1_26 : Int32) (H : Heap) (locs : List Loc) (ls : Array Slot), kI D g σ e_h_thoseOut_X9 M s.heap M N R H locs → lv_has ls 3 [(0, .ref y), (1, .int v1_26), (2, .int v2_4)] → iv v1_26 0 255 → W p l e (headSpec wsX9_thoseOut ({ frames := 1, cells := 0, slots := 0, locals := 21 })).room s m ar below meth c H locs 0 0 Q (F0 m 26 ls []) := by
          intro v1_26 H locs ls hI hl i_v1_26
          obtain ⟨v16, e_v16⟩ : ∃ z : Int32, z = v2_4 + Int32.ofInt 1 := ⟨_, rfl⟩
          have i_v16 : iv v16 1 7 := by rw [e_v16]; exact iv_add i9 (ki_1) (by decide) (by decide) (by decide) (by decide)
          refine lv_iinc (v := v16) (lv' := [(2, .int v16), (0, .ref y), (1, .int v1_26)]) hx hb dX9_thoseOut_26 hl (k := 2) rfl e_v16.symm (by decide) rfl (fun ls hl => ?_)
          refine lv_goto (tgt := 4) hx hb dX9_thoseOut_29 (by decide) ?_
          exact ih4 v1_26 v16 H locs ls hI (lv_sub hl [1, 2, 0] rfl) i_v1_26 (iv_w (lo' := 0) (hi' := 7) i_v16 (by decide) (by decide)) (by have h9 := (h_inc e_v16 i9 ki_1 (by decide) (by decide)); omega)
        refine lv_if_eq (tgt := 26) hx hb dX9_thoseOut_17 (by decide) (fun c17 => ?_) (fun c17 => ?_)
        · have i18 := z15 c17
          have i19 : iv r10 0 0 := iv_eq1 c17 i_r10 kc_0
          exact J26 v1_4 H locs ls hI hl i_v1_4
        · have i20 : iv r10 1 1 := iv_neL c17 i_r10 (by decide) (by decide)
          refine lv_iload_n hx hb dX9_thoseOut_20 rfl (lv_at hl 1 rfl) ?_
          refine lv_iconst (v := 1) hx hb dX9_thoseOut_21 (by decide) ?_
          refine lv_iload_n hx hb dX9_thoseOut_22 rfl (lv_at hl 2 rfl) ?_
          refine lv_ishl hx hb dX9_thoseOut_23 ?_
          refine h_nm (lo := 1) (hi := 64) (iv_shl1 6 i9 (by decide) (by decide) (by decide) (by decide) (by decide)) (fun v21 e_v21 i_v21 => ?_)
          refine lv_ior hx hb dX9_thoseOut_24 ?_
          refine h_nm (lo := 0) (hi := 255) (iv_or 8 i_v1_4 i_v21 (by decide) (by decide) (by decide) (by decide) (by decide) (by decide)) (fun v22 e_v22 i_v22 => ?_)
          refine lv_istore_n (lv' := [(1, .int v22), (0, .ref y), (2, .int v2_4)]) hx hb dX9_thoseOut_25 rfl hl (by decide) rfl (fun ls hl => ?_)
          exact J26 v22 H locs ls hI (lv_sub hl [1, 0, 2] rfl) i_v22
  refine lv_istore_n (lv' := [(2, .int (0 : Int32)), (1, .int (0 : Int32)), (0, .ref y)]) hx hb dX9_thoseOut_3 rfl hl (by decide) rfl (fun ls hl => ?_)
  exact J4 8 (0 : Int32) (0 : Int32) H locs ls hI (lv_sub hl [2, 1, 0] rfl) (iv_w (lo' := 0) (hi' := 255) kc_0 (by decide) (by decide)) (iv_w (lo' := 0) (hi' := 7) kc_0 (by decide) (by decide)) (by have h9 := kc_0; simp only [iv] at h9; omega)
abbrev e_h_wantsOf_X9 : List (Nat × Nat) := []
set_option maxHeartbeats 4000000 in
set_option maxRecDepth 100000 in
theorem h_wantsOf_X9 (l : Launch) (D : va_G) (g : Nat → ClassId) (σ : Nat → Option Nat) (Z : State → Heap → Prop) (hZ0 : hZ σ Z) (M : hM) (N : hN) (R : hR) (y : Nat) (g_y : σ y = some 9) (p1 : Int32) (h_p1 : iv p1 0 5) : Met l yX9_wantsOf wsX9_wantsOf ({ frames := 1, cells := 0, slots := 0, locals := 20 }) (va_Pc [.ref y, .int p1] (hPre D g σ Z M N R)) (hQi D g σ e_h_wantsOf_X9 M (fun (r : Int32) (M1 : hM) (N1 : hN) (R1 : hR) => M = M1 ∧ N = N1 ∧ R = R1)) 0 0 (hA σ) := by
  refine h_head (cc := cX9_wantsOf) (maxL := 2) (ret := (some .int)) (by decide) rfl (Nat.le_of_ble_eq_true rfl) e_h_wantsOf_X9 ?_
  intro p e s m below meth c ls Q ar hQ hx hb hr hlocks hml hown hts hK hE H locs hI hl
  have hown : s.vm.findClass RX9 = some m.cls := hown
  have hl : lv_has ls 2 [(0, .ref y), (1, .int p1)] := hl
  refine lv_aload_n hx hb dX9_wantsOf_0 rfl (lv_at hl 0 rfl) ?_
  refine h_geti (lo := (-2147483648)) (hi := 2147483647) hx hb hts iX9_wantsOf_X9 hown hK hI g_y (by decide) rfl rfl 47 (by decide) rfl rfl (hts (.fieldLink RX9 100 "CatLeasesModel" "allWant" "I") (List.mem_of_getElem? (i := 1) rfl)) (fun _ h9 => h9) dX9_wantsOf_1 (fun v1 e_v1 i_v1 => ?_)
  refine lv_if_lt (tgt := 14) hx hb dX9_wantsOf_4 (by decide) (fun c2 => ?_) (fun c2 => ?_)
  · have i3 : iv v1 (-2147483648) (-1) := iv_lt1 c2 i_v1 kc_0 (by decide)
    refine lv_aload_n hx hb dX9_wantsOf_14 rfl (lv_at hl 0 rfl) ?_
    refine h_geti (lo := (-2147483648)) (hi := 2147483647) hx hb hts iX9_wantsOf_X9 hown hK hI g_y (by decide) rfl rfl 46 (by decide) rfl rfl (hts (.fieldLink RX9 97 "CatLeasesModel" "lastWants" "I") (List.mem_of_getElem? (i := 2) rfl)) (fun _ h9 => h9) dX9_wantsOf_15 (fun v4 e_v4 i_v4 => ?_)
    have J38 : ∀ (H : Heap) (locs : List Loc) (ls : Array Slot), kI D g σ e_h_wantsOf_X9 M s.heap M N R H locs → lv_has ls 2 [(0, .ref y), (1, .int p1)] → W p l e (headSpec wsX9_wantsOf ({ frames := 1, cells := 0, slots := 0, locals := 20 })).room s m ar below meth c H locs 0 0 Q (F0 m 38 ls []) := by
      intro H locs ls hI hl
      refine lv_aload_n hx hb dX9_wantsOf_38 rfl (lv_at hl 0 rfl) ?_
      refine h_getr hx hb hts iX9_wantsOf_X9 hown hK hI g_y (by decide) rfl rfl 18 (by decide) rfl 118 rfl (hts (.fieldLink RX9 42 "CatLeasesModel" "wants" "[I") (List.mem_of_getElem? (i := 3) rfl)) (fun _ h9 => h9) dX9_wantsOf_39 (fun a5 e_a5 g_a5 => ?_)
      refine lv_bipush (v := 6) hx hb dX9_wantsOf_42 (by decide) ?_
      refine lv_aload_n hx hb dX9_wantsOf_44 rfl (lv_at hl 0 rfl) ?_
      refine h_geti (lo := 0) (hi := 1) hx hb hts iX9_wantsOf_X9 hown hK hI g_y (by decide) rfl rfl 35 (by decide) rfl rfl (hts (.fieldLink RX9 268 "CatLeasesModel" "bank" "I") (List.mem_of_getElem? (i := 4) rfl)) (fun _ h9 => h9) dX9_wantsOf_45 (fun v6 e_v6 i_v6 => ?_)
      refine lv_imul hx hb dX9_wantsOf_48 ?_
      refine h_nm (lo := 0) (hi := 6) (iv_mul kc_6 i_v6 (by decide) (by decide) (by decide) (by decide) (by decide)) (fun v7 e_v7 i_v7 => ?_)
      refine lv_iload_n hx hb dX9_wantsOf_49 rfl (lv_at hl 1 rfl) ?_
      refine lv_iadd hx hb dX9_wantsOf_50 ?_
      refine h_nm (lo := 0) (hi := 11) (iv_add i_v7 h_p1 (by decide) (by decide) (by decide) (by decide)) (fun v8 e_v8 i_v8 => ?_)
      refine h_iald (j := v8.toNatClampNeg) (lo := (-2147483648)) (hi := 2147483647) hx hb hK hI g_a5 (by decide) rfl (iv_in (n := 12) i_v8 (by decide) (by decide)) rfl (iv_any _) dX9_wantsOf_51 (fun v9 e_v9 i_v9 => ?_)
      exact h_iret hQ hx hb hr hlocks rfl hK hI ⟨rfl, rfl, rfl⟩ dX9_wantsOf_52
    refine lv_if_lt (tgt := 38) hx hb dX9_wantsOf_18 (by decide) (fun c10 => ?_) (fun c10 => ?_)
    · have i11 : iv v4 (-2147483648) (-1) := iv_lt1 c10 i_v4 kc_0 (by decide)
      exact J38 H locs ls hI hl
    · have i12 : iv v4 0 2147483647 := iv_nlt1 c10 i_v4 kc_0 (by decide)
      refine lv_iload_n hx hb dX9_wantsOf_21 rfl (lv_at hl 1 rfl) ?_
      refine lv_aload_n hx hb dX9_wantsOf_22 rfl (lv_at hl 0 rfl) ?_
      refine h_goi hI (by decide) (va_runV (As := []) (rest := [.int p1]) ⟨hx, hb, hml, hown, hts⟩ (h_cattery_X9 l D g σ Z hZ0 M N R y g_y) (cwV 0 hts gX9_wantsOf_X9_cattery rfl rfl rfl (by decide +kernel) ⟨Nat.le_of_ble_eq_true rfl, Nat.le_of_ble_eq_true rfl⟩) (h_preV hZ0 hK hE hI g_y (by decide) rfl) rfl rfl hl.1 rfl (lv_room (Nat.le_of_ble_eq_true rfl)) dX9_wantsOf_23 ⟨Nat.le_of_ble_eq_true rfl, Nat.le_of_ble_eq_true rfl⟩) (fun r13 M14 N15 R16 H locs q17 z_M14 hI => ?_)
      obtain ⟨rfl, rfl, rfl, i_r13, z18⟩ := q17
      refine lv_iconst (v := 1) hx hb dX9_wantsOf_26 (by decide) ?_
      refine lv_isub hx hb dX9_wantsOf_27 ?_
      refine h_nm (lo := (-1)) (hi := 5) (iv_sub i_r13 kc_1 (by decide) (by decide) (by decide) (by decide)) (fun v19 e_v19 i_v19 => ?_)
      refine lv_icmp_ne (tgt := 38) hx hb dX9_wantsOf_28 (by decide) (fun c20 => ?_) (fun c20 => ?_)
      · exact J38 H locs ls hI hl
      · have i21 : iv v19 0 5 := iv_eq2 c20 h_p1 i_v19
        have i22 : iv r13 1 6 := iv_back (h_dec e_v19 i_r13 kc_1 (by decide) (by decide)) i21 i_r13 (by decide) (by decide)
        refine lv_aload_n hx hb dX9_wantsOf_31 rfl (lv_at hl 0 rfl) ?_
        refine h_geti (lo := (-2147483648)) (hi := 2147483647) hx hb hts iX9_wantsOf_X9 hown hK hI g_y (by decide) rfl rfl 46 (by decide) rfl rfl (hts (.fieldLink RX9 97 "CatLeasesModel" "lastWants" "I") (List.mem_of_getElem? (i := 2) rfl)) (fun _ h9 => h9) dX9_wantsOf_32 (fun v23 e_v23 i_v23 => ?_)
        have q24 : v4 = v23 := (e_v4).trans e_v23.symm
        subst q24
        refine lv_goto (tgt := 52) hx hb dX9_wantsOf_35 (by decide) ?_
        exact h_iret hQ hx hb hr hlocks rfl hK hI ⟨rfl, rfl, rfl⟩ dX9_wantsOf_52
  · have i25 : iv v1 0 2147483647 := iv_nlt1 c2 i_v1 kc_0 (by decide)
    refine lv_aload_n hx hb dX9_wantsOf_7 rfl (lv_at hl 0 rfl) ?_
    refine h_geti (lo := (-2147483648)) (hi := 2147483647) hx hb hts iX9_wantsOf_X9 hown hK hI g_y (by decide) rfl rfl 47 (by decide) rfl rfl (hts (.fieldLink RX9 100 "CatLeasesModel" "allWant" "I") (List.mem_of_getElem? (i := 1) rfl)) (fun _ h9 => h9) dX9_wantsOf_8 (fun v26 e_v26 i_v26 => ?_)
    have q27 : v1 = v26 := (e_v1).trans e_v26.symm
    subst q27
    refine lv_goto (tgt := 52) hx hb dX9_wantsOf_11 (by decide) ?_
    exact h_iret hQ hx hb hr hlocks rfl hK hI ⟨rfl, rfl, rfl⟩ dX9_wantsOf_52
abbrev e_h_asked_X9 : List (Nat × Nat) := []
set_option maxHeartbeats 4000000 in
set_option maxRecDepth 100000 in
theorem h_asked_X9 (l : Launch) (D : va_G) (g : Nat → ClassId) (σ : Nat → Option Nat) (Z : State → Heap → Prop) (hZ0 : hZ σ Z) (M : hM) (N : hN) (R : hR) (y : Nat) (g_y : σ y = some 9) (p1 : Int32) (p2 : Int32) : Met l yX9_asked wsX9_asked ({ frames := 0, cells := 0, slots := 0, locals := 0 }) (va_Pc [.ref y, .int p1, .int p2] (hPre D g σ Z M N R)) (hQi D g σ e_h_asked_X9 M (fun (r : Int32) (M1 : hM) (N1 : hN) (R1 : hR) => M = M1 ∧ N = N1 ∧ R = R1)) 0 0 (hA σ) := by
  refine h_head (cc := cX9_asked) (maxL := 3) (ret := (some .int)) (by decide) rfl (Nat.le_of_ble_eq_true rfl) e_h_asked_X9 ?_
  intro p e s m below meth c ls Q ar hQ hx hb hr hlocks hml hown hts hK hE H locs hI hl
  have hown : s.vm.findClass RX9 = some m.cls := hown
  have hl : lv_has ls 3 [(0, .ref y), (1, .int p1), (2, .int p2)] := hl
  refine lv_iload_n hx hb dX9_asked_0 rfl (lv_at hl 1 rfl) ?_
  by_cases c1 : p1 = 102
  · refine lv_tableIn (tgt := 124) hx hb dX9_asked_1 (by rw [c1]; decide) (by rw [c1]; decide) (by rw [c1] <;> rfl) (by decide) ?_
    have i2 : iv p1 102 102 := iv_eq1 c1 (iv_any p1) kc_102
    refine lv_aload_n hx hb dX9_asked_124 rfl (lv_at hl 0 rfl) ?_
    refine h_getr hx hb hts iX9_asked_X9 hown hK hI g_y (by decide) rfl rfl 45 (by decide) rfl 145 rfl (hts (.fieldLink RX9 94 "CatLeasesModel" "all" "[I") (List.mem_of_getElem? (i := 1) rfl)) (fun _ h9 => h9) dX9_asked_125 (fun a3 e_a3 g_a3 => ?_)
    refine lv_bipush (v := 29) hx hb dX9_asked_128 (by decide) ?_
    refine lv_aload_n hx hb dX9_asked_130 rfl (lv_at hl 0 rfl) ?_
    refine h_geti (lo := 0) (hi := 6) hx hb hts iX9_asked_X9 hown hK hI g_y (by decide) rfl rfl 41 (by decide) rfl rfl (hts (.fieldLink RX9 354 "CatLeasesModel" "askTenant" "I") (List.mem_of_getElem? (i := 2) rfl)) (fun _ h9 => h9) dX9_asked_131 (fun v4 e_v4 i_v4 => ?_)
    refine lv_iadd hx hb dX9_asked_134 ?_
    refine h_nm (lo := 29) (hi := 35) (iv_add kc_29 i_v4 (by decide) (by decide) (by decide) (by decide)) (fun v5 e_v5 i_v5 => ?_)
    refine h_iald (j := v5.toNatClampNeg) (lo := (-2147483648)) (hi := 2147483647) hx hb hK hI g_a3 (by decide) rfl (iv_in (n := 39) i_v5 (by decide) (by decide)) rfl (iv_any _) dX9_asked_135 (fun v6 e_v6 i_v6 => ?_)
    exact h_iret hQ hx hb hr hlocks rfl hK hI ⟨rfl, rfl, rfl⟩ dX9_asked_136
  by_cases c7 : p1 = 103
  · refine lv_tableIn (tgt := 155) hx hb dX9_asked_1 (by rw [c7]; decide) (by rw [c7]; decide) (by rw [c7] <;> rfl) (by decide) ?_
    have i8 : iv p1 103 103 := iv_eq1 c7 (iv_any p1) kc_103
    refine lv_iload_n hx hb dX9_asked_155 rfl (lv_at hl 2 rfl) ?_
    exact h_iret hQ hx hb hr hlocks rfl hK hI ⟨rfl, rfl, rfl⟩ dX9_asked_156
  by_cases c9 : p1 = 104
  · refine lv_tableIn (tgt := 88) hx hb dX9_asked_1 (by rw [c9]; decide) (by rw [c9]; decide) (by rw [c9] <;> rfl) (by decide) ?_
    have i10 : iv p1 104 104 := iv_eq1 c9 (iv_any p1) kc_104
    refine lv_aload_n hx hb dX9_asked_88 rfl (lv_at hl 0 rfl) ?_
    refine h_getr hx hb hts iX9_asked_X9 hown hK hI g_y (by decide) rfl rfl 45 (by decide) rfl 145 rfl (hts (.fieldLink RX9 94 "CatLeasesModel" "all" "[I") (List.mem_of_getElem? (i := 1) rfl)) (fun _ h9 => h9) dX9_asked_89 (fun a11 e_a11 g_a11 => ?_)
    refine lv_bipush (v := 22) hx hb dX9_asked_92 (by decide) ?_
    refine lv_aload_n hx hb dX9_asked_94 rfl (lv_at hl 0 rfl) ?_
    refine h_geti (lo := 0) (hi := 6) hx hb hts iX9_asked_X9 hown hK hI g_y (by decide) rfl rfl 41 (by decide) rfl rfl (hts (.fieldLink RX9 354 "CatLeasesModel" "askTenant" "I") (List.mem_of_getElem? (i := 2) rfl)) (fun _ h9 => h9) dX9_asked_95 (fun v12 e_v12 i_v12 => ?_)
    refine lv_iadd hx hb dX9_asked_98 ?_
    refine h_nm (lo := 22) (hi := 28) (iv_add kc_22 i_v12 (by decide) (by decide) (by decide) (by decide)) (fun v13 e_v13 i_v13 => ?_)
    refine h_iald (j := v13.toNatClampNeg) (lo := (-2147483648)) (hi := 2147483647) hx hb hK hI g_a11 (by decide) rfl (iv_in (n := 39) i_v13 (by decide) (by decide)) rfl (iv_any _) dX9_asked_99 (fun v14 e_v14 i_v14 => ?_)
    exact h_iret hQ hx hb hr hlocks rfl hK hI ⟨rfl, rfl, rfl⟩ dX9_asked_100
  by_cases c15 : p1 = 105
  · refine lv_tableIn (tgt := 155) hx hb dX9_asked_1 (by rw [c15]; decide) (by rw [c15]; decide) (by rw [c15] <;> rfl) (by decide) ?_
    have i16 : iv p1 105 105 := iv_eq1 c15 (iv_any p1) kc_105
    refine lv_iload_n hx hb dX9_asked_155 rfl (lv_at hl 2 rfl) ?_
    exact h_iret hQ hx hb hr hlocks rfl hK hI ⟨rfl, rfl, rfl⟩ dX9_asked_156
  by_cases c17 : p1 = 106
  · refine lv_tableIn (tgt := 155) hx hb dX9_asked_1 (by rw [c17]; decide) (by rw [c17]; decide) (by rw [c17] <;> rfl) (by decide) ?_
    have i18 : iv p1 106 106 := iv_eq1 c17 (iv_any p1) kc_106
    refine lv_iload_n hx hb dX9_asked_155 rfl (lv_at hl 2 rfl) ?_
    exact h_iret hQ hx hb hr hlocks rfl hK hI ⟨rfl, rfl, rfl⟩ dX9_asked_156
  by_cases c19 : p1 = 107
  · refine lv_tableIn (tgt := 155) hx hb dX9_asked_1 (by rw [c19]; decide) (by rw [c19]; decide) (by rw [c19] <;> rfl) (by decide) ?_
    have i20 : iv p1 107 107 := iv_eq1 c19 (iv_any p1) kc_107
    refine lv_iload_n hx hb dX9_asked_155 rfl (lv_at hl 2 rfl) ?_
    exact h_iret hQ hx hb hr hlocks rfl hK hI ⟨rfl, rfl, rfl⟩ dX9_asked_156
  by_cases c21 : p1 = 108
  · refine lv_tableIn (tgt := 155) hx hb dX9_asked_1 (by rw [c21]; decide) (by rw [c21]; decide) (by rw [c21] <;> rfl) (by decide) ?_
    have i22 : iv p1 108 108 := iv_eq1 c21 (iv_any p1) kc_108
    refine lv_iload_n hx hb dX9_asked_155 rfl (lv_at hl 2 rfl) ?_
    exact h_iret hQ hx hb hr hlocks rfl hK hI ⟨rfl, rfl, rfl⟩ dX9_asked_156
  by_cases c23 : p1 = 109
  · refine lv_tableIn (tgt := 106) hx hb dX9_asked_1 (by rw [c23]; decide) (by rw [c23]; decide) (by rw [c23] <;> rfl) (by decide) ?_
    have i24 : iv p1 109 109 := iv_eq1 c23 (iv_any p1) kc_109
    refine lv_aload_n hx hb dX9_asked_106 rfl (lv_at hl 0 rfl) ?_
    refine h_getr hx hb hts iX9_asked_X9 hown hK hI g_y (by decide) rfl rfl 22 (by decide) rfl 122 rfl (hts (.fieldLink RX9 54 "CatLeasesModel" "warm" "[I") (List.mem_of_getElem? (i := 4) rfl)) (fun _ h9 => h9) dX9_asked_107 (fun a25 e_a25 g_a25 => ?_)
    refine lv_bipush (v := 7) hx hb dX9_asked_110 (by decide) ?_
    refine lv_aload_n hx hb dX9_asked_112 rfl (lv_at hl 0 rfl) ?_
    refine h_geti (lo := 0) (hi := 1) hx hb hts iX9_asked_X9 hown hK hI g_y (by decide) rfl rfl 35 (by decide) rfl rfl (hts (.fieldLink RX9 268 "CatLeasesModel" "bank" "I") (List.mem_of_getElem? (i := 5) rfl)) (fun _ h9 => h9) dX9_asked_113 (fun v26 e_v26 i_v26 => ?_)
    refine lv_imul hx hb dX9_asked_116 ?_
    refine h_nm (lo := 0) (hi := 7) (iv_mul kc_7 i_v26 (by decide) (by decide) (by decide) (by decide) (by decide)) (fun v27 e_v27 i_v27 => ?_)
    refine lv_aload_n hx hb dX9_asked_117 rfl (lv_at hl 0 rfl) ?_
    refine h_geti (lo := 0) (hi := 6) hx hb hts iX9_asked_X9 hown hK hI g_y (by decide) rfl rfl 41 (by decide) rfl rfl (hts (.fieldLink RX9 354 "CatLeasesModel" "askTenant" "I") (List.mem_of_getElem? (i := 2) rfl)) (fun _ h9 => h9) dX9_asked_118 (fun v28 e_v28 i_v28 => ?_)
    refine lv_iadd hx hb dX9_asked_121 ?_
    refine h_nm (lo := 0) (hi := 13) (iv_add i_v27 i_v28 (by decide) (by decide) (by decide) (by decide)) (fun v29 e_v29 i_v29 => ?_)
    refine h_iald (j := v29.toNatClampNeg) (lo := (-2147483648)) (hi := 2147483647) hx hb hK hI g_a25 (by decide) rfl (iv_in (n := 14) i_v29 (by decide) (by decide)) rfl (iv_any _) dX9_asked_122 (fun v30 e_v30 i_v30 => ?_)
    exact h_iret hQ hx hb hr hlocks rfl hK hI ⟨rfl, rfl, rfl⟩ dX9_asked_123
  by_cases c31 : p1 = 110
  · refine lv_tableIn (tgt := 155) hx hb dX9_asked_1 (by rw [c31]; decide) (by rw [c31]; decide) (by rw [c31] <;> rfl) (by decide) ?_
    have i32 : iv p1 110 110 := iv_eq1 c31 (iv_any p1) kc_110
    refine lv_iload_n hx hb dX9_asked_155 rfl (lv_at hl 2 rfl) ?_
    exact h_iret hQ hx hb hr hlocks rfl hK hI ⟨rfl, rfl, rfl⟩ dX9_asked_156
  by_cases c33 : p1 = 111
  · refine lv_tableIn (tgt := 155) hx hb dX9_asked_1 (by rw [c33]; decide) (by rw [c33]; decide) (by rw [c33] <;> rfl) (by decide) ?_
    have i34 : iv p1 111 111 := iv_eq1 c33 (iv_any p1) kc_111
    refine lv_iload_n hx hb dX9_asked_155 rfl (lv_at hl 2 rfl) ?_
    exact h_iret hQ hx hb hr hlocks rfl hK hI ⟨rfl, rfl, rfl⟩ dX9_asked_156
  by_cases c35 : p1 = 112
  · refine lv_tableIn (tgt := 155) hx hb dX9_asked_1 (by rw [c35]; decide) (by rw [c35]; decide) (by rw [c35] <;> rfl) (by decide) ?_
    have i36 : iv p1 112 112 := iv_eq1 c35 (iv_any p1) kc_112
    refine lv_iload_n hx hb dX9_asked_155 rfl (lv_at hl 2 rfl) ?_
    exact h_iret hQ hx hb hr hlocks rfl hK hI ⟨rfl, rfl, rfl⟩ dX9_asked_156
  by_cases c37 : p1 = 113
  · refine lv_tableIn (tgt := 147) hx hb dX9_asked_1 (by rw [c37]; decide) (by rw [c37]; decide) (by rw [c37] <;> rfl) (by decide) ?_
    have i38 : iv p1 113 113 := iv_eq1 c37 (iv_any p1) kc_113
    refine lv_aload_n hx hb dX9_asked_147 rfl (lv_at hl 0 rfl) ?_
    refine h_getr hx hb hts iX9_asked_X9 hown hK hI g_y (by decide) rfl rfl 45 (by decide) rfl 145 rfl (hts (.fieldLink RX9 94 "CatLeasesModel" "all" "[I") (List.mem_of_getElem? (i := 1) rfl)) (fun _ h9 => h9) dX9_asked_148 (fun a39 e_a39 g_a39 => ?_)
    refine lv_bipush (v := 37) hx hb dX9_asked_151 (by decide) ?_
    refine h_iald (j := 37) (lo := (-2147483648)) (hi := 2147483647) hx hb hK hI g_a39 (by decide) rfl (iv_in (n := 39) kc_37 (by decide) (by decide)) (by decide) (iv_any _) dX9_asked_153 (fun v40 e_v40 i_v40 => ?_)
    exact h_iret hQ hx hb hr hlocks rfl hK hI ⟨rfl, rfl, rfl⟩ dX9_asked_154
  by_cases c41 : p1 = 114
  · refine lv_tableIn (tgt := 142) hx hb dX9_asked_1 (by rw [c41]; decide) (by rw [c41]; decide) (by rw [c41] <;> rfl) (by decide) ?_
    have i42 : iv p1 114 114 := iv_eq1 c41 (iv_any p1) kc_114
    refine lv_aload_n hx hb dX9_asked_142 rfl (lv_at hl 0 rfl) ?_
    refine h_geti (lo := (-2147483648)) (hi := 2147483647) hx hb hts iX9_asked_X9 hown hK hI g_y (by decide) rfl rfl 44 (by decide) rfl rfl (hts (.fieldLink RX9 363 "CatLeasesModel" "askRooms" "I") (List.mem_of_getElem? (i := 7) rfl)) (fun _ h9 => h9) dX9_asked_143 (fun v43 e_v43 i_v43 => ?_)
    exact h_iret hQ hx hb hr hlocks rfl hK hI ⟨rfl, rfl, rfl⟩ dX9_asked_146
  by_cases c44 : p1 = 115
  · refine lv_tableIn (tgt := 137) hx hb dX9_asked_1 (by rw [c44]; decide) (by rw [c44]; decide) (by rw [c44] <;> rfl) (by decide) ?_
    have i45 : iv p1 115 115 := iv_eq1 c44 (iv_any p1) kc_115
    refine lv_aload_n hx hb dX9_asked_137 rfl (lv_at hl 0 rfl) ?_
    refine h_geti (lo := (-2147483648)) (hi := 2147483647) hx hb hts iX9_asked_X9 hown hK hI g_y (by decide) rfl rfl 43 (by decide) rfl rfl (hts (.fieldLink RX9 360 "CatLeasesModel" "askStayed" "I") (List.mem_of_getElem? (i := 6) rfl)) (fun _ h9 => h9) dX9_asked_138 (fun v46 e_v46 i_v46 => ?_)
    exact h_iret hQ hx hb hr hlocks rfl hK hI ⟨rfl, rfl, rfl⟩ dX9_asked_141
  by_cases c47 : p1 = 116
  · refine lv_tableIn (tgt := 155) hx hb dX9_asked_1 (by rw [c47]; decide) (by rw [c47]; decide) (by rw [c47] <;> rfl) (by decide) ?_
    have i48 : iv p1 116 116 := iv_eq1 c47 (iv_any p1) kc_116
    refine lv_iload_n hx hb dX9_asked_155 rfl (lv_at hl 2 rfl) ?_
    exact h_iret hQ hx hb hr hlocks rfl hK hI ⟨rfl, rfl, rfl⟩ dX9_asked_156
  by_cases c49 : p1 = 117
  · refine lv_tableIn (tgt := 155) hx hb dX9_asked_1 (by rw [c49]; decide) (by rw [c49]; decide) (by rw [c49] <;> rfl) (by decide) ?_
    have i50 : iv p1 117 117 := iv_eq1 c49 (iv_any p1) kc_117
    refine lv_iload_n hx hb dX9_asked_155 rfl (lv_at hl 2 rfl) ?_
    exact h_iret hQ hx hb hr hlocks rfl hK hI ⟨rfl, rfl, rfl⟩ dX9_asked_156
  by_cases c51 : p1 = 118
  · refine lv_tableIn (tgt := 155) hx hb dX9_asked_1 (by rw [c51]; decide) (by rw [c51]; decide) (by rw [c51] <;> rfl) (by decide) ?_
    have i52 : iv p1 118 118 := iv_eq1 c51 (iv_any p1) kc_118
    refine lv_iload_n hx hb dX9_asked_155 rfl (lv_at hl 2 rfl) ?_
    exact h_iret hQ hx hb hr hlocks rfl hK hI ⟨rfl, rfl, rfl⟩ dX9_asked_156
  by_cases c53 : p1 = 119
  · refine lv_tableIn (tgt := 101) hx hb dX9_asked_1 (by rw [c53]; decide) (by rw [c53]; decide) (by rw [c53] <;> rfl) (by decide) ?_
    have i54 : iv p1 119 119 := iv_eq1 c53 (iv_any p1) kc_119
    refine lv_aload_n hx hb dX9_asked_101 rfl (lv_at hl 0 rfl) ?_
    refine h_geti (lo := (-2147483648)) (hi := 2147483647) hx hb hts iX9_asked_X9 hown hK hI g_y (by decide) rfl rfl 42 (by decide) rfl rfl (hts (.fieldLink RX9 357 "CatLeasesModel" "askWants" "I") (List.mem_of_getElem? (i := 3) rfl)) (fun _ h9 => h9) dX9_asked_102 (fun v55 e_v55 i_v55 => ?_)
    exact h_iret hQ hx hb hr hlocks rfl hK hI ⟨rfl, rfl, rfl⟩ dX9_asked_105
  refine lv_tableOut (tgt := 155) hx hb dX9_asked_1 (by have k102 : (102 : Int32).toInt = 102 := (by decide); have zc1 : ¬ p1.toInt = 102 := fun h9 => c1 (Int32.toInt_inj.mp (h9.trans k102.symm)); have k103 : (103 : Int32).toInt = 103 := (by decide); have zc7 : ¬ p1.toInt = 103 := fun h9 => c7 (Int32.toInt_inj.mp (h9.trans k103.symm)); have k104 : (104 : Int32).toInt = 104 := (by decide); have zc9 : ¬ p1.toInt = 104 := fun h9 => c9 (Int32.toInt_inj.mp (h9.trans k104.symm)); have k105 : (105 : Int32).toInt = 105 := (by decide); have zc15 : ¬ p1.toInt = 105 := fun h9 => c15 (Int32.toInt_inj.mp (h9.trans k105.symm)); have k106 : (106 : Int32).toInt = 106 := (by decide); have zc17 : ¬ p1.toInt = 106 := fun h9 => c17 (Int32.toInt_inj.mp (h9.trans k106.symm)); have k107 : (107 : Int32).toInt = 107 := (by decide); have zc19 : ¬ p1.toInt = 107 := fun h9 => c19 (Int32.toInt_inj.mp (h9.trans k107.symm)); have k108 : (108 : Int32).toInt = 108 := (by decide); have zc21 : ¬ p1.toInt = 108 := fun h9 => c21 (Int32.toInt_inj.mp (h9.trans k108.symm)); have k109 : (109 : Int32).toInt = 109 := (by decide); have zc23 : ¬ p1.toInt = 109 := fun h9 => c23 (Int32.toInt_inj.mp (h9.trans k109.symm)); have k110 : (110 : Int32).toInt = 110 := (by decide); have zc31 : ¬ p1.toInt = 110 := fun h9 => c31 (Int32.toInt_inj.mp (h9.trans k110.symm)); have k111 : (111 : Int32).toInt = 111 := (by decide); have zc33 : ¬ p1.toInt = 111 := fun h9 => c33 (Int32.toInt_inj.mp (h9.trans k111.symm)); have k112 : (112 : Int32).toInt = 112 := (by decide); have zc35 : ¬ p1.toInt = 112 := fun h9 => c35 (Int32.toInt_inj.mp (h9.trans k112.symm)); have k113 : (113 : Int32).toInt = 113 := (by decide); have zc37 : ¬ p1.toInt = 113 := fun h9 => c37 (Int32.toInt_inj.mp (h9.trans k113.symm)); have k114 : (114 : Int32).toInt = 114 := (by decide); have zc41 : ¬ p1.toInt = 114 := fun h9 => c41 (Int32.toInt_inj.mp (h9.trans k114.symm)); have k115 : (115 : Int32).toInt = 115 := (by decide); have zc44 : ¬ p1.toInt = 115 := fun h9 => c44 (Int32.toInt_inj.mp (h9.trans k115.symm)); have k116 : (116 : Int32).toInt = 116 := (by decide); have zc47 : ¬ p1.toInt = 116 := fun h9 => c47 (Int32.toInt_inj.mp (h9.trans k116.symm)); have k117 : (117 : Int32).toInt = 117 := (by decide); have zc49 : ¬ p1.toInt = 117 := fun h9 => c49 (Int32.toInt_inj.mp (h9.trans k117.symm)); have k118 : (118 : Int32).toInt = 118 := (by decide); have zc51 : ¬ p1.toInt = 118 := fun h9 => c51 (Int32.toInt_inj.mp (h9.trans k118.symm)); have k119 : (119 : Int32).toInt = 119 := (by decide); have zc53 : ¬ p1.toInt = 119 := fun h9 => c53 (Int32.toInt_inj.mp (h9.trans k119.symm)); have h8 := (iv_any p1); simp only [iv] at h8; omega) (by decide) ?_
  refine lv_iload_n hx hb dX9_asked_155 rfl (lv_at hl 2 rfl) ?_
  exact h_iret hQ hx hb hr hlocks rfl hK hI ⟨rfl, rfl, rfl⟩ dX9_asked_156
abbrev e_h_fault_X9 : List (Nat × Nat) := []
set_option maxHeartbeats 4000000 in
set_option maxRecDepth 100000 in
theorem h_fault_X9 (l : Launch) (D : va_G) (g : Nat → ClassId) (σ : Nat → Option Nat) (Z : State → Heap → Prop) (hZ0 : hZ σ Z) (M : hM) (N : hN) (R : hR) (y : Nat) (g_y : σ y = some 9) (p1 : Int32) : Met l yX9_fault wsX9_fault ({ frames := 0, cells := 0, slots := 0, locals := 0 }) (va_Pc [.ref y, .int p1] (hPre D g σ Z M N R)) (hQi D g σ e_h_fault_X9 M (fun (r : Int32) (M1 : hM) (N1 : hN) (R1 : hR) => M = M1 ∧ N = N1 ∧ R = R1)) 0 0 (hA σ) := by
  refine h_head (cc := cX9_fault) (maxL := 2) (ret := (some .int)) (by decide) rfl (Nat.le_of_ble_eq_true rfl) e_h_fault_X9 ?_
  intro p e s m below meth c ls Q ar hQ hx hb hr hlocks hml hown hts hK hE H locs hI hl
  have hown : s.vm.findClass RX9 = some m.cls := hown
  have hl : lv_has ls 2 [(0, .ref y), (1, .int p1)] := hl
  refine lv_iload_n hx hb dX9_fault_0 rfl (lv_at hl 1 rfl) ?_
  refine lv_if_ne (tgt := 11) hx hb dX9_fault_1 (by decide) (fun c1 => ?_) (fun c1 => ?_)
  · refine lv_iload_n hx hb dX9_fault_11 rfl (lv_at hl 1 rfl) ?_
    refine lv_iconst (v := 1) hx hb dX9_fault_12 (by decide) ?_
    refine lv_icmp_ne (tgt := 23) hx hb dX9_fault_13 (by decide) (fun c2 => ?_) (fun c2 => ?_)
    · refine lv_iconst (v := (-1)) hx hb dX9_fault_23 (by decide) ?_
      exact h_iret hQ hx hb hr hlocks rfl hK hI ⟨rfl, rfl, rfl⟩ dX9_fault_24
    · have i3 : iv p1 1 1 := iv_eq1 c2 (iv_any p1) kc_1
      refine lv_aload_n hx hb dX9_fault_16 rfl (lv_at hl 0 rfl) ?_
      refine h_geti (lo := (-2147483648)) (hi := 2147483647) hx hb hts iX9_fault_X9 hown hK hI g_y (by decide) rfl rfl 5 (by decide) rfl rfl (hts (.fieldLink RX9 16 "CatLeasesModel" "faultPlace" "I") (List.mem_of_getElem? (i := 2) rfl)) (fun _ h9 => h9) dX9_fault_17 (fun v4 e_v4 i_v4 => ?_)
      refine lv_goto (tgt := 24) hx hb dX9_fault_20 (by decide) ?_
      exact h_iret hQ hx hb hr hlocks rfl hK hI ⟨rfl, rfl, rfl⟩ dX9_fault_24
  · have i5 : iv p1 0 0 := iv_eq1 c1 (iv_any p1) kc_0
    refine lv_aload_n hx hb dX9_fault_4 rfl (lv_at hl 0 rfl) ?_
    refine h_geti (lo := 0) (hi := 5) hx hb hts iX9_fault_X9 hown hK hI g_y (by decide) rfl rfl 4 (by decide) rfl rfl (hts (.fieldLink RX9 155 "CatLeasesModel" "faultKind" "I") (List.mem_of_getElem? (i := 1) rfl)) (fun _ h9 => h9) dX9_fault_5 (fun v6 e_v6 i_v6 => ?_)
    refine lv_goto (tgt := 24) hx hb dX9_fault_8 (by decide) ?_
    exact h_iret hQ hx hb hr hlocks rfl hK hI ⟨rfl, rfl, rfl⟩ dX9_fault_24
abbrev e_h_lies_X9 : List (Nat × Nat) := []
set_option maxHeartbeats 4000000 in
set_option maxRecDepth 100000 in
theorem h_lies_X9 (l : Launch) (D : va_G) (g : Nat → ClassId) (σ : Nat → Option Nat) (Z : State → Heap → Prop) (hZ0 : hZ σ Z) (M : hM) (N : hN) (R : hR) (y : Nat) (g_y : σ y = some 9) (p1 : Int32) : Met l yX9_lies wsX9_lies ({ frames := 1, cells := 0, slots := 0, locals := 22 }) (va_Pc [.ref y, .int p1] (hPre D g σ Z M N R)) (hQi D g σ e_h_lies_X9 M (fun (r : Int32) (M1 : hM) (N1 : hN) (R1 : hR) => M = M1 ∧ N = N1 ∧ R = R1)) 0 0 (hA σ) := by
  refine h_head (cc := cX9_lies) (maxL := 2) (ret := (some .int)) (by decide) rfl (Nat.le_of_ble_eq_true rfl) e_h_lies_X9 ?_
  intro p e s m below meth c ls Q ar hQ hx hb hr hlocks hml hown hts hK hE H locs hI hl
  have hown : s.vm.findClass RX9 = some m.cls := hown
  have hl : lv_has ls 2 [(0, .ref y), (1, .int p1)] := hl
  refine lv_iload_n hx hb dX9_lies_0 rfl (lv_at hl 1 rfl) ?_
  refine lv_iconst (v := 0) hx hb dX9_lies_1 (by decide) ?_
  refine lv_aload_n hx hb dX9_lies_2 rfl (lv_at hl 0 rfl) ?_
  refine h_geti (lo := 0) (hi := 7) hx hb hts iX9_lies_X9 hown hK hI g_y (by decide) rfl rfl 54 (by decide) rfl rfl (hts (.fieldLink RX9 407 "CatLeasesModel" "laid" "I") (List.mem_of_getElem? (i := 1) rfl)) (fun _ h9 => h9) dX9_lies_3 (fun v1 e_v1 i_v1 => ?_)
  refine lv_iconst (v := 1) hx hb dX9_lies_6 (by decide) ?_
  refine lv_isub hx hb dX9_lies_7 ?_
  refine h_nm (lo := (-1)) (hi := 6) (iv_sub i_v1 kc_1 (by decide) (by decide) (by decide) (by decide)) (fun v2 e_v2 i_v2 => ?_)
  refine h_goi hI (by decide) (va_runS (As := [.int p1, .int (0 : Int32), .int v2]) (rest := []) ⟨hx, hb, hml, hown, hts⟩ (h_isIn_X9 l D g σ Z hZ0 M N R p1 (0 : Int32) v2) (va_cwS 3 hts gX9_lies_X9_isIn rfl rfl rfl (by decide +kernel) ⟨Nat.le_of_ble_eq_true rfl, Nat.le_of_ble_eq_true rfl⟩) (h_preS hZ0 hK hE hI) rfl rfl hl.1 rfl (lv_room (Nat.le_of_ble_eq_true rfl)) dX9_lies_8 ⟨Nat.le_of_ble_eq_true rfl, Nat.le_of_ble_eq_true rfl⟩) (fun r3 M4 N5 R6 H locs q7 z_M4 hI => ?_)
  obtain ⟨rfl, rfl, rfl, i_r3, z8⟩ := q7
  refine lv_if_eq (tgt := 23) hx hb dX9_lies_11 (by decide) (fun c9 => ?_) (fun c9 => ?_)
  · have i10 : iv r3 0 0 := iv_eq1 c9 i_r3 kc_0
    refine lv_bipush (v := (-2)) hx hb dX9_lies_23 (by decide) ?_
    exact h_iret hQ hx hb hr hlocks rfl hK hI ⟨rfl, rfl, rfl⟩ dX9_lies_25
  · have i11 : iv p1 0 6 := (fun h9 => iv_isin (z8 h9) kc_0 i_v2) c9
    have i12 : iv r3 1 1 := iv_neL c9 i_r3 (by decide) (by decide)
    refine lv_aload_n hx hb dX9_lies_14 rfl (lv_at hl 0 rfl) ?_
    refine h_getr hx hb hts iX9_lies_X9 hown hK hI g_y (by decide) rfl rfl 53 (by decide) rfl 153 rfl (hts (.fieldLink RX9 112 "CatLeasesModel" "laidRow" "[I") (List.mem_of_getElem? (i := 2) rfl)) (fun _ h9 => h9) dX9_lies_15 (fun a13 e_a13 g_a13 => ?_)
    refine lv_iload_n hx hb dX9_lies_18 rfl (lv_at hl 1 rfl) ?_
    refine h_iald (j := p1.toNatClampNeg) (lo := (-2147483648)) (hi := 2147483647) hx hb hK hI g_a13 (by decide) rfl (iv_in (n := 7) i11 (by decide) (by decide)) rfl (iv_any _) dX9_lies_19 (fun v14 e_v14 i_v14 => ?_)
    refine lv_goto (tgt := 25) hx hb dX9_lies_20 (by decide) ?_
    exact h_iret hQ hx hb hr hlocks rfl hK hI ⟨rfl, rfl, rfl⟩ dX9_lies_25
abbrev e_h_about_X9 : List (Nat × Nat) := []
set_option maxHeartbeats 4000000 in
set_option maxRecDepth 100000 in
theorem h_about_X9 (l : Launch) (D : va_G) (g : Nat → ClassId) (σ : Nat → Option Nat) (Z : State → Heap → Prop) (hZ0 : hZ σ Z) (M : hM) (N : hN) (R : hR) (y : Nat) (g_y : σ y = some 9) (p1 : Int32) : Met l yX9_about wsX9_about ({ frames := 2, cells := 0, slots := 0, locals := 43 }) (va_Pc [.ref y, .int p1] (hPre D g σ Z M N R)) (hQi D g σ e_h_about_X9 M (fun (r : Int32) (M1 : hM) (N1 : hN) (R1 : hR) => M = M1 ∧ N = N1 ∧ R = R1)) 0 0 (hA σ) := by
  refine h_head (cc := cX9_about) (maxL := 2) (ret := (some .int)) (by decide) rfl (Nat.le_of_ble_eq_true rfl) e_h_about_X9 ?_
  intro p e s m below meth c ls Q ar hQ hx hb hr hlocks hml hown hts hK hE H locs hI hl
  have hown : s.vm.findClass RX9 = some m.cls := hown
  have hl : lv_has ls 2 [(0, .ref y), (1, .int p1)] := hl
  refine lv_iload_n hx hb dX9_about_0 rfl (lv_at hl 1 rfl) ?_
  by_cases c1 : p1 = 0
  · refine lv_tableIn (tgt := 72) hx hb dX9_about_1 (by rw [c1]; decide) (by rw [c1]; decide) (by rw [c1] <;> rfl) (by decide) ?_
    have i2 : iv p1 0 0 := iv_eq1 c1 (iv_any p1) kc_0
    refine lv_aload_n hx hb dX9_about_72 rfl (lv_at hl 0 rfl) ?_
    refine h_goi hI (by decide) (va_runV (As := []) (rest := []) ⟨hx, hb, hml, hown, hts⟩ (h_many_X9 l D g σ Z hZ0 M N R y g_y) (cwV 0 hts gX9_about_X9_many rfl rfl rfl (by decide +kernel) ⟨Nat.le_of_ble_eq_true rfl, Nat.le_of_ble_eq_true rfl⟩) (h_preV hZ0 hK hE hI g_y (by decide) rfl) rfl rfl hl.1 rfl (lv_room (Nat.le_of_ble_eq_true rfl)) dX9_about_73 ⟨Nat.le_of_ble_eq_true rfl, Nat.le_of_ble_eq_true rfl⟩) (fun r3 M4 N5 R6 H locs q7 z_M4 hI => ?_)
    obtain ⟨rfl, rfl, rfl, i_r3, z8⟩ := q7
    exact h_iret hQ hx hb hr hlocks rfl hK hI ⟨rfl, rfl, rfl⟩ dX9_about_76
  by_cases c9 : p1 = 1
  · refine lv_tableIn (tgt := 77) hx hb dX9_about_1 (by rw [c9]; decide) (by rw [c9]; decide) (by rw [c9] <;> rfl) (by decide) ?_
    have i10 : iv p1 1 1 := iv_eq1 c9 (iv_any p1) kc_1
    refine lv_aload_n hx hb dX9_about_77 rfl (lv_at hl 0 rfl) ?_
    refine h_goi hI (by decide) (va_runV (As := []) (rest := []) ⟨hx, hb, hml, hown, hts⟩ (h_cattery_X9 l D g σ Z hZ0 M N R y g_y) (cwV 0 hts gX9_about_X9_cattery rfl rfl rfl (by decide +kernel) ⟨Nat.le_of_ble_eq_true rfl, Nat.le_of_ble_eq_true rfl⟩) (h_preV hZ0 hK hE hI g_y (by decide) rfl) rfl rfl hl.1 rfl (lv_room (Nat.le_of_ble_eq_true rfl)) dX9_about_78 ⟨Nat.le_of_ble_eq_true rfl, Nat.le_of_ble_eq_true rfl⟩) (fun r11 M12 N13 R14 H locs q15 z_M12 hI => ?_)
    obtain ⟨rfl, rfl, rfl, i_r11, z16⟩ := q15
    exact h_iret hQ hx hb hr hlocks rfl hK hI ⟨rfl, rfl, rfl⟩ dX9_about_81
  by_cases c17 : p1 = 2
  · refine lv_tableIn (tgt := 82) hx hb dX9_about_1 (by rw [c17]; decide) (by rw [c17]; decide) (by rw [c17] <;> rfl) (by decide) ?_
    have i18 : iv p1 2 2 := iv_eq1 c17 (iv_any p1) kc_2
    refine lv_aload_n hx hb dX9_about_82 rfl (lv_at hl 0 rfl) ?_
    refine h_goi hI (by decide) (va_runV (As := []) (rest := []) ⟨hx, hb, hml, hown, hts⟩ (h_chambers_X9 l D g σ Z hZ0 M N R y g_y) (cwV 0 hts gX9_about_X9_chambers rfl rfl rfl (by decide +kernel) ⟨Nat.le_of_ble_eq_true rfl, Nat.le_of_ble_eq_true rfl⟩) (h_preV hZ0 hK hE hI g_y (by decide) rfl) rfl rfl hl.1 rfl (lv_room (Nat.le_of_ble_eq_true rfl)) dX9_about_83 ⟨Nat.le_of_ble_eq_true rfl, Nat.le_of_ble_eq_true rfl⟩) (fun r19 M20 N21 R22 H locs q23 z_M20 hI => ?_)
    obtain ⟨rfl, rfl, rfl, i_r19, z24⟩ := q23
    exact h_iret hQ hx hb hr hlocks rfl hK hI ⟨rfl, rfl, rfl⟩ dX9_about_86
  by_cases c25 : p1 = 3
  · refine lv_tableIn (tgt := 87) hx hb dX9_about_1 (by rw [c25]; decide) (by rw [c25]; decide) (by rw [c25] <;> rfl) (by decide) ?_
    have i26 : iv p1 3 3 := iv_eq1 c25 (iv_any p1) kc_3
    refine lv_aload_n hx hb dX9_about_87 rfl (lv_at hl 0 rfl) ?_
    refine h_getr hx hb hts iX9_about_X9 hown hK hI g_y (by decide) rfl rfl 45 (by decide) rfl 145 rfl (hts (.fieldLink RX9 94 "CatLeasesModel" "all" "[I") (List.mem_of_getElem? (i := 1) rfl)) (fun _ h9 => h9) dX9_about_88 (fun a27 e_a27 g_a27 => ?_)
    refine lv_bipush (v := 36) hx hb dX9_about_91 (by decide) ?_
    refine h_iald (j := 36) (lo := (-2147483648)) (hi := 2147483647) hx hb hK hI g_a27 (by decide) rfl (iv_in (n := 39) kc_36 (by decide) (by decide)) (by decide) (iv_any _) dX9_about_93 (fun v28 e_v28 i_v28 => ?_)
    exact h_iret hQ hx hb hr hlocks rfl hK hI ⟨rfl, rfl, rfl⟩ dX9_about_94
  by_cases c29 : p1 = 4
  · refine lv_tableIn (tgt := 95) hx hb dX9_about_1 (by rw [c29]; decide) (by rw [c29]; decide) (by rw [c29] <;> rfl) (by decide) ?_
    have i30 : iv p1 4 4 := iv_eq1 c29 (iv_any p1) kc_4
    refine lv_aload_n hx hb dX9_about_95 rfl (lv_at hl 0 rfl) ?_
    refine h_goi hI (by decide) (va_runV (As := []) (rest := []) ⟨hx, hb, hml, hown, hts⟩ (h_thoseOut_X9 l D g σ Z hZ0 M N R y g_y) (cwV 0 hts gX9_about_X9_thoseOut rfl rfl rfl (by decide +kernel) ⟨Nat.le_of_ble_eq_true rfl, Nat.le_of_ble_eq_true rfl⟩) (h_preV hZ0 hK hE hI g_y (by decide) rfl) rfl rfl hl.1 rfl (lv_room (Nat.le_of_ble_eq_true rfl)) dX9_about_96 ⟨Nat.le_of_ble_eq_true rfl, Nat.le_of_ble_eq_true rfl⟩) (fun r31 M32 N33 R34 H locs q35 z_M32 hI => ?_)
    obtain ⟨rfl, rfl, rfl, i_r31⟩ := q35
    exact h_iret hQ hx hb hr hlocks rfl hK hI ⟨rfl, rfl, rfl⟩ dX9_about_99
  by_cases c36 : p1 = 5
  · refine lv_tableIn (tgt := 100) hx hb dX9_about_1 (by rw [c36]; decide) (by rw [c36]; decide) (by rw [c36] <;> rfl) (by decide) ?_
    have i37 : iv p1 5 5 := iv_eq1 c36 (iv_any p1) kc_5
    refine lv_aload_n hx hb dX9_about_100 rfl (lv_at hl 0 rfl) ?_
    refine h_getr hx hb hts iX9_about_X9 hown hK hI g_y (by decide) rfl rfl 45 (by decide) rfl 145 rfl (hts (.fieldLink RX9 94 "CatLeasesModel" "all" "[I") (List.mem_of_getElem? (i := 1) rfl)) (fun _ h9 => h9) dX9_about_101 (fun a38 e_a38 g_a38 => ?_)
    refine lv_bipush (v := 37) hx hb dX9_about_104 (by decide) ?_
    refine h_iald (j := 37) (lo := (-2147483648)) (hi := 2147483647) hx hb hK hI g_a38 (by decide) rfl (iv_in (n := 39) kc_37 (by decide) (by decide)) (by decide) (iv_any _) dX9_about_106 (fun v39 e_v39 i_v39 => ?_)
    exact h_iret hQ hx hb hr hlocks rfl hK hI ⟨rfl, rfl, rfl⟩ dX9_about_107
  by_cases c40 : p1 = 6
  · refine lv_tableIn (tgt := 108) hx hb dX9_about_1 (by rw [c40]; decide) (by rw [c40]; decide) (by rw [c40] <;> rfl) (by decide) ?_
    have i41 : iv p1 6 6 := iv_eq1 c40 (iv_any p1) kc_6
    refine lv_aload_n hx hb dX9_about_108 rfl (lv_at hl 0 rfl) ?_
    refine h_getr hx hb hts iX9_about_X9 hown hK hI g_y (by decide) rfl rfl 45 (by decide) rfl 145 rfl (hts (.fieldLink RX9 94 "CatLeasesModel" "all" "[I") (List.mem_of_getElem? (i := 1) rfl)) (fun _ h9 => h9) dX9_about_109 (fun a42 e_a42 g_a42 => ?_)
    refine lv_bipush (v := 38) hx hb dX9_about_112 (by decide) ?_
    refine h_iald (j := 38) (lo := (-2147483648)) (hi := 2147483647) hx hb hK hI g_a42 (by decide) rfl (iv_in (n := 39) kc_38 (by decide) (by decide)) (by decide) (iv_any _) dX9_about_114 (fun v43 e_v43 i_v43 => ?_)
    exact h_iret hQ hx hb hr hlocks rfl hK hI ⟨rfl, rfl, rfl⟩ dX9_about_115
  by_cases c44 : p1 = 7
  · refine lv_tableIn (tgt := 116) hx hb dX9_about_1 (by rw [c44]; decide) (by rw [c44]; decide) (by rw [c44] <;> rfl) (by decide) ?_
    have i45 : iv p1 7 7 := iv_eq1 c44 (iv_any p1) kc_7
    refine lv_aload_n hx hb dX9_about_116 rfl (lv_at hl 0 rfl) ?_
    refine h_geti (lo := 0) (hi := 40) hx hb hts iX9_about_X9 hown hK hI g_y (by decide) rfl rfl 50 (by decide) rfl rfl (hts (.fieldLink RX9 398 "CatLeasesModel" "acts" "I") (List.mem_of_getElem? (i := 2) rfl)) (fun _ h9 => h9) dX9_about_117 (fun v46 e_v46 i_v46 => ?_)
    exact h_iret hQ hx hb hr hlocks rfl hK hI ⟨rfl, rfl, rfl⟩ dX9_about_120
  by_cases c47 : p1 = 8
  · refine lv_tableIn (tgt := 121) hx hb dX9_about_1 (by rw [c47]; decide) (by rw [c47]; decide) (by rw [c47] <;> rfl) (by decide) ?_
    have i48 : iv p1 8 8 := iv_eq1 c47 (iv_any p1) kc_8
    refine lv_aload_n hx hb dX9_about_121 rfl (lv_at hl 0 rfl) ?_
    refine h_geti (lo := 0) (hi := 40) hx hb hts iX9_about_X9 hown hK hI g_y (by decide) rfl rfl 51 (by decide) rfl rfl (hts (.fieldLink RX9 401 "CatLeasesModel" "undone" "I") (List.mem_of_getElem? (i := 3) rfl)) (fun _ h9 => h9) dX9_about_122 (fun v49 e_v49 i_v49 => ?_)
    exact h_iret hQ hx hb hr hlocks rfl hK hI ⟨rfl, rfl, rfl⟩ dX9_about_125
  by_cases c50 : p1 = 9
  · refine lv_tableIn (tgt := 126) hx hb dX9_about_1 (by rw [c50]; decide) (by rw [c50]; decide) (by rw [c50] <;> rfl) (by decide) ?_
    have i51 : iv p1 9 9 := iv_eq1 c50 (iv_any p1) kc_9
    refine lv_aload_n hx hb dX9_about_126 rfl (lv_at hl 0 rfl) ?_
    refine h_geti (lo := 0) (hi := 30) hx hb hts iX9_about_X9 hown hK hI g_y (by decide) rfl rfl 63 (by decide) rfl rfl (hts (.fieldLink RX9 404 "CatLeasesModel" "seens" "I") (List.mem_of_getElem? (i := 4) rfl)) (fun _ h9 => h9) dX9_about_127 (fun v52 e_v52 i_v52 => ?_)
    exact h_iret hQ hx hb hr hlocks rfl hK hI ⟨rfl, rfl, rfl⟩ dX9_about_130
  by_cases c53 : p1 = 10
  · refine lv_tableIn (tgt := 131) hx hb dX9_about_1 (by rw [c53]; decide) (by rw [c53]; decide) (by rw [c53] <;> rfl) (by decide) ?_
    have i54 : iv p1 10 10 := iv_eq1 c53 (iv_any p1) kc_10
    refine lv_aload_n hx hb dX9_about_131 rfl (lv_at hl 0 rfl) ?_
    refine h_geti (lo := (-2147483648)) (hi := 2147483647) hx hb hts iX9_about_X9 hown hK hI g_y (by decide) rfl rfl 64 (by decide) rfl rfl (hts (.fieldLink RX9 532 "CatLeasesModel" "time" "I") (List.mem_of_getElem? (i := 5) rfl)) (fun _ h9 => h9) dX9_about_132 (fun v55 e_v55 i_v55 => ?_)
    exact h_iret hQ hx hb hr hlocks rfl hK hI ⟨rfl, rfl, rfl⟩ dX9_about_135
  by_cases c56 : p1 = 11
  · refine lv_tableIn (tgt := 136) hx hb dX9_about_1 (by rw [c56]; decide) (by rw [c56]; decide) (by rw [c56] <;> rfl) (by decide) ?_
    have i57 : iv p1 11 11 := iv_eq1 c56 (iv_any p1) kc_11
    refine lv_aload_n hx hb dX9_about_136 rfl (lv_at hl 0 rfl) ?_
    refine h_geti (lo := 0) (hi := 1600) hx hb hts iX9_about_X9 hown hK hI g_y (by decide) rfl rfl 2 (by decide) rfl rfl (hts (.fieldLink RX9 265 "CatLeasesModel" "taped" "I") (List.mem_of_getElem? (i := 6) rfl)) (fun _ h9 => h9) dX9_about_137 (fun v58 e_v58 i_v58 => ?_)
    exact h_iret hQ hx hb hr hlocks rfl hK hI ⟨rfl, rfl, rfl⟩ dX9_about_140
  by_cases c59 : p1 = 12
  · refine lv_tableIn (tgt := 141) hx hb dX9_about_1 (by rw [c59]; decide) (by rw [c59]; decide) (by rw [c59] <;> rfl) (by decide) ?_
    have i60 : iv p1 12 12 := iv_eq1 c59 (iv_any p1) kc_12
    refine lv_aload_n hx hb dX9_about_141 rfl (lv_at hl 0 rfl) ?_
    refine h_getr hx hb hts iX9_about_X9 hown hK hI g_y (by decide) rfl rfl 14 (by decide) rfl 114 rfl (hts (.fieldLink RX9 30 "CatLeasesModel" "units" "[I") (List.mem_of_getElem? (i := 7) rfl)) (fun _ h9 => h9) dX9_about_142 (fun a61 e_a61 g_a61 => ?_)
    refine lv_aload_n hx hb dX9_about_145 rfl (lv_at hl 0 rfl) ?_
    refine h_geti (lo := 0) (hi := 1) hx hb hts iX9_about_X9 hown hK hI g_y (by decide) rfl rfl 35 (by decide) rfl rfl (hts (.fieldLink RX9 268 "CatLeasesModel" "bank" "I") (List.mem_of_getElem? (i := 8) rfl)) (fun _ h9 => h9) dX9_about_146 (fun v62 e_v62 i_v62 => ?_)
    refine h_iald (j := v62.toNatClampNeg) (lo := (-2147483648)) (hi := 2147483647) hx hb hK hI g_a61 (by decide) rfl (iv_in (n := 2) i_v62 (by decide) (by decide)) rfl (iv_any _) dX9_about_149 (fun v63 e_v63 i_v63 => ?_)
    exact h_iret hQ hx hb hr hlocks rfl hK hI ⟨rfl, rfl, rfl⟩ dX9_about_150
  by_cases c64 : p1 = 13
  · refine lv_tableIn (tgt := 151) hx hb dX9_about_1 (by rw [c64]; decide) (by rw [c64]; decide) (by rw [c64] <;> rfl) (by decide) ?_
    have i65 : iv p1 13 13 := iv_eq1 c64 (iv_any p1) kc_13
    refine lv_aload_n hx hb dX9_about_151 rfl (lv_at hl 0 rfl) ?_
    refine h_geti (lo := 0) (hi := 7) hx hb hts iX9_about_X9 hown hK hI g_y (by decide) rfl rfl 54 (by decide) rfl rfl (hts (.fieldLink RX9 407 "CatLeasesModel" "laid" "I") (List.mem_of_getElem? (i := 9) rfl)) (fun _ h9 => h9) dX9_about_152 (fun v66 e_v66 i_v66 => ?_)
    exact h_iret hQ hx hb hr hlocks rfl hK hI ⟨rfl, rfl, rfl⟩ dX9_about_155
  refine lv_tableOut (tgt := 156) hx hb dX9_about_1 (by have k0 : (0 : Int32).toInt = 0 := (by decide); have zc1 : ¬ p1.toInt = 0 := fun h9 => c1 (Int32.toInt_inj.mp (h9.trans k0.symm)); have k1 : (1 : Int32).toInt = 1 := (by decide); have zc9 : ¬ p1.toInt = 1 := fun h9 => c9 (Int32.toInt_inj.mp (h9.trans k1.symm)); have k2 : (2 : Int32).toInt = 2 := (by decide); have zc17 : ¬ p1.toInt = 2 := fun h9 => c17 (Int32.toInt_inj.mp (h9.trans k2.symm)); have k3 : (3 : Int32).toInt = 3 := (by decide); have zc25 : ¬ p1.toInt = 3 := fun h9 => c25 (Int32.toInt_inj.mp (h9.trans k3.symm)); have k4 : (4 : Int32).toInt = 4 := (by decide); have zc29 : ¬ p1.toInt = 4 := fun h9 => c29 (Int32.toInt_inj.mp (h9.trans k4.symm)); have k5 : (5 : Int32).toInt = 5 := (by decide); have zc36 : ¬ p1.toInt = 5 := fun h9 => c36 (Int32.toInt_inj.mp (h9.trans k5.symm)); have k6 : (6 : Int32).toInt = 6 := (by decide); have zc40 : ¬ p1.toInt = 6 := fun h9 => c40 (Int32.toInt_inj.mp (h9.trans k6.symm)); have k7 : (7 : Int32).toInt = 7 := (by decide); have zc44 : ¬ p1.toInt = 7 := fun h9 => c44 (Int32.toInt_inj.mp (h9.trans k7.symm)); have k8 : (8 : Int32).toInt = 8 := (by decide); have zc47 : ¬ p1.toInt = 8 := fun h9 => c47 (Int32.toInt_inj.mp (h9.trans k8.symm)); have k9 : (9 : Int32).toInt = 9 := (by decide); have zc50 : ¬ p1.toInt = 9 := fun h9 => c50 (Int32.toInt_inj.mp (h9.trans k9.symm)); have k10 : (10 : Int32).toInt = 10 := (by decide); have zc53 : ¬ p1.toInt = 10 := fun h9 => c53 (Int32.toInt_inj.mp (h9.trans k10.symm)); have k11 : (11 : Int32).toInt = 11 := (by decide); have zc56 : ¬ p1.toInt = 11 := fun h9 => c56 (Int32.toInt_inj.mp (h9.trans k11.symm)); have k12 : (12 : Int32).toInt = 12 := (by decide); have zc59 : ¬ p1.toInt = 12 := fun h9 => c59 (Int32.toInt_inj.mp (h9.trans k12.symm)); have k13 : (13 : Int32).toInt = 13 := (by decide); have zc64 : ¬ p1.toInt = 13 := fun h9 => c64 (Int32.toInt_inj.mp (h9.trans k13.symm)); have h8 := (iv_any p1); simp only [iv] at h8; omega) (by decide) ?_
  refine lv_iconst (v := (-1)) hx hb dX9_about_156 (by decide) ?_
  exact h_iret hQ hx hb hr hlocks rfl hK hI ⟨rfl, rfl, rfl⟩ dX9_about_157
abbrev e_h_cat_X9 : List (Nat × Nat) := []
set_option maxHeartbeats 4000000 in
set_option maxRecDepth 100000 in
theorem h_cat_X9 (l : Launch) (D : va_G) (g : Nat → ClassId) (σ : Nat → Option Nat) (Z : State → Heap → Prop) (hZ0 : hZ σ Z) (M : hM) (N : hN) (R : hR) (y : Nat) (g_y : σ y = some 9) (p1 : Int32) (p2 : Int32) : Met l yX9_cat wsX9_cat ({ frames := 2, cells := 0, slots := 0, locals := 44 }) (va_Pc [.ref y, .int p1, .int p2] (hPre D g σ Z M N R)) (hQi D g σ e_h_cat_X9 M (fun (r : Int32) (M1 : hM) (N1 : hN) (R1 : hR) => M = M1 ∧ N = N1 ∧ R = R1)) 0 0 (hA σ) := by
  refine h_head (cc := cX9_cat) (maxL := 3) (ret := (some .int)) (by decide) rfl (Nat.le_of_ble_eq_true rfl) e_h_cat_X9 ?_
  intro p e s m below meth c ls Q ar hQ hx hb hr hlocks hml hown hts hK hE H locs hI hl
  have hown : s.vm.findClass RX9 = some m.cls := hown
  have hl : lv_has ls 3 [(0, .ref y), (1, .int p1), (2, .int p2)] := hl
  refine lv_aload_n hx hb dX9_cat_0 rfl (lv_at hl 0 rfl) ?_
  refine lv_iload_n hx hb dX9_cat_1 rfl (lv_at hl 1 rfl) ?_
  refine h_goi hI (by decide) (va_runV (As := [.int p1]) (rest := []) ⟨hx, hb, hml, hown, hts⟩ (h_isCat_X9 l D g σ Z hZ0 M N R y g_y p1) (cwV 1 hts gX9_cat_X9_isCat rfl rfl rfl (by decide +kernel) ⟨Nat.le_of_ble_eq_true rfl, Nat.le_of_ble_eq_true rfl⟩) (h_preV hZ0 hK hE hI g_y (by decide) rfl) rfl rfl hl.1 rfl (lv_room (Nat.le_of_ble_eq_true rfl)) dX9_cat_2 ⟨Nat.le_of_ble_eq_true rfl, Nat.le_of_ble_eq_true rfl⟩) (fun r1 M2 N3 R4 H locs q5 z_M2 hI => ?_)
  obtain ⟨rfl, rfl, rfl, i_r1, z6, z7⟩ := q5
  refine lv_if_ne (tgt := 11) hx hb dX9_cat_5 (by decide) (fun c8 => ?_) (fun c8 => ?_)
  · have i9 : iv p1 0 5 := z6 c8
    have i10 : iv r1 1 1 := iv_neL c8 i_r1 (by decide) (by decide)
    refine lv_iload_n hx hb dX9_cat_11 rfl (lv_at hl 2 rfl) ?_
    by_cases c11 : p2 = 0
    · refine lv_tableIn (tgt := 48) hx hb dX9_cat_12 (by rw [c11]; decide) (by rw [c11]; decide) (by rw [c11] <;> rfl) (by decide) ?_
      have i12 : iv p2 0 0 := iv_eq1 c11 (iv_any p2) kc_0
      refine lv_aload_n hx hb dX9_cat_48 rfl (lv_at hl 0 rfl) ?_
      refine h_getr hx hb hts iX9_cat_X9 hown hK hI g_y (by decide) rfl rfl 45 (by decide) rfl 145 rfl (hts (.fieldLink RX9 94 "CatLeasesModel" "all" "[I") (List.mem_of_getElem? (i := 1) rfl)) (fun _ h9 => h9) dX9_cat_49 (fun a13 e_a13 g_a13 => ?_)
      refine lv_bipush (v := 36) hx hb dX9_cat_52 (by decide) ?_
      refine h_iald (j := 36) (lo := (-2147483648)) (hi := 2147483647) hx hb hK hI g_a13 (by decide) rfl (iv_in (n := 39) kc_36 (by decide) (by decide)) (by decide) (iv_any _) dX9_cat_54 (fun v14 e_v14 i_v14 => ?_)
      refine lv_iload_n hx hb dX9_cat_55 rfl (lv_at hl 1 rfl) ?_
      refine lv_ishr hx hb dX9_cat_56 ?_
      refine h_nm (lo := (-2147483648)) (hi := 2147483647) (iv_any _) (fun v15 e_v15 i_v15 => ?_)
      refine lv_iconst (v := 1) hx hb dX9_cat_57 (by decide) ?_
      refine lv_iand hx hb dX9_cat_58 ?_
      refine h_nm (lo := 0) (hi := 1) (iv_and 1 (by decide) (by decide) (by decide)) (fun v16 e_v16 i_v16 => ?_)
      exact h_iret hQ hx hb hr hlocks rfl hK hI ⟨rfl, rfl, rfl⟩ dX9_cat_59
    by_cases c17 : p2 = 1
    · refine lv_tableIn (tgt := 60) hx hb dX9_cat_12 (by rw [c17]; decide) (by rw [c17]; decide) (by rw [c17] <;> rfl) (by decide) ?_
      have i18 : iv p2 1 1 := iv_eq1 c17 (iv_any p2) kc_1
      refine lv_aload_n hx hb dX9_cat_60 rfl (lv_at hl 0 rfl) ?_
      refine h_getr hx hb hts iX9_cat_X9 hown hK hI g_y (by decide) rfl rfl 18 (by decide) rfl 118 rfl (hts (.fieldLink RX9 42 "CatLeasesModel" "wants" "[I") (List.mem_of_getElem? (i := 2) rfl)) (fun _ h9 => h9) dX9_cat_61 (fun a19 e_a19 g_a19 => ?_)
      refine lv_bipush (v := 6) hx hb dX9_cat_64 (by decide) ?_
      refine lv_aload_n hx hb dX9_cat_66 rfl (lv_at hl 0 rfl) ?_
      refine h_geti (lo := 0) (hi := 1) hx hb hts iX9_cat_X9 hown hK hI g_y (by decide) rfl rfl 35 (by decide) rfl rfl (hts (.fieldLink RX9 268 "CatLeasesModel" "bank" "I") (List.mem_of_getElem? (i := 3) rfl)) (fun _ h9 => h9) dX9_cat_67 (fun v20 e_v20 i_v20 => ?_)
      refine lv_imul hx hb dX9_cat_70 ?_
      refine h_nm (lo := 0) (hi := 6) (iv_mul kc_6 i_v20 (by decide) (by decide) (by decide) (by decide) (by decide)) (fun v21 e_v21 i_v21 => ?_)
      refine lv_iload_n hx hb dX9_cat_71 rfl (lv_at hl 1 rfl) ?_
      refine lv_iadd hx hb dX9_cat_72 ?_
      refine h_nm (lo := 0) (hi := 11) (iv_add i_v21 i9 (by decide) (by decide) (by decide) (by decide)) (fun v22 e_v22 i_v22 => ?_)
      refine h_iald (j := v22.toNatClampNeg) (lo := (-2147483648)) (hi := 2147483647) hx hb hK hI g_a19 (by decide) rfl (iv_in (n := 12) i_v22 (by decide) (by decide)) rfl (iv_any _) dX9_cat_73 (fun v23 e_v23 i_v23 => ?_)
      exact h_iret hQ hx hb hr hlocks rfl hK hI ⟨rfl, rfl, rfl⟩ dX9_cat_74
    by_cases c24 : p2 = 2
    · refine lv_tableIn (tgt := 75) hx hb dX9_cat_12 (by rw [c24]; decide) (by rw [c24]; decide) (by rw [c24] <;> rfl) (by decide) ?_
      have i25 : iv p2 2 2 := iv_eq1 c24 (iv_any p2) kc_2
      refine lv_aload_n hx hb dX9_cat_75 rfl (lv_at hl 0 rfl) ?_
      refine h_getr hx hb hts iX9_cat_X9 hown hK hI g_y (by decide) rfl rfl 19 (by decide) rfl 119 rfl (hts (.fieldLink RX9 45 "CatLeasesModel" "heir" "[I") (List.mem_of_getElem? (i := 4) rfl)) (fun _ h9 => h9) dX9_cat_76 (fun a26 e_a26 g_a26 => ?_)
      refine lv_bipush (v := 6) hx hb dX9_cat_79 (by decide) ?_
      refine lv_aload_n hx hb dX9_cat_81 rfl (lv_at hl 0 rfl) ?_
      refine h_geti (lo := 0) (hi := 1) hx hb hts iX9_cat_X9 hown hK hI g_y (by decide) rfl rfl 35 (by decide) rfl rfl (hts (.fieldLink RX9 268 "CatLeasesModel" "bank" "I") (List.mem_of_getElem? (i := 3) rfl)) (fun _ h9 => h9) dX9_cat_82 (fun v27 e_v27 i_v27 => ?_)
      refine lv_imul hx hb dX9_cat_85 ?_
      refine h_nm (lo := 0) (hi := 6) (iv_mul kc_6 i_v27 (by decide) (by decide) (by decide) (by decide) (by decide)) (fun v28 e_v28 i_v28 => ?_)
      refine lv_iload_n hx hb dX9_cat_86 rfl (lv_at hl 1 rfl) ?_
      refine lv_iadd hx hb dX9_cat_87 ?_
      refine h_nm (lo := 0) (hi := 11) (iv_add i_v28 i9 (by decide) (by decide) (by decide) (by decide)) (fun v29 e_v29 i_v29 => ?_)
      refine h_iald (j := v29.toNatClampNeg) (lo := (-1)) (hi := 5) hx hb hK hI g_a26 (by decide) rfl (iv_in (n := 12) i_v29 (by decide) (by decide)) rfl (hI.iv1 (n := 12) g_a26 rfl (in_lt (iv_in (n := 12) i_v29 (by decide) (by decide))) rfl) dX9_cat_88 (fun v30 e_v30 i_v30 => ?_)
      exact h_iret hQ hx hb hr hlocks rfl hK hI ⟨rfl, rfl, rfl⟩ dX9_cat_89
    by_cases c31 : p2 = 3
    · refine lv_tableIn (tgt := 90) hx hb dX9_cat_12 (by rw [c31]; decide) (by rw [c31]; decide) (by rw [c31] <;> rfl) (by decide) ?_
      have i32 : iv p2 3 3 := iv_eq1 c31 (iv_any p2) kc_3
      refine lv_aload_n hx hb dX9_cat_90 rfl (lv_at hl 0 rfl) ?_
      refine lv_iload_n hx hb dX9_cat_91 rfl (lv_at hl 1 rfl) ?_
      refine h_goi hI (by decide) (va_runV (As := [.int p1]) (rest := []) ⟨hx, hb, hml, hown, hts⟩ (h_roomsOf_X9 l D g σ Z hZ0 M N R y g_y p1) (cwV 1 hts gX9_cat_X9_roomsOf rfl rfl rfl (by decide +kernel) ⟨Nat.le_of_ble_eq_true rfl, Nat.le_of_ble_eq_true rfl⟩) (h_preV hZ0 hK hE hI g_y (by decide) rfl) rfl rfl hl.1 rfl (lv_room (Nat.le_of_ble_eq_true rfl)) dX9_cat_92 ⟨Nat.le_of_ble_eq_true rfl, Nat.le_of_ble_eq_true rfl⟩) (fun r33 M34 N35 R36 H locs q37 z_M34 hI => ?_)
      obtain ⟨rfl, rfl, rfl, i_r33, z38⟩ := q37
      exact h_iret hQ hx hb hr hlocks rfl hK hI ⟨rfl, rfl, rfl⟩ dX9_cat_95
    by_cases c39 : p2 = 4
    · refine lv_tableIn (tgt := 96) hx hb dX9_cat_12 (by rw [c39]; decide) (by rw [c39]; decide) (by rw [c39] <;> rfl) (by decide) ?_
      have i40 : iv p2 4 4 := iv_eq1 c39 (iv_any p2) kc_4
      refine lv_aload_n hx hb dX9_cat_96 rfl (lv_at hl 0 rfl) ?_
      refine lv_aload_n hx hb dX9_cat_97 rfl (lv_at hl 0 rfl) ?_
      refine lv_iload_n hx hb dX9_cat_98 rfl (lv_at hl 1 rfl) ?_
      refine h_goi hI (by decide) (va_runV (As := [.int p1]) (rest := [.ref y]) ⟨hx, hb, hml, hown, hts⟩ (h_roomsOf_X9 l D g σ Z hZ0 M N R y g_y p1) (cwV 1 hts gX9_cat_X9_roomsOf rfl rfl rfl (by decide +kernel) ⟨Nat.le_of_ble_eq_true rfl, Nat.le_of_ble_eq_true rfl⟩) (h_preV hZ0 hK hE hI g_y (by decide) rfl) rfl rfl hl.1 rfl (lv_room (Nat.le_of_ble_eq_true rfl)) dX9_cat_99 ⟨Nat.le_of_ble_eq_true rfl, Nat.le_of_ble_eq_true rfl⟩) (fun r41 M42 N43 R44 H locs q45 z_M42 hI => ?_)
      obtain ⟨rfl, rfl, rfl, i_r41, z46⟩ := q45
      refine h_goi hI (by decide) (va_runV (As := [.int r41]) (rest := []) ⟨hx, hb, hml, hown, hts⟩ (h_thoseIn_X9 l D g σ Z hZ0 M N R y g_y r41) (cwV 1 hts gX9_cat_X9_thoseIn rfl rfl rfl (by decide +kernel) ⟨Nat.le_of_ble_eq_true rfl, Nat.le_of_ble_eq_true rfl⟩) (h_preV hZ0 hK hE hI g_y (by decide) rfl) rfl rfl hl.1 rfl (lv_room (Nat.le_of_ble_eq_true rfl)) dX9_cat_102 ⟨Nat.le_of_ble_eq_true rfl, Nat.le_of_ble_eq_true rfl⟩) (fun r47 M48 N49 R50 H locs q51 z_M48 hI => ?_)
      obtain ⟨rfl, rfl, rfl, i_r47, z52⟩ := q51
      exact h_iret hQ hx hb hr hlocks rfl hK hI ⟨rfl, rfl, rfl⟩ dX9_cat_105
    refine lv_tableOut (tgt := 106) hx hb dX9_cat_12 (by have k0 : (0 : Int32).toInt = 0 := (by decide); have zc11 : ¬ p2.toInt = 0 := fun h9 => c11 (Int32.toInt_inj.mp (h9.trans k0.symm)); have k1 : (1 : Int32).toInt = 1 := (by decide); have zc17 : ¬ p2.toInt = 1 := fun h9 => c17 (Int32.toInt_inj.mp (h9.trans k1.symm)); have k2 : (2 : Int32).toInt = 2 := (by decide); have zc24 : ¬ p2.toInt = 2 := fun h9 => c24 (Int32.toInt_inj.mp (h9.trans k2.symm)); have k3 : (3 : Int32).toInt = 3 := (by decide); have zc31 : ¬ p2.toInt = 3 := fun h9 => c31 (Int32.toInt_inj.mp (h9.trans k3.symm)); have k4 : (4 : Int32).toInt = 4 := (by decide); have zc39 : ¬ p2.toInt = 4 := fun h9 => c39 (Int32.toInt_inj.mp (h9.trans k4.symm)); have h8 := (iv_any p2); simp only [iv] at h8; omega) (by decide) ?_
    refine lv_bipush (v := (-2)) hx hb dX9_cat_106 (by decide) ?_
    exact h_iret hQ hx hb hr hlocks rfl hK hI ⟨rfl, rfl, rfl⟩ dX9_cat_108
  · have i53 : iv r1 0 0 := iv_eq1 c8 i_r1 kc_0
    refine lv_bipush (v := (-2)) hx hb dX9_cat_8 (by decide) ?_
    exact h_iret hQ hx hb hr hlocks rfl hK hI ⟨rfl, rfl, rfl⟩ dX9_cat_10
abbrev e_h_room_X9 : List (Nat × Nat) := []
set_option maxHeartbeats 4000000 in
set_option maxRecDepth 100000 in
theorem h_room_X9 (l : Launch) (D : va_G) (g : Nat → ClassId) (σ : Nat → Option Nat) (Z : State → Heap → Prop) (hZ0 : hZ σ Z) (M : hM) (N : hN) (R : hR) (y : Nat) (g_y : σ y = some 9) (p1 : Int32) (p2 : Int32) : Met l yX9_room wsX9_room ({ frames := 2, cells := 0, slots := 0, locals := 43 }) (va_Pc [.ref y, .int p1, .int p2] (hPre D g σ Z M N R)) (hQi D g σ e_h_room_X9 M (fun (r : Int32) (M1 : hM) (N1 : hN) (R1 : hR) => M = M1 ∧ N = N1 ∧ R = R1 ∧ iv r (-2) 6)) 0 0 (hA σ) := by
  refine h_head (cc := cX9_room) (maxL := 3) (ret := (some .int)) (by decide) rfl (Nat.le_of_ble_eq_true rfl) e_h_room_X9 ?_
  intro p e s m below meth c ls Q ar hQ hx hb hr hlocks hml hown hts hK hE H locs hI hl
  have hown : s.vm.findClass RX9 = some m.cls := hown
  have hl : lv_has ls 3 [(0, .ref y), (1, .int p1), (2, .int p2)] := hl
  refine lv_aload_n hx hb dX9_room_0 rfl (lv_at hl 0 rfl) ?_
  refine lv_iload_n hx hb dX9_room_1 rfl (lv_at hl 1 rfl) ?_
  refine h_goi hI (by decide) (va_runV (As := [.int p1]) (rest := []) ⟨hx, hb, hml, hown, hts⟩ (h_isRoom_X9 l D g σ Z hZ0 M N R y g_y p1) (cwV 1 hts gX9_room_X9_isRoom rfl rfl rfl (by decide +kernel) ⟨Nat.le_of_ble_eq_true rfl, Nat.le_of_ble_eq_true rfl⟩) (h_preV hZ0 hK hE hI g_y (by decide) rfl) rfl rfl hl.1 rfl (lv_room (Nat.le_of_ble_eq_true rfl)) dX9_room_2 ⟨Nat.le_of_ble_eq_true rfl, Nat.le_of_ble_eq_true rfl⟩) (fun r1 M2 N3 R4 H locs q5 z_M2 hI => ?_)
  obtain ⟨rfl, rfl, rfl, i_r1, z6⟩ := q5
  refine lv_if_ne (tgt := 11) hx hb dX9_room_5 (by decide) (fun c7 => ?_) (fun c7 => ?_)
  · have i8 : iv p1 0 7 := z6 c7
    have i9 : iv r1 1 1 := iv_neL c7 i_r1 (by decide) (by decide)
    refine lv_iload_n hx hb dX9_room_11 rfl (lv_at hl 2 rfl) ?_
    by_cases c10 : p2 = 0
    · refine lv_lookup (off := 28) (tgt := 40) hx hb dX9_room_12 (by decide) (by rw [c10] <;> rfl) (by decide) ?_
      have i11 : iv p2 0 0 := iv_eq1 c10 (iv_any p2) kc_0
      refine lv_aload_n hx hb dX9_room_40 rfl (lv_at hl 0 rfl) ?_
      refine lv_iload_n hx hb dX9_room_41 rfl (lv_at hl 1 rfl) ?_
      refine h_goi hI (by decide) (va_runV (As := [.int p1]) (rest := []) ⟨hx, hb, hml, hown, hts⟩ (h_keeperOf_X9 l D g σ Z hZ0 M N R y g_y p1 i8) (cwV 1 hts gX9_room_X9_keeperOf rfl rfl rfl (by decide +kernel) ⟨Nat.le_of_ble_eq_true rfl, Nat.le_of_ble_eq_true rfl⟩) (h_preV hZ0 hK hE hI g_y (by decide) rfl) rfl rfl hl.1 rfl (lv_room (Nat.le_of_ble_eq_true rfl)) dX9_room_42 ⟨Nat.le_of_ble_eq_true rfl, Nat.le_of_ble_eq_true rfl⟩) (fun r12 M13 N14 R15 H locs q16 z_M13 hI => ?_)
      obtain ⟨rfl, rfl, rfl, i_r12, z17⟩ := q16
      exact h_iret hQ hx hb hr hlocks rfl hK hI ⟨rfl, rfl, rfl, (iv_w (lo' := (-2)) (hi' := 6) i_r12 (by decide) (by decide))⟩ dX9_room_45
    by_cases c18 : p2 = 1
    · refine lv_lookup (off := 34) (tgt := 46) hx hb dX9_room_12 (by decide) (by rw [c18] <;> rfl) (by decide) ?_
      have i19 : iv p2 1 1 := iv_eq1 c18 (iv_any p2) kc_1
      refine lv_aload_n hx hb dX9_room_46 rfl (lv_at hl 0 rfl) ?_
      refine lv_iload_n hx hb dX9_room_47 rfl (lv_at hl 1 rfl) ?_
      refine h_goi hI (by decide) (va_runV (As := [.int p1]) (rest := []) ⟨hx, hb, hml, hown, hts⟩ (h_whoIn_X9 l D g σ Z hZ0 M N R y g_y p1) (cwV 1 hts gX9_room_X9_whoIn rfl rfl rfl (by decide +kernel) ⟨Nat.le_of_ble_eq_true rfl, Nat.le_of_ble_eq_true rfl⟩) (h_preV hZ0 hK hE hI g_y (by decide) rfl) rfl rfl hl.1 rfl (lv_room (Nat.le_of_ble_eq_true rfl)) dX9_room_48 ⟨Nat.le_of_ble_eq_true rfl, Nat.le_of_ble_eq_true rfl⟩) (fun r20 M21 N22 R23 H locs q24 z_M21 hI => ?_)
      obtain ⟨rfl, rfl, rfl, i_r20⟩ := q24
      exact h_iret hQ hx hb hr hlocks rfl hK hI ⟨rfl, rfl, rfl, (iv_w (lo' := (-2)) (hi' := 6) i_r20 (by decide) (by decide))⟩ dX9_room_51
    refine lv_lookup (off := 40) (tgt := 52) hx hb dX9_room_12 (by decide) ((lv_osw c10 (by decide)).trans ((lv_osw c18 (by decide)).trans rfl)) (by decide) ?_
    refine lv_bipush (v := (-2)) hx hb dX9_room_52 (by decide) ?_
    exact h_iret hQ hx hb hr hlocks rfl hK hI ⟨rfl, rfl, rfl, (iv_w (lo' := (-2)) (hi' := 6) kc_m2 (by decide) (by decide))⟩ dX9_room_54
  · have i25 : iv r1 0 0 := iv_eq1 c7 i_r1 kc_0
    refine lv_bipush (v := (-2)) hx hb dX9_room_8 (by decide) ?_
    exact h_iret hQ hx hb hr hlocks rfl hK hI ⟨rfl, rfl, rfl, (iv_w (lo' := (-2)) (hi' := 6) kc_m2 (by decide) (by decide))⟩ dX9_room_10
abbrev e_h_tenant_X9 : List (Nat × Nat) := []
set_option maxHeartbeats 4000000 in
set_option maxRecDepth 100000 in
theorem h_tenant_X9 (l : Launch) (D : va_G) (g : Nat → ClassId) (σ : Nat → Option Nat) (Z : State → Heap → Prop) (hZ0 : hZ σ Z) (M : hM) (N : hN) (R : hR) (y : Nat) (g_y : σ y = some 9) (p1 : Int32) (p2 : Int32) : Met l yX9_tenant wsX9_tenant ({ frames := 2, cells := 0, slots := 0, locals := 43 }) (va_Pc [.ref y, .int p1, .int p2] (hPre D g σ Z M N R)) (hQi D g σ e_h_tenant_X9 M (fun (r : Int32) (M1 : hM) (N1 : hN) (R1 : hR) => M = M1 ∧ N = N1 ∧ R = R1)) 0 0 (hA σ) := by
  refine h_head (cc := cX9_tenant) (maxL := 3) (ret := (some .int)) (by decide) rfl (Nat.le_of_ble_eq_true rfl) e_h_tenant_X9 ?_
  intro p e s m below meth c ls Q ar hQ hx hb hr hlocks hml hown hts hK hE H locs hI hl
  have hown : s.vm.findClass RX9 = some m.cls := hown
  have hl : lv_has ls 3 [(0, .ref y), (1, .int p1), (2, .int p2)] := hl
  refine lv_aload_n hx hb dX9_tenant_0 rfl (lv_at hl 0 rfl) ?_
  refine lv_iload_n hx hb dX9_tenant_1 rfl (lv_at hl 1 rfl) ?_
  refine h_goi hI (by decide) (va_runV (As := [.int p1]) (rest := []) ⟨hx, hb, hml, hown, hts⟩ (h_isTenant_X9 l D g σ Z hZ0 M N R y g_y p1) (cwV 1 hts gX9_tenant_X9_isTenant rfl rfl rfl (by decide +kernel) ⟨Nat.le_of_ble_eq_true rfl, Nat.le_of_ble_eq_true rfl⟩) (h_preV hZ0 hK hE hI g_y (by decide) rfl) rfl rfl hl.1 rfl (lv_room (Nat.le_of_ble_eq_true rfl)) dX9_tenant_2 ⟨Nat.le_of_ble_eq_true rfl, Nat.le_of_ble_eq_true rfl⟩) (fun r1 M2 N3 R4 H locs q5 z_M2 hI => ?_)
  obtain ⟨rfl, rfl, rfl, i_r1, z6⟩ := q5
  refine lv_if_ne (tgt := 11) hx hb dX9_tenant_5 (by decide) (fun c7 => ?_) (fun c7 => ?_)
  · have i8 : iv p1 0 6 := z6 c7
    have i9 : iv r1 1 1 := iv_neL c7 i_r1 (by decide) (by decide)
    refine lv_iload_n hx hb dX9_tenant_11 rfl (lv_at hl 2 rfl) ?_
    by_cases c10 : p2 = 0
    · refine lv_tableIn (tgt := 48) hx hb dX9_tenant_12 (by rw [c10]; decide) (by rw [c10]; decide) (by rw [c10] <;> rfl) (by decide) ?_
      have i11 : iv p2 0 0 := iv_eq1 c10 (iv_any p2) kc_0
      refine lv_aload_n hx hb dX9_tenant_48 rfl (lv_at hl 0 rfl) ?_
      refine h_getr hx hb hts iX9_tenant_X9 hown hK hI g_y (by decide) rfl rfl 45 (by decide) rfl 145 rfl (hts (.fieldLink RX9 94 "CatLeasesModel" "all" "[I") (List.mem_of_getElem? (i := 1) rfl)) (fun _ h9 => h9) dX9_tenant_49 (fun a12 e_a12 g_a12 => ?_)
      refine lv_iconst (v := 0) hx hb dX9_tenant_52 (by decide) ?_
      refine lv_iload_n hx hb dX9_tenant_53 rfl (lv_at hl 1 rfl) ?_
      refine lv_iadd hx hb dX9_tenant_54 ?_
      refine k_top (v := p1) (Int32.zero_add _) ?_
      refine h_iald (j := p1.toNatClampNeg) (lo := (-1)) (hi := 7) hx hb hK hI g_a12 (by decide) rfl (iv_in (n := 39) i8 (by decide) (by decide)) rfl (hI.iv2 (n := 39) (c := 0) (d := 7) g_a12 rfl (in_lt (iv_in (n := 39) i8 (by decide) (by decide))) (iv_nat1 i8 (by decide)) (iv_nat2 i8 (by decide) (by decide)) (by decide)) dX9_tenant_55 (fun v13 e_v13 i_v13 => ?_)
      exact h_iret hQ hx hb hr hlocks rfl hK hI ⟨rfl, rfl, rfl⟩ dX9_tenant_56
    by_cases c14 : p2 = 1
    · refine lv_tableIn (tgt := 57) hx hb dX9_tenant_12 (by rw [c14]; decide) (by rw [c14]; decide) (by rw [c14] <;> rfl) (by decide) ?_
      have i15 : iv p2 1 1 := iv_eq1 c14 (iv_any p2) kc_1
      refine lv_aload_n hx hb dX9_tenant_57 rfl (lv_at hl 0 rfl) ?_
      refine h_getr hx hb hts iX9_tenant_X9 hown hK hI g_y (by decide) rfl rfl 45 (by decide) rfl 145 rfl (hts (.fieldLink RX9 94 "CatLeasesModel" "all" "[I") (List.mem_of_getElem? (i := 1) rfl)) (fun _ h9 => h9) dX9_tenant_58 (fun a16 e_a16 g_a16 => ?_)
      refine lv_bipush (v := 22) hx hb dX9_tenant_61 (by decide) ?_
      refine lv_iload_n hx hb dX9_tenant_63 rfl (lv_at hl 1 rfl) ?_
      refine lv_iadd hx hb dX9_tenant_64 ?_
      refine h_nm (lo := 22) (hi := 28) (iv_add kc_22 i8 (by decide) (by decide) (by decide) (by decide)) (fun v17 e_v17 i_v17 => ?_)
      refine h_iald (j := v17.toNatClampNeg) (lo := (-2147483648)) (hi := 2147483647) hx hb hK hI g_a16 (by decide) rfl (iv_in (n := 39) i_v17 (by decide) (by decide)) rfl (iv_any _) dX9_tenant_65 (fun v18 e_v18 i_v18 => ?_)
      exact h_iret hQ hx hb hr hlocks rfl hK hI ⟨rfl, rfl, rfl⟩ dX9_tenant_66
    by_cases c19 : p2 = 2
    · refine lv_tableIn (tgt := 67) hx hb dX9_tenant_12 (by rw [c19]; decide) (by rw [c19]; decide) (by rw [c19] <;> rfl) (by decide) ?_
      have i20 : iv p2 2 2 := iv_eq1 c19 (iv_any p2) kc_2
      refine lv_aload_n hx hb dX9_tenant_67 rfl (lv_at hl 0 rfl) ?_
      refine h_getr hx hb hts iX9_tenant_X9 hown hK hI g_y (by decide) rfl rfl 22 (by decide) rfl 122 rfl (hts (.fieldLink RX9 54 "CatLeasesModel" "warm" "[I") (List.mem_of_getElem? (i := 2) rfl)) (fun _ h9 => h9) dX9_tenant_68 (fun a21 e_a21 g_a21 => ?_)
      refine lv_bipush (v := 7) hx hb dX9_tenant_71 (by decide) ?_
      refine lv_aload_n hx hb dX9_tenant_73 rfl (lv_at hl 0 rfl) ?_
      refine h_geti (lo := 0) (hi := 1) hx hb hts iX9_tenant_X9 hown hK hI g_y (by decide) rfl rfl 35 (by decide) rfl rfl (hts (.fieldLink RX9 268 "CatLeasesModel" "bank" "I") (List.mem_of_getElem? (i := 3) rfl)) (fun _ h9 => h9) dX9_tenant_74 (fun v22 e_v22 i_v22 => ?_)
      refine lv_imul hx hb dX9_tenant_77 ?_
      refine h_nm (lo := 0) (hi := 7) (iv_mul kc_7 i_v22 (by decide) (by decide) (by decide) (by decide) (by decide)) (fun v23 e_v23 i_v23 => ?_)
      refine lv_iload_n hx hb dX9_tenant_78 rfl (lv_at hl 1 rfl) ?_
      refine lv_iadd hx hb dX9_tenant_79 ?_
      refine h_nm (lo := 0) (hi := 13) (iv_add i_v23 i8 (by decide) (by decide) (by decide) (by decide)) (fun v24 e_v24 i_v24 => ?_)
      refine h_iald (j := v24.toNatClampNeg) (lo := (-2147483648)) (hi := 2147483647) hx hb hK hI g_a21 (by decide) rfl (iv_in (n := 14) i_v24 (by decide) (by decide)) rfl (iv_any _) dX9_tenant_80 (fun v25 e_v25 i_v25 => ?_)
      exact h_iret hQ hx hb hr hlocks rfl hK hI ⟨rfl, rfl, rfl⟩ dX9_tenant_81
    by_cases c26 : p2 = 3
    · refine lv_tableIn (tgt := 82) hx hb dX9_tenant_12 (by rw [c26]; decide) (by rw [c26]; decide) (by rw [c26] <;> rfl) (by decide) ?_
      have i27 : iv p2 3 3 := iv_eq1 c26 (iv_any p2) kc_3
      refine lv_aload_n hx hb dX9_tenant_82 rfl (lv_at hl 0 rfl) ?_
      refine h_getr hx hb hts iX9_tenant_X9 hown hK hI g_y (by decide) rfl rfl 45 (by decide) rfl 145 rfl (hts (.fieldLink RX9 94 "CatLeasesModel" "all" "[I") (List.mem_of_getElem? (i := 1) rfl)) (fun _ h9 => h9) dX9_tenant_83 (fun a28 e_a28 g_a28 => ?_)
      refine lv_bipush (v := 29) hx hb dX9_tenant_86 (by decide) ?_
      refine lv_iload_n hx hb dX9_tenant_88 rfl (lv_at hl 1 rfl) ?_
      refine lv_iadd hx hb dX9_tenant_89 ?_
      refine h_nm (lo := 29) (hi := 35) (iv_add kc_29 i8 (by decide) (by decide) (by decide) (by decide)) (fun v29 e_v29 i_v29 => ?_)
      refine h_iald (j := v29.toNatClampNeg) (lo := (-2147483648)) (hi := 2147483647) hx hb hK hI g_a28 (by decide) rfl (iv_in (n := 39) i_v29 (by decide) (by decide)) rfl (iv_any _) dX9_tenant_90 (fun v30 e_v30 i_v30 => ?_)
      exact h_iret hQ hx hb hr hlocks rfl hK hI ⟨rfl, rfl, rfl⟩ dX9_tenant_91
    by_cases c31 : p2 = 4
    · refine lv_tableIn (tgt := 92) hx hb dX9_tenant_12 (by rw [c31]; decide) (by rw [c31]; decide) (by rw [c31] <;> rfl) (by decide) ?_
      have i32 : iv p2 4 4 := iv_eq1 c31 (iv_any p2) kc_4
      refine lv_aload_n hx hb dX9_tenant_92 rfl (lv_at hl 0 rfl) ?_
      refine h_getr hx hb hts iX9_tenant_X9 hown hK hI g_y (by decide) rfl rfl 45 (by decide) rfl 145 rfl (hts (.fieldLink RX9 94 "CatLeasesModel" "all" "[I") (List.mem_of_getElem? (i := 1) rfl)) (fun _ h9 => h9) dX9_tenant_93 (fun a33 e_a33 g_a33 => ?_)
      refine lv_bipush (v := 7) hx hb dX9_tenant_96 (by decide) ?_
      refine lv_iload_n hx hb dX9_tenant_98 rfl (lv_at hl 1 rfl) ?_
      refine lv_iadd hx hb dX9_tenant_99 ?_
      refine h_nm (lo := 7) (hi := 13) (iv_add kc_7 i8 (by decide) (by decide) (by decide) (by decide)) (fun v34 e_v34 i_v34 => ?_)
      refine h_iald (j := v34.toNatClampNeg) (lo := (-2147483648)) (hi := 2147483647) hx hb hK hI g_a33 (by decide) rfl (iv_in (n := 39) i_v34 (by decide) (by decide)) rfl (iv_any _) dX9_tenant_100 (fun v35 e_v35 i_v35 => ?_)
      exact h_iret hQ hx hb hr hlocks rfl hK hI ⟨rfl, rfl, rfl⟩ dX9_tenant_101
    refine lv_tableOut (tgt := 102) hx hb dX9_tenant_12 (by have k0 : (0 : Int32).toInt = 0 := (by decide); have zc10 : ¬ p2.toInt = 0 := fun h9 => c10 (Int32.toInt_inj.mp (h9.trans k0.symm)); have k1 : (1 : Int32).toInt = 1 := (by decide); have zc14 : ¬ p2.toInt = 1 := fun h9 => c14 (Int32.toInt_inj.mp (h9.trans k1.symm)); have k2 : (2 : Int32).toInt = 2 := (by decide); have zc19 : ¬ p2.toInt = 2 := fun h9 => c19 (Int32.toInt_inj.mp (h9.trans k2.symm)); have k3 : (3 : Int32).toInt = 3 := (by decide); have zc26 : ¬ p2.toInt = 3 := fun h9 => c26 (Int32.toInt_inj.mp (h9.trans k3.symm)); have k4 : (4 : Int32).toInt = 4 := (by decide); have zc31 : ¬ p2.toInt = 4 := fun h9 => c31 (Int32.toInt_inj.mp (h9.trans k4.symm)); have h8 := (iv_any p2); simp only [iv] at h8; omega) (by decide) ?_
    refine lv_bipush (v := (-2)) hx hb dX9_tenant_102 (by decide) ?_
    exact h_iret hQ hx hb hr hlocks rfl hK hI ⟨rfl, rfl, rfl⟩ dX9_tenant_104
  · have i36 : iv r1 0 0 := iv_eq1 c7 i_r1 kc_0
    refine lv_bipush (v := (-2)) hx hb dX9_tenant_8 (by decide) ?_
    exact h_iret hQ hx hb hr hlocks rfl hK hI ⟨rfl, rfl, rfl⟩ dX9_tenant_10
abbrev e_h_feed_X9 : List (Nat × Nat) := [(9, 2), (100, 999)]
set_option maxHeartbeats 4000000 in
set_option maxRecDepth 100000 in
theorem h_feed_X9 (l : Launch) (D : va_G) (g : Nat → ClassId) (σ : Nat → Option Nat) (Z : State → Heap → Prop) (hZ0 : hZ σ Z) (M : hM) (N : hN) (R : hR) (y : Nat) (g_y : σ y = some 9) (p1 : Int32) (p2 : Int32) (p3 : Int32) (p4 : Int32) (p5 : Int32) : Met l yX9_feed wsX9_feed ({ frames := 0, cells := 0, slots := 0, locals := 0 }) (va_Pc [.ref y, .int p1, .int p2, .int p3, .int p4, .int p5] (hPre D g σ Z M N R)) (hQi D g σ e_h_feed_X9 M (fun (r : Int32) (M1 : hM) (N1 : hN) (R1 : hR) => N = N1 ∧ R = R1 ∧ iv r (-1) 1600)) 0 0 (hA σ) := by
  refine h_head (cc := cX9_feed) (maxL := 8) (ret := (some .int)) (by decide) rfl (Nat.le_of_ble_eq_true rfl) e_h_feed_X9 ?_
  intro p e s m below meth c ls Q ar hQ hx hb hr hlocks hml hown hts hK hE H locs hI hl
  have hown : s.vm.findClass RX9 = some m.cls := hown
  have hl : lv_has ls 8 [(0, .ref y), (1, .int p1), (2, .int p2), (3, .int p3), (4, .int p4), (5, .int p5)] := hl
  refine lv_aload_n hx hb dX9_feed_0 rfl (lv_at hl 0 rfl) ?_
  refine h_geti (lo := 0) (hi := 1600) hx hb hts iX9_feed_X9 hown hK hI g_y (by decide) rfl rfl 2 (by decide) rfl rfl (hts (.fieldLink RX9 265 "CatLeasesModel" "taped" "I") (List.mem_of_getElem? (i := 1) rfl)) (fun _ h9 => h9) dX9_feed_1 (fun v1 e_v1 i_v1 => ?_)
  refine lv_bipush (v := 20) hx hb dX9_feed_4 (by decide) ?_
  refine lv_iadd hx hb dX9_feed_6 ?_
  refine h_nm (lo := 20) (hi := 1620) (iv_add i_v1 kc_20 (by decide) (by decide) (by decide) (by decide)) (fun v2 e_v2 i_v2 => ?_)
  refine lv_sipush (v := 1600) hx hb dX9_feed_7 (by decide) ?_
  refine lv_icmp_le (tgt := 15) hx hb dX9_feed_10 (by decide) (fun c3 => ?_) (fun c3 => ?_)
  · have i4 : iv v2 20 1600 := iv_le1 c3 i_v2 kc_1600 (by decide)
    have i5 : iv v1 0 1580 := iv_back (h_inc e_v2 i_v1 kc_20 (by decide) (by decide)) i4 i_v1 (by decide) (by decide)
    refine lv_iconst (v := 0) hx hb dX9_feed_15 (by decide) ?_
    have J18 : ∀ (n : Nat) (M_18 : hM) (v6_18 : Int32) (H : Heap) (locs : List Loc) (ls : Array Slot), kI D g σ e_h_feed_X9 M s.heap M_18 N R H locs → lv_has ls 8 [(0, .ref y), (1, .int p1), (2, .int p2), (3, .int p3), (4, .int p4), (5, .int p5), (6, .int v6_18)] → v1 = M_18 y 2 → iv v6_18 0 20 → 21 ≤ v6_18.toInt + (n : Int) → W p l e (headSpec wsX9_feed ({ frames := 0, cells := 0, slots := 0, locals := 0 })).room s m ar below meth c H locs 0 0 Q (F0 m 18 ls []) := by
      intro n
      induction n with
      | zero => intro M_18 v6_18 H locs ls hI hl k0_18 i_v6_18 hn; exfalso; have hz := i_v6_18; simp only [iv] at hz; omega
      | succ n ih18 =>
        intro M_18 v6_18 H locs ls hI hl k0_18 i_v6_18 hn18
        refine lv_iload hx hb dX9_feed_18 (lv_at hl 6 rfl) ?_
        refine lv_bipush (v := 20) hx hb dX9_feed_20 (by decide) ?_
        refine lv_icmp_ge (tgt := 105) hx hb dX9_feed_22 (by decide) (fun c6 => ?_) (fun c6 => ?_)
        · have i7 : iv v6_18 20 20 := iv_le2 c6 kc_20 i_v6_18 (by decide)
          refine lv_aload_n hx hb dX9_feed_105 rfl (lv_at hl 0 rfl) ?_
          refine lv_dup hx hb dX9_feed_106 rfl ?_
          refine h_geti (lo := 0) (hi := 1600) hx hb hts iX9_feed_X9 hown hK hI g_y (by decide) rfl rfl 2 (by decide) rfl rfl (hts (.fieldLink RX9 265 "CatLeasesModel" "taped" "I") (List.mem_of_getElem? (i := 1) rfl)) (fun _ h9 => h9) dX9_feed_107 (fun v8 e_v8 i_v8 => ?_)
          have q9 : v1 = v8 := (k0_18).trans e_v8.symm
          subst q9
          refine lv_bipush (v := 20) hx hb dX9_feed_110 (by decide) ?_
          refine lv_iadd hx hb dX9_feed_112 ?_
          refine h_nm (lo := 20) (hi := 1600) (iv_add i5 kc_20 (by decide) (by decide) (by decide) (by decide)) (fun v10 e_v10 i_v10 => ?_)
          refine h_puti hx hb hts iX9_feed_X9 tyX9 tyX9_ok nmX9 hown hK hI g_y (by decide) rfl rfl 2 (by decide) rfl (hts (.fieldLink RX9 265 "CatLeasesModel" "taped" "I") (List.mem_of_getElem? (i := 1) rfl)) (fun _ h9 => h9) rfl .int (by decide +kernel) rfl rfl (iv_w (lo' := 0) (hi' := 1600) i_v10 (by decide) (by decide)) rfl dX9_feed_113 (fun M11 H locs e_M11 hI => ?_)
          refine lv_aload_n hx hb dX9_feed_116 rfl (lv_at hl 0 rfl) ?_
          refine h_geti (lo := 0) (hi := 1600) hx hb hts iX9_feed_X9 hown hK hI g_y (by decide) rfl rfl 2 (by decide) rfl rfl (hts (.fieldLink RX9 265 "CatLeasesModel" "taped" "I") (List.mem_of_getElem? (i := 1) rfl)) (fun _ h9 => h9) dX9_feed_117 (fun v12 e_v12 i_v12 => ?_)
          have q13 : v10 = v12 := ((u2_wr e_M11)).trans e_v12.symm
          subst q13
          exact h_iret hQ hx hb hr hlocks rfl hK hI ⟨rfl, rfl, (iv_w (lo' := (-1)) (hi' := 1600) i_v10 (by decide) (by decide))⟩ dX9_feed_120
        · have i14 : iv v6_18 0 19 := iv_nle2 c6 kc_20 i_v6_18 (by decide)
          refine lv_iload hx hb dX9_feed_25 (lv_at hl 6 rfl) ?_
          refine lv_iconst (v := 4) hx hb dX9_feed_27 (by decide) ?_
          have J71 : ∀ (t0_71 : Int32) (H : Heap) (locs : List Loc) (ls : Array Slot), kI D g σ e_h_feed_X9 M s.heap M_18 N R H locs → lv_has ls 8 [(0, .ref y), (1, .int p1), (2, .int p2), (3, .int p3), (4, .int p4), (5, .int p5), (6, .int v6_18)] → W p l e (headSpec wsX9_feed ({ frames := 0, cells := 0, slots := 0, locals := 0 })).room s m ar below meth c H locs 0 0 Q (F0 m 71 ls [.int t0_71]) := by
            intro t0_71 H locs ls hI hl
            refine lv_istore (lv' := [(7, .int t0_71), (0, .ref y), (1, .int p1), (2, .int p2), (3, .int p3), (4, .int p4), (5, .int p5), (6, .int v6_18)]) hx hb dX9_feed_71 hl (by decide) rfl (fun ls hl => ?_)
            refine lv_aload_n hx hb dX9_feed_73 rfl (lv_at hl 1 rfl) ?_
            refine h_getr hx hb hts iX9_feed_X9 hown hK hI g_y (by decide) rfl rfl 0 (by decide) rfl 100 rfl (hts (.fieldLink RX9 7 "CatLeasesModel" "tape" "[B") (List.mem_of_getElem? (i := 2) rfl)) (fun _ h9 => h9) dX9_feed_74 (fun a15 e_a15 g_a15 => ?_)
            refine lv_aload_n hx hb dX9_feed_77 rfl (lv_at hl 1 rfl) ?_
            refine h_geti (lo := 0) (hi := 1600) hx hb hts iX9_feed_X9 hown hK hI g_y (by decide) rfl rfl 2 (by decide) rfl rfl (hts (.fieldLink RX9 265 "CatLeasesModel" "taped" "I") (List.mem_of_getElem? (i := 1) rfl)) (fun _ h9 => h9) dX9_feed_78 (fun v16 e_v16 i_v16 => ?_)
            have q17 : v1 = v16 := (k0_18).trans e_v16.symm
            subst q17
            refine lv_iload hx hb dX9_feed_81 (lv_at hl 7 rfl) ?_
            refine lv_iadd hx hb dX9_feed_83 ?_
            refine h_nm (lo := 0) (hi := 1599) (iv_add i5 i14 (by decide) (by decide) (by decide) (by decide)) (fun v18 e_v18 i_v18 => ?_)
            refine lv_iload hx hb dX9_feed_84 (lv_at hl 0 rfl) ?_
            refine lv_bipush (v := 24) hx hb dX9_feed_86 (by decide) ?_
            refine lv_bipush (v := 8) hx hb dX9_feed_88 (by decide) ?_
            refine lv_iload hx hb dX9_feed_90 (lv_at hl 7 rfl) ?_
            refine lv_iconst (v := 3) hx hb dX9_feed_92 (by decide) ?_
            refine lv_iand hx hb dX9_feed_93 ?_
            refine h_nm (lo := 0) (hi := 3) (iv_and 2 (by decide) (by decide) (by decide)) (fun v19 e_v19 i_v19 => ?_)
            refine lv_imul hx hb dX9_feed_94 ?_
            refine h_nm (lo := 0) (hi := 24) (iv_mul kc_8 i_v19 (by decide) (by decide) (by decide) (by decide) (by decide)) (fun v20 e_v20 i_v20 => ?_)
            refine lv_isub hx hb dX9_feed_95 ?_
            refine h_nm (lo := 0) (hi := 24) (iv_sub kc_24 i_v20 (by decide) (by decide) (by decide) (by decide)) (fun v21 e_v21 i_v21 => ?_)
            refine lv_ishr hx hb dX9_feed_96 ?_
            refine h_nm (lo := (-2147483648)) (hi := 2147483647) (iv_any _) (fun v22 e_v22 i_v22 => ?_)
            obtain ⟨v23, e_v23⟩ : ∃ z : Int32, v22.toInt8.toInt32 = z := ⟨_, rfl⟩
            refine lv_i2b (v := v23) hx hb dX9_feed_97 e_v23 ?_
            refine h_bast (j := v18.toNatClampNeg) hx hb hK hI g_a15 (by decide) rfl (iv_in (n := 1620) i_v18 (by decide) (by decide)) rfl (iv_any _) rfl dX9_feed_98 (fun M24 H locs e_M24 hI => ?_)
            obtain ⟨v25, e_v25⟩ : ∃ z : Int32, z = v6_18 + Int32.ofInt 1 := ⟨_, rfl⟩
            have i_v25 : iv v25 1 20 := by rw [e_v25]; exact iv_add i14 (ki_1) (by decide) (by decide) (by decide) (by decide)
            refine lv_iinc (v := v25) (lv' := [(6, .int v25), (7, .int t0_71), (0, .ref y), (1, .int p1), (2, .int p2), (3, .int p3), (4, .int p4), (5, .int p5)]) hx hb dX9_feed_99 hl (k := 7) rfl e_v25.symm (by decide) rfl (fun ls hl => ?_)
            refine lv_goto (tgt := 18) hx hb dX9_feed_102 (by decide) ?_
            exact ih18 M24 v25 H locs ls hI (lv_sub hl [2, 3, 4, 5, 6, 7, 0] rfl) ((k0_18).trans (u2_st (a := y) (k := 2) e_M24 (u2_a (so_ne g_y g_a15 (by decide)))).symm) (iv_w (lo' := 0) (hi' := 20) i_v25 (by decide) (by decide)) (by have h9 := (h_inc e_v25 i14 ki_1 (by decide) (by decide)); omega)
          refine lv_icmp_ge (tgt := 35) hx hb dX9_feed_28 (by decide) (fun c26 => ?_) (fun c26 => ?_)
          · have i27 : iv v6_18 4 19 := iv_le2 c26 kc_4 i14 (by decide)
            refine lv_iload hx hb dX9_feed_35 (lv_at hl 6 rfl) ?_
            refine lv_bipush (v := 8) hx hb dX9_feed_37 (by decide) ?_
            refine lv_icmp_ge (tgt := 46) hx hb dX9_feed_39 (by decide) (fun c28 => ?_) (fun c28 => ?_)
            · have i29 : iv v6_18 8 19 := iv_le2 c28 kc_8 i27 (by decide)
              refine lv_iload hx hb dX9_feed_46 (lv_at hl 6 rfl) ?_
              refine lv_bipush (v := 12) hx hb dX9_feed_48 (by decide) ?_
              refine lv_icmp_ge (tgt := 57) hx hb dX9_feed_50 (by decide) (fun c30 => ?_) (fun c30 => ?_)
              · have i31 : iv v6_18 12 19 := iv_le2 c30 kc_12 i29 (by decide)
                refine lv_iload hx hb dX9_feed_57 (lv_at hl 6 rfl) ?_
                refine lv_bipush (v := 16) hx hb dX9_feed_59 (by decide) ?_
                refine lv_icmp_ge (tgt := 69) hx hb dX9_feed_61 (by decide) (fun c32 => ?_) (fun c32 => ?_)
                · have i33 : iv v6_18 16 19 := iv_le2 c32 kc_16 i31 (by decide)
                  refine lv_iload hx hb dX9_feed_69 (lv_at hl 5 rfl) ?_
                  exact J71 p5 H locs ls hI hl
                · have i34 : iv v6_18 12 15 := iv_nle2 c32 kc_16 i31 (by decide)
                  refine lv_iload hx hb dX9_feed_64 (lv_at hl 4 rfl) ?_
                  refine lv_goto (tgt := 71) hx hb dX9_feed_66 (by decide) ?_
                  exact J71 p4 H locs ls hI hl
              · have i35 : iv v6_18 8 11 := iv_nle2 c30 kc_12 i29 (by decide)
                refine lv_iload_n hx hb dX9_feed_53 rfl (lv_at hl 3 rfl) ?_
                refine lv_goto (tgt := 71) hx hb dX9_feed_54 (by decide) ?_
                exact J71 p3 H locs ls hI hl
            · have i36 : iv v6_18 4 7 := iv_nle2 c28 kc_8 i27 (by decide)
              refine lv_iload_n hx hb dX9_feed_42 rfl (lv_at hl 2 rfl) ?_
              refine lv_goto (tgt := 71) hx hb dX9_feed_43 (by decide) ?_
              exact J71 p2 H locs ls hI hl
          · have i37 : iv v6_18 0 3 := iv_nle2 c26 kc_4 i14 (by decide)
            refine lv_iload_n hx hb dX9_feed_31 rfl (lv_at hl 1 rfl) ?_
            refine lv_goto (tgt := 71) hx hb dX9_feed_32 (by decide) ?_
            exact J71 p1 H locs ls hI hl
    refine lv_istore (lv' := [(6, .int (0 : Int32)), (0, .ref y), (1, .int p1), (2, .int p2), (3, .int p3), (4, .int p4), (5, .int p5)]) hx hb dX9_feed_16 hl (by decide) rfl (fun ls hl => ?_)
    exact J18 21 M (0 : Int32) H locs ls hI (lv_sub hl [1, 2, 3, 4, 5, 6, 0] rfl) (e_v1) (iv_w (lo' := 0) (hi' := 20) kc_0 (by decide) (by decide)) (by have h9 := kc_0; simp only [iv] at h9; omega)
  · have i38 : iv v2 1601 1620 := iv_nle1 c3 i_v2 kc_1600 (by decide)
    have i39 : iv v1 1581 1600 := iv_back (h_inc e_v2 i_v1 kc_20 (by decide) (by decide)) i38 i_v1 (by decide) (by decide)
    refine lv_iconst (v := (-1)) hx hb dX9_feed_13 (by decide) ?_
    exact h_iret hQ hx hb hr hlocks rfl hK hI ⟨rfl, rfl, (iv_w (lo' := (-1)) (hi' := 1600) kc_m1 (by decide) (by decide))⟩ dX9_feed_14
abbrev e_h_end_X9 : List (Nat × Nat) := [(9, 2)]
set_option maxHeartbeats 4000000 in
set_option maxRecDepth 100000 in
theorem h_end_X9 (l : Launch) (D : va_G) (g : Nat → ClassId) (σ : Nat → Option Nat) (Z : State → Heap → Prop) (hZ0 : hZ σ Z) (M : hM) (N : hN) (R : hR) (y : Nat) (g_y : σ y = some 9) (p1 : Int32) : Met l yX9_end wsX9_end ({ frames := 0, cells := 0, slots := 0, locals := 0 }) (va_Pc [.ref y, .int p1] (hPre D g σ Z M N R)) (hQi D g σ e_h_end_X9 M (fun (r : Int32) (M1 : hM) (N1 : hN) (R1 : hR) => N = N1 ∧ R = R1 ∧ iv r (-1) 1600)) 0 0 (hA σ) := by
  refine h_head (cc := cX9_end) (maxL := 2) (ret := (some .int)) (by decide) rfl (Nat.le_of_ble_eq_true rfl) e_h_end_X9 ?_
  intro p e s m below meth c ls Q ar hQ hx hb hr hlocks hml hown hts hK hE H locs hI hl
  have hown : s.vm.findClass RX9 = some m.cls := hown
  have hl : lv_has ls 2 [(0, .ref y), (1, .int p1)] := hl
  refine lv_iload_n hx hb dX9_end_0 rfl (lv_at hl 1 rfl) ?_
  refine lv_if_lt (tgt := 12) hx hb dX9_end_1 (by decide) (fun c1 => ?_) (fun c1 => ?_)
  · have i2 : iv p1 (-2147483648) (-1) := iv_lt1 c1 (iv_any p1) kc_0 (by decide)
    refine lv_iconst (v := (-1)) hx hb dX9_end_12 (by decide) ?_
    exact h_iret hQ hx hb hr hlocks rfl hK hI ⟨rfl, rfl, (iv_w (lo' := (-1)) (hi' := 1600) kc_m1 (by decide) (by decide))⟩ dX9_end_13
  · have i3 : iv p1 0 2147483647 := iv_nlt1 c1 (iv_any p1) kc_0 (by decide)
    refine lv_iload_n hx hb dX9_end_4 rfl (lv_at hl 1 rfl) ?_
    refine lv_aload_n hx hb dX9_end_5 rfl (lv_at hl 0 rfl) ?_
    refine h_geti (lo := 0) (hi := 1600) hx hb hts iX9_end_X9 hown hK hI g_y (by decide) rfl rfl 2 (by decide) rfl rfl (hts (.fieldLink RX9 265 "CatLeasesModel" "taped" "I") (List.mem_of_getElem? (i := 1) rfl)) (fun _ h9 => h9) dX9_end_6 (fun v4 e_v4 i_v4 => ?_)
    refine lv_icmp_le (tgt := 14) hx hb dX9_end_9 (by decide) (fun c5 => ?_) (fun c5 => ?_)
    · have i6 : iv p1 0 1600 := iv_le1 c5 i3 i_v4 (by decide)
      refine lv_aload_n hx hb dX9_end_14 rfl (lv_at hl 0 rfl) ?_
      refine lv_iload_n hx hb dX9_end_15 rfl (lv_at hl 1 rfl) ?_
      refine h_puti hx hb hts iX9_end_X9 tyX9 tyX9_ok nmX9 hown hK hI g_y (by decide) rfl rfl 2 (by decide) rfl (hts (.fieldLink RX9 265 "CatLeasesModel" "taped" "I") (List.mem_of_getElem? (i := 1) rfl)) (fun _ h9 => h9) rfl .int (by decide +kernel) rfl rfl i6 rfl dX9_end_16 (fun M7 H locs e_M7 hI => ?_)
      refine lv_iload_n hx hb dX9_end_19 rfl (lv_at hl 1 rfl) ?_
      exact h_iret hQ hx hb hr hlocks rfl hK hI ⟨rfl, rfl, (iv_w (lo' := (-1)) (hi' := 1600) i6 (by decide) (by decide))⟩ dX9_end_20
    · have i8 : iv p1 1 2147483647 := iv_nle1 c5 i3 i_v4 (by decide)
      refine lv_iconst (v := (-1)) hx hb dX9_end_12 (by decide) ?_
      exact h_iret hQ hx hb hr hlocks rfl hK hI ⟨rfl, rfl, (iv_w (lo' := (-1)) (hi' := 1600) kc_m1 (by decide) (by decide))⟩ dX9_end_13
abbrev e_h_areCats_X9 : List (Nat × Nat) := []
set_option maxHeartbeats 4000000 in
set_option maxRecDepth 100000 in
theorem h_areCats_X9 (l : Launch) (D : va_G) (g : Nat → ClassId) (σ : Nat → Option Nat) (Z : State → Heap → Prop) (hZ0 : hZ σ Z) (M : hM) (N : hN) (R : hR) (y : Nat) (g_y : σ y = some 9) (p1 : Int32) : Met l yX9_areCats wsX9_areCats ({ frames := 1, cells := 0, slots := 0, locals := 22 }) (va_Pc [.ref y, .int p1] (hPre D g σ Z M N R)) (hQi D g σ e_h_areCats_X9 M (fun (r : Int32) (M1 : hM) (N1 : hN) (R1 : hR) => M = M1 ∧ N = N1 ∧ R = R1 ∧ iv r 0 1 ∧ (¬ r = 0 → iv p1 0 63))) 0 0 (hA σ) := by
  refine h_head (cc := cX9_areCats) (maxL := 2) (ret := (some .boolean)) (by decide) rfl (Nat.le_of_ble_eq_true rfl) e_h_areCats_X9 ?_
  intro p e s m below meth c ls Q ar hQ hx hb hr hlocks hml hown hts hK hE H locs hI hl
  have hown : s.vm.findClass RX9 = some m.cls := hown
  have hl : lv_has ls 2 [(0, .ref y), (1, .int p1)] := hl
  refine lv_iload_n hx hb dX9_areCats_0 rfl (lv_at hl 1 rfl) ?_
  refine lv_iconst (v := 0) hx hb dX9_areCats_1 (by decide) ?_
  refine lv_iconst (v := 1) hx hb dX9_areCats_2 (by decide) ?_
  refine lv_aload_n hx hb dX9_areCats_3 rfl (lv_at hl 0 rfl) ?_
  refine h_goi hI (by decide) (va_runV (As := []) (rest := [.int (1 : Int32), .int (0 : Int32), .int p1]) ⟨hx, hb, hml, hown, hts⟩ (h_cattery_X9 l D g σ Z hZ0 M N R y g_y) (cwV 0 hts gX9_areCats_X9_cattery rfl rfl rfl (by decide +kernel) ⟨Nat.le_of_ble_eq_true rfl, Nat.le_of_ble_eq_true rfl⟩) (h_preV hZ0 hK hE hI g_y (by decide) rfl) rfl rfl hl.1 rfl (lv_room (Nat.le_of_ble_eq_true rfl)) dX9_areCats_4 ⟨Nat.le_of_ble_eq_true rfl, Nat.le_of_ble_eq_true rfl⟩) (fun r1 M2 N3 R4 H locs q5 z_M2 hI => ?_)
  obtain ⟨rfl, rfl, rfl, i_r1, z6⟩ := q5
  refine lv_ishl hx hb dX9_areCats_7 ?_
  refine h_nm (lo := 1) (hi := 64) (iv_shl1 6 i_r1 (by decide) (by decide) (by decide) (by decide) (by decide)) (fun v7 e_v7 i_v7 => ?_)
  refine lv_iconst (v := 1) hx hb dX9_areCats_8 (by decide) ?_
  refine lv_isub hx hb dX9_areCats_9 ?_
  refine h_nm (lo := 0) (hi := 63) (iv_sub i_v7 kc_1 (by decide) (by decide) (by decide) (by decide)) (fun v8 e_v8 i_v8 => ?_)
  refine h_goi hI (by decide) (va_runS (As := [.int p1, .int (0 : Int32), .int v8]) (rest := []) ⟨hx, hb, hml, hown, hts⟩ (h_isIn_X9 l D g σ Z hZ0 M N R p1 (0 : Int32) v8) (va_cwS 3 hts gX9_areCats_X9_isIn rfl rfl rfl (by decide +kernel) ⟨Nat.le_of_ble_eq_true rfl, Nat.le_of_ble_eq_true rfl⟩) (h_preS hZ0 hK hE hI) rfl rfl hl.1 rfl (lv_room (Nat.le_of_ble_eq_true rfl)) dX9_areCats_10 ⟨Nat.le_of_ble_eq_true rfl, Nat.le_of_ble_eq_true rfl⟩) (fun r9 M10 N11 R12 H locs q13 z_M10 hI => ?_)
  obtain ⟨rfl, rfl, rfl, i_r9, z14⟩ := q13
  exact h_iret hQ hx hb hr hlocks (nar_z i_r9) hK hI ⟨rfl, rfl, rfl, i_r9, (fun h9 => iv_w ((fun h9 => iv_isin (z14 h9) kc_0 i_v8) h9) (by decide) (by decide))⟩ dX9_areCats_13
abbrev e_h_seen_X9 : List (Nat × Nat) := [(9, 63), (158, 999), (159, 999), (160, 999), (161, 999), (162, 999)]
set_option maxHeartbeats 4000000 in
set_option maxRecDepth 100000 in
theorem h_seen_X9 (l : Launch) (D : va_G) (g : Nat → ClassId) (σ : Nat → Option Nat) (Z : State → Heap → Prop) (hZ0 : hZ σ Z) (M : hM) (N : hN) (R : hR) (y : Nat) (g_y : σ y = some 9) (p1 : Int32) (p2 : Int32) (p3 : Int32) (h_p3 : iv p3 0 1) : Met l yX9_seen wsX9_seen ({ frames := 2, cells := 0, slots := 0, locals := 43 }) (va_Pc [.ref y, .int p1, .int p2, .int p3] (hPre D g σ Z M N R)) (hQi D g σ e_h_seen_X9 M (fun (r : Int32) (M1 : hM) (N1 : hN) (R1 : hR) => N = N1 ∧ R = R1 ∧ iv r (-1) 29)) 0 0 (hA σ) := by
  refine h_head (cc := cX9_seen) (maxL := 4) (ret := (some .int)) (by decide) rfl (Nat.le_of_ble_eq_true rfl) e_h_seen_X9 ?_
  intro p e s m below meth c ls Q ar hQ hx hb hr hlocks hml hown hts hK hE H locs hI hl
  have hown : s.vm.findClass RX9 = some m.cls := hown
  have hl : lv_has ls 4 [(0, .ref y), (1, .int p1), (2, .int p2), (3, .int p3)] := hl
  refine lv_iload_n hx hb dX9_seen_0 rfl (lv_at hl 1 rfl) ?_
  refine lv_iconst (v := 0) hx hb dX9_seen_1 (by decide) ?_
  refine lv_bipush (v := 9) hx hb dX9_seen_2 (by decide) ?_
  refine h_goi hI (by decide) (va_runS (As := [.int p1, .int (0 : Int32), .int (9 : Int32)]) (rest := []) ⟨hx, hb, hml, hown, hts⟩ (h_isIn_X9 l D g σ Z hZ0 M N R p1 (0 : Int32) (9 : Int32)) (va_cwS 3 hts gX9_seen_X9_isIn rfl rfl rfl (by decide +kernel) ⟨Nat.le_of_ble_eq_true rfl, Nat.le_of_ble_eq_true rfl⟩) (h_preS hZ0 hK hE hI) rfl rfl hl.1 rfl (lv_room (Nat.le_of_ble_eq_true rfl)) dX9_seen_4 ⟨Nat.le_of_ble_eq_true rfl, Nat.le_of_ble_eq_true rfl⟩) (fun r1 M2 N3 R4 H locs q5 z_M2 hI => ?_)
  obtain ⟨rfl, rfl, rfl, i_r1, z6⟩ := q5
  refine lv_if_eq (tgt := 34) hx hb dX9_seen_7 (by decide) (fun c7 => ?_) (fun c7 => ?_)
  · have i8 : iv r1 0 0 := iv_eq1 c7 i_r1 kc_0
    refine lv_iconst (v := (-1)) hx hb dX9_seen_34 (by decide) ?_
    exact h_iret hQ hx hb hr hlocks rfl hK hI ⟨rfl, rfl, (iv_w (lo' := (-1)) (hi' := 29) kc_m1 (by decide) (by decide))⟩ dX9_seen_35
  · have i9 : iv p1 0 9 := (fun h9 => iv_isin (z6 h9) kc_0 kc_9) c7
    have i10 : iv r1 1 1 := iv_neL c7 i_r1 (by decide) (by decide)
    refine lv_aload_n hx hb dX9_seen_10 rfl (lv_at hl 0 rfl) ?_
    refine lv_iload_n hx hb dX9_seen_11 rfl (lv_at hl 2 rfl) ?_
    refine h_goi hI (by decide) (va_runV (As := [.int p2]) (rest := []) ⟨hx, hb, hml, hown, hts⟩ (h_isTenant_X9 l D g σ Z hZ0 M N R y g_y p2) (cwV 1 hts gX9_seen_X9_isTenant rfl rfl rfl (by decide +kernel) ⟨Nat.le_of_ble_eq_true rfl, Nat.le_of_ble_eq_true rfl⟩) (h_preV hZ0 hK hE hI g_y (by decide) rfl) rfl rfl hl.1 rfl (lv_room (Nat.le_of_ble_eq_true rfl)) dX9_seen_12 ⟨Nat.le_of_ble_eq_true rfl, Nat.le_of_ble_eq_true rfl⟩) (fun r11 M12 N13 R14 H locs q15 z_M12 hI => ?_)
    obtain ⟨rfl, rfl, rfl, i_r11, z16⟩ := q15
    refine lv_if_eq (tgt := 34) hx hb dX9_seen_15 (by decide) (fun c17 => ?_) (fun c17 => ?_)
    · have i18 : iv r11 0 0 := iv_eq1 c17 i_r11 kc_0
      refine lv_iconst (v := (-1)) hx hb dX9_seen_34 (by decide) ?_
      exact h_iret hQ hx hb hr hlocks rfl hK hI ⟨rfl, rfl, (iv_w (lo' := (-1)) (hi' := 29) kc_m1 (by decide) (by decide))⟩ dX9_seen_35
    · have i19 : iv p2 0 6 := z16 c17
      have i20 : iv r11 1 1 := iv_neL c17 i_r11 (by decide) (by decide)
      refine lv_aload_n hx hb dX9_seen_18 rfl (lv_at hl 0 rfl) ?_
      refine h_geti (lo := 0) (hi := 30) hx hb hts iX9_seen_X9 hown hK hI g_y (by decide) rfl rfl 63 (by decide) rfl rfl (hts (.fieldLink RX9 404 "CatLeasesModel" "seens" "I") (List.mem_of_getElem? (i := 1) rfl)) (fun _ h9 => h9) dX9_seen_19 (fun v21 e_v21 i_v21 => ?_)
      refine lv_bipush (v := 30) hx hb dX9_seen_22 (by decide) ?_
      refine lv_icmp_eq (tgt := 34) hx hb dX9_seen_24 (by decide) (fun c22 => ?_) (fun c22 => ?_)
      · have i23 : iv v21 30 30 := iv_eq1 c22 i_v21 kc_30
        refine lv_iconst (v := (-1)) hx hb dX9_seen_34 (by decide) ?_
        exact h_iret hQ hx hb hr hlocks rfl hK hI ⟨rfl, rfl, (iv_w (lo' := (-1)) (hi' := 29) kc_m1 (by decide) (by decide))⟩ dX9_seen_35
      · have i24 : iv v21 0 29 := iv_neH c22 i_v21 (by decide) (by decide)
        refine lv_aload_n hx hb dX9_seen_27 rfl (lv_at hl 0 rfl) ?_
        refine h_goi hI (by decide) (va_runV (As := []) (rest := []) ⟨hx, hb, hml, hown, hts⟩ (h_cattery_X9 l D g σ Z hZ0 M N R y g_y) (cwV 0 hts gX9_seen_X9_cattery rfl rfl rfl (by decide +kernel) ⟨Nat.le_of_ble_eq_true rfl, Nat.le_of_ble_eq_true rfl⟩) (h_preV hZ0 hK hE hI g_y (by decide) rfl) rfl rfl hl.1 rfl (lv_room (Nat.le_of_ble_eq_true rfl)) dX9_seen_28 ⟨Nat.le_of_ble_eq_true rfl, Nat.le_of_ble_eq_true rfl⟩) (fun r25 M26 N27 R28 H locs q29 z_M26 hI => ?_)
        obtain ⟨rfl, rfl, rfl, i_r25, z30⟩ := q29
        refine lv_if_ne (tgt := 36) hx hb dX9_seen_31 (by decide) (fun c31 => ?_) (fun c31 => ?_)
        · have i32 : iv r25 1 6 := iv_neL c31 i_r25 (by decide) (by decide)
          refine lv_aload_n hx hb dX9_seen_36 rfl (lv_at hl 0 rfl) ?_
          refine h_getr hx hb hts iX9_seen_X9 hown hK hI g_y (by decide) rfl rfl 58 (by decide) rfl 158 rfl (hts (.fieldLink RX9 124 "CatLeasesModel" "sQuarters" "[I") (List.mem_of_getElem? (i := 2) rfl)) (fun _ h9 => h9) dX9_seen_37 (fun a33 e_a33 g_a33 => ?_)
          refine lv_aload_n hx hb dX9_seen_40 rfl (lv_at hl 0 rfl) ?_
          refine h_geti (lo := 0) (hi := 30) hx hb hts iX9_seen_X9 hown hK hI g_y (by decide) rfl rfl 63 (by decide) rfl rfl (hts (.fieldLink RX9 404 "CatLeasesModel" "seens" "I") (List.mem_of_getElem? (i := 1) rfl)) (fun _ h9 => h9) dX9_seen_41 (fun v34 e_v34 i_v34 => ?_)
          have q35 : v21 = v34 := (e_v21).trans e_v34.symm
          subst q35
          refine lv_iload_n hx hb dX9_seen_44 rfl (lv_at hl 1 rfl) ?_
          refine h_iast (j := v21.toNatClampNeg) hx hb hK hI g_a33 (by decide) rfl (iv_in (n := 30) i24 (by decide) (by decide)) rfl i9 rfl dX9_seen_45 (fun M36 H locs e_M36 hI => ?_)
          refine lv_aload_n hx hb dX9_seen_46 rfl (lv_at hl 0 rfl) ?_
          refine h_getr hx hb hts iX9_seen_X9 hown hK hI g_y (by decide) rfl rfl 59 (by decide) rfl 159 rfl (hts (.fieldLink RX9 127 "CatLeasesModel" "sTenant" "[I") (List.mem_of_getElem? (i := 3) rfl)) (fun _ h9 => h9) dX9_seen_47 (fun a37 e_a37 g_a37 => ?_)
          refine lv_aload_n hx hb dX9_seen_50 rfl (lv_at hl 0 rfl) ?_
          refine h_geti (lo := 0) (hi := 30) hx hb hts iX9_seen_X9 hown hK hI g_y (by decide) rfl rfl 63 (by decide) rfl rfl (hts (.fieldLink RX9 404 "CatLeasesModel" "seens" "I") (List.mem_of_getElem? (i := 1) rfl)) (fun _ h9 => h9) dX9_seen_51 (fun v38 e_v38 i_v38 => ?_)
          have q39 : v21 = v38 := ((e_v21).trans (u2_st (a := y) (k := 63) e_M36 (u2_a (so_ne g_y g_a33 (by decide)))).symm).trans e_v38.symm
          subst q39
          refine lv_iload_n hx hb dX9_seen_54 rfl (lv_at hl 2 rfl) ?_
          refine h_iast (j := v21.toNatClampNeg) hx hb hK hI g_a37 (by decide) rfl (iv_in (n := 30) i24 (by decide) (by decide)) rfl (iv_any _) rfl dX9_seen_55 (fun M40 H locs e_M40 hI => ?_)
          refine lv_aload_n hx hb dX9_seen_56 rfl (lv_at hl 0 rfl) ?_
          refine h_getr hx hb hts iX9_seen_X9 hown hK hI g_y (by decide) rfl rfl 60 (by decide) rfl 160 rfl (hts (.fieldLink RX9 130 "CatLeasesModel" "sIs" "[I") (List.mem_of_getElem? (i := 4) rfl)) (fun _ h9 => h9) dX9_seen_57 (fun a41 e_a41 g_a41 => ?_)
          refine lv_aload_n hx hb dX9_seen_60 rfl (lv_at hl 0 rfl) ?_
          refine h_geti (lo := 0) (hi := 30) hx hb hts iX9_seen_X9 hown hK hI g_y (by decide) rfl rfl 63 (by decide) rfl rfl (hts (.fieldLink RX9 404 "CatLeasesModel" "seens" "I") (List.mem_of_getElem? (i := 1) rfl)) (fun _ h9 => h9) dX9_seen_61 (fun v42 e_v42 i_v42 => ?_)
          have q43 : v21 = v42 := (((e_v21).trans (u2_st (a := y) (k := 63) e_M36 (u2_a (so_ne g_y g_a33 (by decide)))).symm).trans (u2_st (a := y) (k := 63) e_M40 (u2_a (so_ne g_y g_a37 (by decide)))).symm).trans e_v42.symm
          subst q43
          refine lv_iload_n hx hb dX9_seen_64 rfl (lv_at hl 3 rfl) ?_
          have J73 : ∀ (t2_73 : Int32) (H : Heap) (locs : List Loc) (ls : Array Slot), kI D g σ e_h_seen_X9 M s.heap M40 N R H locs → lv_has ls 4 [(0, .ref y)] → iv t2_73 0 1 → W p l e (headSpec wsX9_seen ({ frames := 2, cells := 0, slots := 0, locals := 43 })).room s m ar below meth c H locs 0 0 Q (F0 m 73 ls [.int t2_73, .int v21, .ref a41]) := by
            intro t2_73 H locs ls hI hl i_t2_73
            refine h_iast (j := v21.toNatClampNeg) hx hb hK hI g_a41 (by decide) rfl (iv_in (n := 30) i24 (by decide) (by decide)) rfl (iv_any _) rfl dX9_seen_73 (fun M44 H locs e_M44 hI => ?_)
            refine lv_aload_n hx hb dX9_seen_74 rfl (lv_at hl 0 rfl) ?_
            refine h_getr hx hb hts iX9_seen_X9 hown hK hI g_y (by decide) rfl rfl 61 (by decide) rfl 161 rfl (hts (.fieldLink RX9 133 "CatLeasesModel" "sTold" "[I") (List.mem_of_getElem? (i := 5) rfl)) (fun _ h9 => h9) dX9_seen_75 (fun a45 e_a45 g_a45 => ?_)
            refine lv_aload_n hx hb dX9_seen_78 rfl (lv_at hl 0 rfl) ?_
            refine h_geti (lo := 0) (hi := 30) hx hb hts iX9_seen_X9 hown hK hI g_y (by decide) rfl rfl 63 (by decide) rfl rfl (hts (.fieldLink RX9 404 "CatLeasesModel" "seens" "I") (List.mem_of_getElem? (i := 1) rfl)) (fun _ h9 => h9) dX9_seen_79 (fun v46 e_v46 i_v46 => ?_)
            have q47 : v21 = v46 := ((((e_v21).trans (u2_st (a := y) (k := 63) e_M36 (u2_a (so_ne g_y g_a33 (by decide)))).symm).trans (u2_st (a := y) (k := 63) e_M40 (u2_a (so_ne g_y g_a37 (by decide)))).symm).trans (u2_st (a := y) (k := 63) e_M44 (u2_a (so_ne g_y g_a41 (by decide)))).symm).trans e_v46.symm
            subst q47
            refine lv_aload_n hx hb dX9_seen_82 rfl (lv_at hl 0 rfl) ?_
            refine h_geti (lo := (-2147483648)) (hi := 2147483647) hx hb hts iX9_seen_X9 hown hK hI g_y (by decide) rfl rfl 64 (by decide) rfl rfl (hts (.fieldLink RX9 532 "CatLeasesModel" "time" "I") (List.mem_of_getElem? (i := 6) rfl)) (fun _ h9 => h9) dX9_seen_83 (fun v48 e_v48 i_v48 => ?_)
            refine h_iast (j := v21.toNatClampNeg) hx hb hK hI g_a45 (by decide) rfl (iv_in (n := 30) i24 (by decide) (by decide)) rfl (iv_any _) rfl dX9_seen_86 (fun M49 H locs e_M49 hI => ?_)
            refine lv_aload_n hx hb dX9_seen_87 rfl (lv_at hl 0 rfl) ?_
            refine h_getr hx hb hts iX9_seen_X9 hown hK hI g_y (by decide) rfl rfl 62 (by decide) rfl 162 rfl (hts (.fieldLink RX9 136 "CatLeasesModel" "sUntold" "[I") (List.mem_of_getElem? (i := 7) rfl)) (fun _ h9 => h9) dX9_seen_88 (fun a50 e_a50 g_a50 => ?_)
            refine lv_aload_n hx hb dX9_seen_91 rfl (lv_at hl 0 rfl) ?_
            refine h_geti (lo := 0) (hi := 30) hx hb hts iX9_seen_X9 hown hK hI g_y (by decide) rfl rfl 63 (by decide) rfl rfl (hts (.fieldLink RX9 404 "CatLeasesModel" "seens" "I") (List.mem_of_getElem? (i := 1) rfl)) (fun _ h9 => h9) dX9_seen_92 (fun v51 e_v51 i_v51 => ?_)
            have q52 : v21 = v51 := (((((e_v21).trans (u2_st (a := y) (k := 63) e_M36 (u2_a (so_ne g_y g_a33 (by decide)))).symm).trans (u2_st (a := y) (k := 63) e_M40 (u2_a (so_ne g_y g_a37 (by decide)))).symm).trans (u2_st (a := y) (k := 63) e_M44 (u2_a (so_ne g_y g_a41 (by decide)))).symm).trans (u2_st (a := y) (k := 63) e_M49 (u2_a (so_ne g_y g_a45 (by decide)))).symm).trans e_v51.symm
            subst q52
            refine lv_iconst (v := (-1)) hx hb dX9_seen_95 (by decide) ?_
            refine h_iast (j := v21.toNatClampNeg) hx hb hK hI g_a50 (by decide) rfl (iv_in (n := 30) i24 (by decide) (by decide)) rfl (iv_any _) rfl dX9_seen_96 (fun M53 H locs e_M53 hI => ?_)
            refine lv_aload_n hx hb dX9_seen_97 rfl (lv_at hl 0 rfl) ?_
            refine lv_dup hx hb dX9_seen_98 rfl ?_
            refine h_geti (lo := 0) (hi := 30) hx hb hts iX9_seen_X9 hown hK hI g_y (by decide) rfl rfl 63 (by decide) rfl rfl (hts (.fieldLink RX9 404 "CatLeasesModel" "seens" "I") (List.mem_of_getElem? (i := 1) rfl)) (fun _ h9 => h9) dX9_seen_99 (fun v54 e_v54 i_v54 => ?_)
            have q55 : v21 = v54 := ((((((e_v21).trans (u2_st (a := y) (k := 63) e_M36 (u2_a (so_ne g_y g_a33 (by decide)))).symm).trans (u2_st (a := y) (k := 63) e_M40 (u2_a (so_ne g_y g_a37 (by decide)))).symm).trans (u2_st (a := y) (k := 63) e_M44 (u2_a (so_ne g_y g_a41 (by decide)))).symm).trans (u2_st (a := y) (k := 63) e_M49 (u2_a (so_ne g_y g_a45 (by decide)))).symm).trans (u2_st (a := y) (k := 63) e_M53 (u2_a (so_ne g_y g_a50 (by decide)))).symm).trans e_v54.symm
            subst q55
            refine lv_iconst (v := 1) hx hb dX9_seen_102 (by decide) ?_
            refine lv_iadd hx hb dX9_seen_103 ?_
            refine h_nm (lo := 1) (hi := 30) (iv_add i24 kc_1 (by decide) (by decide) (by decide) (by decide)) (fun v56 e_v56 i_v56 => ?_)
            refine h_puti hx hb hts iX9_seen_X9 tyX9 tyX9_ok nmX9 hown hK hI g_y (by decide) rfl rfl 63 (by decide) rfl (hts (.fieldLink RX9 404 "CatLeasesModel" "seens" "I") (List.mem_of_getElem? (i := 1) rfl)) (fun _ h9 => h9) rfl .int (by decide +kernel) rfl rfl (iv_w (lo' := 0) (hi' := 30) i_v56 (by decide) (by decide)) rfl dX9_seen_104 (fun M57 H locs e_M57 hI => ?_)
            refine lv_aload_n hx hb dX9_seen_107 rfl (lv_at hl 0 rfl) ?_
            refine h_geti (lo := 0) (hi := 30) hx hb hts iX9_seen_X9 hown hK hI g_y (by decide) rfl rfl 63 (by decide) rfl rfl (hts (.fieldLink RX9 404 "CatLeasesModel" "seens" "I") (List.mem_of_getElem? (i := 1) rfl)) (fun _ h9 => h9) dX9_seen_108 (fun v58 e_v58 i_v58 => ?_)
            have q59 : v56 = v58 := ((u2_wr e_M57)).trans e_v58.symm
            subst q59
            refine lv_iconst (v := 1) hx hb dX9_seen_111 (by decide) ?_
            refine lv_isub hx hb dX9_seen_112 ?_
            refine h_nm (lo := 0) (hi := 29) (iv_sub i_v56 kc_1 (by decide) (by decide) (by decide) (by decide)) (fun v60 e_v60 i_v60 => ?_)
            exact h_iret hQ hx hb hr hlocks rfl hK hI ⟨rfl, rfl, (iv_w (lo' := (-1)) (hi' := 29) i_v60 (by decide) (by decide))⟩ dX9_seen_113
          refine lv_if_eq (tgt := 72) hx hb dX9_seen_65 (by decide) (fun c61 => ?_) (fun c61 => ?_)
          · have i62 : iv p3 0 0 := iv_eq1 c61 h_p3 kc_0
            refine lv_iconst (v := 0) hx hb dX9_seen_72 (by decide) ?_
            exact J73 (0 : Int32) H locs ls hI (lv_sub hl [0] rfl) (iv_w (lo' := 0) (hi' := 1) kc_0 (by decide) (by decide))
          · have i63 : iv p3 1 1 := iv_neL c61 h_p3 (by decide) (by decide)
            refine lv_iconst (v := 1) hx hb dX9_seen_68 (by decide) ?_
            refine lv_goto (tgt := 73) hx hb dX9_seen_69 (by decide) ?_
            exact J73 (1 : Int32) H locs ls hI (lv_sub hl [0] rfl) (iv_w (lo' := 0) (hi' := 1) kc_1 (by decide) (by decide))
        · have i64 : iv r25 0 0 := iv_eq1 c31 i_r25 kc_0
          refine lv_iconst (v := (-1)) hx hb dX9_seen_34 (by decide) ?_
          exact h_iret hQ hx hb hr hlocks rfl hK hI ⟨rfl, rfl, (iv_w (lo' := (-1)) (hi' := 29) kc_m1 (by decide) (by decide))⟩ dX9_seen_35
abbrev e_h_untell_X9 : List (Nat × Nat) := [(162, 999)]
set_option maxHeartbeats 4000000 in
set_option maxRecDepth 100000 in
theorem h_untell_X9 (l : Launch) (D : va_G) (g : Nat → ClassId) (σ : Nat → Option Nat) (Z : State → Heap → Prop) (hZ0 : hZ σ Z) (M : hM) (N : hN) (R : hR) (y : Nat) (g_y : σ y = some 9) (p1 : Int32) : Met l yX9_untell wsX9_untell ({ frames := 1, cells := 0, slots := 0, locals := 22 }) (va_Pc [.ref y, .int p1] (hPre D g σ Z M N R)) (hQi D g σ e_h_untell_X9 M (fun (r : Int32) (M1 : hM) (N1 : hN) (R1 : hR) => N = N1 ∧ R = R1 ∧ iv r 0 1 ∧ (¬ r = 0 → iv p1 0 29))) 0 0 (hA σ) := by
  refine h_head (cc := cX9_untell) (maxL := 2) (ret := (some .boolean)) (by decide) rfl (Nat.le_of_ble_eq_true rfl) e_h_untell_X9 ?_
  intro p e s m below meth c ls Q ar hQ hx hb hr hlocks hml hown hts hK hE H locs hI hl
  have hown : s.vm.findClass RX9 = some m.cls := hown
  have hl : lv_has ls 2 [(0, .ref y), (1, .int p1)] := hl
  refine lv_iload_n hx hb dX9_untell_0 rfl (lv_at hl 1 rfl) ?_
  refine lv_iconst (v := 0) hx hb dX9_untell_1 (by decide) ?_
  refine lv_aload_n hx hb dX9_untell_2 rfl (lv_at hl 0 rfl) ?_
  refine h_geti (lo := 0) (hi := 30) hx hb hts iX9_untell_X9 hown hK hI g_y (by decide) rfl rfl 63 (by decide) rfl rfl (hts (.fieldLink RX9 404 "CatLeasesModel" "seens" "I") (List.mem_of_getElem? (i := 1) rfl)) (fun _ h9 => h9) dX9_untell_3 (fun v1 e_v1 i_v1 => ?_)
  refine lv_iconst (v := 1) hx hb dX9_untell_6 (by decide) ?_
  refine lv_isub hx hb dX9_untell_7 ?_
  refine h_nm (lo := (-1)) (hi := 29) (iv_sub i_v1 kc_1 (by decide) (by decide) (by decide) (by decide)) (fun v2 e_v2 i_v2 => ?_)
  refine h_goi hI (by decide) (va_runS (As := [.int p1, .int (0 : Int32), .int v2]) (rest := []) ⟨hx, hb, hml, hown, hts⟩ (h_isIn_X9 l D g σ Z hZ0 M N R p1 (0 : Int32) v2) (va_cwS 3 hts gX9_untell_X9_isIn rfl rfl rfl (by decide +kernel) ⟨Nat.le_of_ble_eq_true rfl, Nat.le_of_ble_eq_true rfl⟩) (h_preS hZ0 hK hE hI) rfl rfl hl.1 rfl (lv_room (Nat.le_of_ble_eq_true rfl)) dX9_untell_8 ⟨Nat.le_of_ble_eq_true rfl, Nat.le_of_ble_eq_true rfl⟩) (fun r3 M4 N5 R6 H locs q7 z_M4 hI => ?_)
  obtain ⟨rfl, rfl, rfl, i_r3, z8⟩ := q7
  refine lv_if_eq (tgt := 23) hx hb dX9_untell_11 (by decide) (fun c9 => ?_) (fun c9 => ?_)
  · have i10 : iv r3 0 0 := iv_eq1 c9 i_r3 kc_0
    refine lv_iconst (v := 0) hx hb dX9_untell_23 (by decide) ?_
    exact h_iret hQ hx hb hr hlocks rfl hK hI ⟨rfl, rfl, (iv_w (lo' := 0) (hi' := 1) kc_0 (by decide) (by decide)), (fun h9 => absurd rfl h9)⟩ dX9_untell_24
  · have i11 : iv p1 0 29 := (fun h9 => iv_isin (z8 h9) kc_0 i_v2) c9
    have i12 : iv r3 1 1 := iv_neL c9 i_r3 (by decide) (by decide)
    refine lv_aload_n hx hb dX9_untell_14 rfl (lv_at hl 0 rfl) ?_
    refine h_getr hx hb hts iX9_untell_X9 hown hK hI g_y (by decide) rfl rfl 62 (by decide) rfl 162 rfl (hts (.fieldLink RX9 136 "CatLeasesModel" "sUntold" "[I") (List.mem_of_getElem? (i := 2) rfl)) (fun _ h9 => h9) dX9_untell_15 (fun a13 e_a13 g_a13 => ?_)
    refine lv_iload_n hx hb dX9_untell_18 rfl (lv_at hl 1 rfl) ?_
    refine h_iald (j := p1.toNatClampNeg) (lo := (-2147483648)) (hi := 2147483647) hx hb hK hI g_a13 (by decide) rfl (iv_in (n := 30) i11 (by decide) (by decide)) rfl (iv_any _) dX9_untell_19 (fun v14 e_v14 i_v14 => ?_)
    refine lv_if_lt (tgt := 25) hx hb dX9_untell_20 (by decide) (fun c15 => ?_) (fun c15 => ?_)
    · have i16 : iv v14 (-2147483648) (-1) := iv_lt1 c15 i_v14 kc_0 (by decide)
      refine lv_aload_n hx hb dX9_untell_25 rfl (lv_at hl 0 rfl) ?_
      refine h_getr hx hb hts iX9_untell_X9 hown hK hI g_y (by decide) rfl rfl 62 (by decide) rfl 162 rfl (hts (.fieldLink RX9 136 "CatLeasesModel" "sUntold" "[I") (List.mem_of_getElem? (i := 2) rfl)) (fun _ h9 => h9) dX9_untell_26 (fun a17 e_a17 g_a17 => ?_)
      have q18 : a13 = a17 := (e_a13).trans e_a17.symm
      subst q18
      refine lv_iload_n hx hb dX9_untell_29 rfl (lv_at hl 1 rfl) ?_
      refine lv_aload_n hx hb dX9_untell_30 rfl (lv_at hl 0 rfl) ?_
      refine h_geti (lo := (-2147483648)) (hi := 2147483647) hx hb hts iX9_untell_X9 hown hK hI g_y (by decide) rfl rfl 64 (by decide) rfl rfl (hts (.fieldLink RX9 532 "CatLeasesModel" "time" "I") (List.mem_of_getElem? (i := 3) rfl)) (fun _ h9 => h9) dX9_untell_31 (fun v19 e_v19 i_v19 => ?_)
      refine h_iast (j := p1.toNatClampNeg) hx hb hK hI g_a13 (by decide) rfl (iv_in (n := 30) i11 (by decide) (by decide)) rfl (iv_any _) rfl dX9_untell_34 (fun M20 H locs e_M20 hI => ?_)
      refine lv_iconst (v := 1) hx hb dX9_untell_35 (by decide) ?_
      exact h_iret hQ hx hb hr hlocks rfl hK hI ⟨rfl, rfl, (iv_w (lo' := 0) (hi' := 1) kc_1 (by decide) (by decide)), (fun _ => i11)⟩ dX9_untell_36
    · have i21 : iv v14 0 2147483647 := iv_nlt1 c15 i_v14 kc_0 (by decide)
      refine lv_iconst (v := 0) hx hb dX9_untell_23 (by decide) ?_
      exact h_iret hQ hx hb hr hlocks rfl hK hI ⟨rfl, rfl, (iv_w (lo' := 0) (hi' := 1) kc_0 (by decide) (by decide)), (fun h9 => absurd rfl h9)⟩ dX9_untell_24
abbrev e_h_later_X9 : List (Nat × Nat) := [(9, 64)]
set_option maxHeartbeats 4000000 in
set_option maxRecDepth 100000 in
theorem h_later_X9 (l : Launch) (D : va_G) (g : Nat → ClassId) (σ : Nat → Option Nat) (Z : State → Heap → Prop) (hZ0 : hZ σ Z) (M : hM) (N : hN) (R : hR) (y : Nat) (g_y : σ y = some 9) (p1 : Int32) : Met l yX9_later wsX9_later ({ frames := 1, cells := 0, slots := 0, locals := 22 }) (va_Pc [.ref y, .int p1] (hPre D g σ Z M N R)) (hQi D g σ e_h_later_X9 M (fun (r : Int32) (M1 : hM) (N1 : hN) (R1 : hR) => N = N1 ∧ R = R1)) 0 0 (hA σ) := by
  refine h_head (cc := cX9_later) (maxL := 2) (ret := (some .int)) (by decide) rfl (Nat.le_of_ble_eq_true rfl) e_h_later_X9 ?_
  intro p e s m below meth c ls Q ar hQ hx hb hr hlocks hml hown hts hK hE H locs hI hl
  have hown : s.vm.findClass RX9 = some m.cls := hown
  have hl : lv_has ls 2 [(0, .ref y), (1, .int p1)] := hl
  refine lv_iload_n hx hb dX9_later_0 rfl (lv_at hl 1 rfl) ?_
  refine lv_iconst (v := 0) hx hb dX9_later_1 (by decide) ?_
  refine lv_sipush (v := 1000) hx hb dX9_later_2 (by decide) ?_
  refine h_goi hI (by decide) (va_runS (As := [.int p1, .int (0 : Int32), .int (1000 : Int32)]) (rest := []) ⟨hx, hb, hml, hown, hts⟩ (h_isIn_X9 l D g σ Z hZ0 M N R p1 (0 : Int32) (1000 : Int32)) (va_cwS 3 hts gX9_later_X9_isIn rfl rfl rfl (by decide +kernel) ⟨Nat.le_of_ble_eq_true rfl, Nat.le_of_ble_eq_true rfl⟩) (h_preS hZ0 hK hE hI) rfl rfl hl.1 rfl (lv_room (Nat.le_of_ble_eq_true rfl)) dX9_later_5 ⟨Nat.le_of_ble_eq_true rfl, Nat.le_of_ble_eq_true rfl⟩) (fun r1 M2 N3 R4 H locs q5 z_M2 hI => ?_)
  obtain ⟨rfl, rfl, rfl, i_r1, z6⟩ := q5
  refine lv_if_eq (tgt := 23) hx hb dX9_later_8 (by decide) (fun c7 => ?_) (fun c7 => ?_)
  · have i8 : iv r1 0 0 := iv_eq1 c7 i_r1 kc_0
    refine lv_iconst (v := (-1)) hx hb dX9_later_23 (by decide) ?_
    exact h_iret hQ hx hb hr hlocks rfl hK hI ⟨rfl, rfl⟩ dX9_later_24
  · have i9 : iv p1 0 1000 := (fun h9 => iv_isin (z6 h9) kc_0 kc_1000) c7
    have i10 : iv r1 1 1 := iv_neL c7 i_r1 (by decide) (by decide)
    refine lv_aload_n hx hb dX9_later_11 rfl (lv_at hl 0 rfl) ?_
    refine h_geti (lo := (-2147483648)) (hi := 2147483647) hx hb hts iX9_later_X9 hown hK hI g_y (by decide) rfl rfl 64 (by decide) rfl rfl (hts (.fieldLink RX9 532 "CatLeasesModel" "time" "I") (List.mem_of_getElem? (i := 1) rfl)) (fun _ h9 => h9) dX9_later_12 (fun v11 e_v11 i_v11 => ?_)
    refine lv_iload_n hx hb dX9_later_15 rfl (lv_at hl 1 rfl) ?_
    refine lv_iadd hx hb dX9_later_16 ?_
    refine h_nm (lo := (-2147483648)) (hi := 2147483647) (iv_any _) (fun v12 e_v12 i_v12 => ?_)
    refine lv_ldcw (v := 100000) hx hb hown (hts (.constant RX9 512 (100000)) (List.mem_of_getElem? (i := 2) rfl)) dX9_later_17 ?_
    refine lv_icmp_le (tgt := 25) hx hb dX9_later_20 (by decide) (fun c13 => ?_) (fun c13 => ?_)
    · have i14 : iv v12 (-2147483648) 100000 := iv_le1 c13 i_v12 kc_100000 (by decide)
      refine lv_aload_n hx hb dX9_later_25 rfl (lv_at hl 0 rfl) ?_
      refine lv_dup hx hb dX9_later_26 rfl ?_
      refine h_geti (lo := (-2147483648)) (hi := 2147483647) hx hb hts iX9_later_X9 hown hK hI g_y (by decide) rfl rfl 64 (by decide) rfl rfl (hts (.fieldLink RX9 532 "CatLeasesModel" "time" "I") (List.mem_of_getElem? (i := 1) rfl)) (fun _ h9 => h9) dX9_later_27 (fun v15 e_v15 i_v15 => ?_)
      have q16 : v11 = v15 := (e_v11).trans e_v15.symm
      subst q16
      refine lv_iload_n hx hb dX9_later_30 rfl (lv_at hl 1 rfl) ?_
      refine lv_iadd hx hb dX9_later_31 ?_
      refine h_nm (lo := (-2147483648)) (hi := 2147483647) (iv_any _) (fun v17 e_v17 i_v17 => ?_)
      refine h_puti hx hb hts iX9_later_X9 tyX9 tyX9_ok nmX9 hown hK hI g_y (by decide) rfl rfl 64 (by decide) rfl (hts (.fieldLink RX9 532 "CatLeasesModel" "time" "I") (List.mem_of_getElem? (i := 1) rfl)) (fun _ h9 => h9) rfl .int (by decide +kernel) rfl rfl i_v17 rfl dX9_later_32 (fun M18 H locs e_M18 hI => ?_)
      refine lv_aload_n hx hb dX9_later_35 rfl (lv_at hl 0 rfl) ?_
      refine h_geti (lo := (-2147483648)) (hi := 2147483647) hx hb hts iX9_later_X9 hown hK hI g_y (by decide) rfl rfl 64 (by decide) rfl rfl (hts (.fieldLink RX9 532 "CatLeasesModel" "time" "I") (List.mem_of_getElem? (i := 1) rfl)) (fun _ h9 => h9) dX9_later_36 (fun v19 e_v19 i_v19 => ?_)
      have q20 : v17 = v19 := ((u2_wr e_M18)).trans e_v19.symm
      subst q20
      exact h_iret hQ hx hb hr hlocks rfl hK hI ⟨rfl, rfl⟩ dX9_later_39
    · have i21 : iv v12 100001 2147483647 := iv_nle1 c13 i_v12 kc_100000 (by decide)
      refine lv_iconst (v := (-1)) hx hb dX9_later_23 (by decide) ?_
      exact h_iret hQ hx hb hr hlocks rfl hK hI ⟨rfl, rfl⟩ dX9_later_24
abbrev e_h_isRest_X9 : List (Nat × Nat) := []
set_option maxHeartbeats 4000000 in
set_option maxRecDepth 100000 in
theorem h_isRest_X9 (l : Launch) (D : va_G) (g : Nat → ClassId) (σ : Nat → Option Nat) (Z : State → Heap → Prop) (hZ0 : hZ σ Z) (M : hM) (N : hN) (R : hR) (y : Nat) (g_y : σ y = some 9) (p1 : Int32) (h_p1 : iv p1 0 35) : Met l yX9_isRest wsX9_isRest ({ frames := 0, cells := 0, slots := 0, locals := 0 }) (va_Pc [.ref y, .int p1] (hPre D g σ Z M N R)) (hQi D g σ e_h_isRest_X9 M (fun (r : Int32) (M1 : hM) (N1 : hN) (R1 : hR) => M = M1 ∧ N = N1 ∧ R = R1 ∧ iv r 0 1)) 0 0 (hA σ) := by
  refine h_head (cc := cX9_isRest) (maxL := 3) (ret := (some .boolean)) (by decide) rfl (Nat.le_of_ble_eq_true rfl) e_h_isRest_X9 ?_
  intro p e s m below meth c ls Q ar hQ hx hb hr hlocks hml hown hts hK hE H locs hI hl
  have hown : s.vm.findClass RX9 = some m.cls := hown
  have hl : lv_has ls 3 [(0, .ref y), (1, .int p1)] := hl
  refine lv_iconst (v := 0) hx hb dX9_isRest_0 (by decide) ?_
  have J2 : ∀ (n : Nat) (v2_2 : Int32) (H : Heap) (locs : List Loc) (ls : Array Slot), kI D g σ e_h_isRest_X9 M s.heap M N R H locs → lv_has ls 3 [(0, .ref y), (1, .int p1), (2, .int v2_2)] → iv v2_2 0 6 → 7 ≤ v2_2.toInt + (n : Int) → W p l e (headSpec wsX9_isRest ({ frames := 0, cells := 0, slots := 0, locals := 0 })).room s m ar below meth c H locs 0 0 Q (F0 m 2 ls []) := by
    intro n
    induction n with
    | zero => intro v2_2 H locs ls hI hl i_v2_2 hn; exfalso; have hz := i_v2_2; simp only [iv] at hz; omega
    | succ n ih2 =>
      intro v2_2 H locs ls hI hl i_v2_2 hn2
      refine lv_iload_n hx hb dX9_isRest_2 rfl (lv_at hl 2 rfl) ?_
      refine lv_iconst (v := 5) hx hb dX9_isRest_3 (by decide) ?_
      refine lv_icmp_gt (tgt := 66) hx hb dX9_isRest_4 (by decide) (fun c1 => ?_) (fun c1 => ?_)
      · have i2 : iv v2_2 6 6 := iv_lt2 c1 kc_5 i_v2_2 (by decide)
        refine lv_iconst (v := 1) hx hb dX9_isRest_66 (by decide) ?_
        exact h_iret hQ hx hb hr hlocks rfl hK hI ⟨rfl, rfl, rfl, (iv_w (lo' := 0) (hi' := 1) kc_1 (by decide) (by decide))⟩ dX9_isRest_67
      · have i3 : iv v2_2 0 5 := iv_nlt2 c1 kc_5 i_v2_2 (by decide)
        refine lv_aload_n hx hb dX9_isRest_7 rfl (lv_at hl 0 rfl) ?_
        refine h_getr hx hb hts iX9_isRest_X9 hown hK hI g_y (by decide) rfl rfl 56 (by decide) rfl 156 rfl (hts (.fieldLink RX9 118 "CatLeasesModel" "good" "[I") (List.mem_of_getElem? (i := 1) rfl)) (fun _ h9 => h9) dX9_isRest_8 (fun a4 e_a4 g_a4 => ?_)
        refine lv_bipush (v := 6) hx hb dX9_isRest_11 (by decide) ?_
        refine lv_iload_n hx hb dX9_isRest_13 rfl (lv_at hl 2 rfl) ?_
        refine lv_imul hx hb dX9_isRest_14 ?_
        refine h_nm (lo := 0) (hi := 30) (iv_mul kc_6 i3 (by decide) (by decide) (by decide) (by decide) (by decide)) (fun v5 e_v5 i_v5 => ?_)
        refine lv_iload_n hx hb dX9_isRest_15 rfl (lv_at hl 1 rfl) ?_
        refine lv_bipush (v := 6) hx hb dX9_isRest_16 (by decide) ?_
        refine lv_irem hx hb dX9_isRest_18 (by decide) ?_
        refine h_nm (lo := 0) (hi := 5) (iv_rem h_p1 kc_6 (by decide) (by decide) (by decide)) (fun v6 e_v6 i_v6 => ?_)
        refine lv_iadd hx hb dX9_isRest_19 ?_
        refine h_nm (lo := 0) (hi := 35) (iv_add i_v5 i_v6 (by decide) (by decide) (by decide) (by decide)) (fun v7 e_v7 i_v7 => ?_)
        refine h_iald (j := v7.toNatClampNeg) (lo := (-2147483648)) (hi := 2147483647) hx hb hK hI g_a4 (by decide) rfl (iv_in (n := 72) i_v7 (by decide) (by decide)) rfl (iv_any _) dX9_isRest_20 (fun v8 e_v8 i_v8 => ?_)
        refine lv_aload_n hx hb dX9_isRest_21 rfl (lv_at hl 0 rfl) ?_
        refine h_getr hx hb hts iX9_isRest_X9 hown hK hI g_y (by decide) rfl rfl 56 (by decide) rfl 156 rfl (hts (.fieldLink RX9 118 "CatLeasesModel" "good" "[I") (List.mem_of_getElem? (i := 1) rfl)) (fun _ h9 => h9) dX9_isRest_22 (fun a9 e_a9 g_a9 => ?_)
        have q10 : a4 = a9 := (e_a4).trans e_a9.symm
        subst q10
        refine lv_iload_n hx hb dX9_isRest_25 rfl (lv_at hl 1 rfl) ?_
        refine h_iald (j := p1.toNatClampNeg) (lo := (-2147483648)) (hi := 2147483647) hx hb hK hI g_a4 (by decide) rfl (iv_in (n := 72) h_p1 (by decide) (by decide)) rfl (iv_any _) dX9_isRest_26 (fun v11 e_v11 i_v11 => ?_)
        refine lv_icmp_gt (tgt := 58) hx hb dX9_isRest_27 (by decide) (fun c12 => ?_) (fun c12 => ?_)
        · have i13 : iv v11 (-2147483648) 2147483646 := iv_lt1 c12 i_v11 i_v8 (by decide)
          have i14 : iv v8 (-2147483647) 2147483647 := iv_lt2 c12 i_v11 i_v8 (by decide)
          refine lv_iconst (v := 0) hx hb dX9_isRest_58 (by decide) ?_
          exact h_iret hQ hx hb hr hlocks rfl hK hI ⟨rfl, rfl, rfl, (iv_w (lo' := 0) (hi' := 1) kc_0 (by decide) (by decide))⟩ dX9_isRest_59
        · refine lv_aload_n hx hb dX9_isRest_30 rfl (lv_at hl 0 rfl) ?_
          refine h_getr hx hb hts iX9_isRest_X9 hown hK hI g_y (by decide) rfl rfl 56 (by decide) rfl 156 rfl (hts (.fieldLink RX9 118 "CatLeasesModel" "good" "[I") (List.mem_of_getElem? (i := 1) rfl)) (fun _ h9 => h9) dX9_isRest_31 (fun a15 e_a15 g_a15 => ?_)
          have q16 : a4 = a15 := (e_a4).trans e_a15.symm
          subst q16
          refine lv_bipush (v := 36) hx hb dX9_isRest_34 (by decide) ?_
          refine lv_iload_n hx hb dX9_isRest_36 rfl (lv_at hl 1 rfl) ?_
          refine lv_iadd hx hb dX9_isRest_37 ?_
          refine h_nm (lo := 36) (hi := 71) (iv_add kc_36 h_p1 (by decide) (by decide) (by decide) (by decide)) (fun v17 e_v17 i_v17 => ?_)
          refine lv_iload_n hx hb dX9_isRest_38 rfl (lv_at hl 1 rfl) ?_
          refine lv_bipush (v := 6) hx hb dX9_isRest_39 (by decide) ?_
          refine lv_irem hx hb dX9_isRest_41 (by decide) ?_
          refine h_nm (lo := 0) (hi := 5) (iv_rem h_p1 kc_6 (by decide) (by decide) (by decide)) (fun v18 e_v18 i_v18 => ?_)
          refine lv_isub hx hb dX9_isRest_42 ?_
          refine h_nm (lo := 36) (hi := 66) (iv_subrem2 6 e_v18 h_p1 (h_incL e_v17 h_p1 kc_36 (by decide) (by decide)) (by decide) (by decide) (by decide) (hi := 30) (by decide) (by decide) (by decide)) (fun v19 e_v19 i_v19 => ?_)
          refine lv_iload_n hx hb dX9_isRest_43 rfl (lv_at hl 2 rfl) ?_
          refine lv_iadd hx hb dX9_isRest_44 ?_
          refine h_nm (lo := 36) (hi := 71) (iv_add i_v19 i3 (by decide) (by decide) (by decide) (by decide)) (fun v20 e_v20 i_v20 => ?_)
          refine h_iald (j := v20.toNatClampNeg) (lo := (-2147483648)) (hi := 2147483647) hx hb hK hI g_a4 (by decide) rfl (iv_in (n := 72) i_v20 (by decide) (by decide)) rfl (iv_any _) dX9_isRest_45 (fun v21 e_v21 i_v21 => ?_)
          refine lv_aload_n hx hb dX9_isRest_46 rfl (lv_at hl 0 rfl) ?_
          refine h_getr hx hb hts iX9_isRest_X9 hown hK hI g_y (by decide) rfl rfl 56 (by decide) rfl 156 rfl (hts (.fieldLink RX9 118 "CatLeasesModel" "good" "[I") (List.mem_of_getElem? (i := 1) rfl)) (fun _ h9 => h9) dX9_isRest_47 (fun a22 e_a22 g_a22 => ?_)
          have q23 : a4 = a22 := (e_a4).trans e_a22.symm
          subst q23
          refine lv_bipush (v := 36) hx hb dX9_isRest_50 (by decide) ?_
          refine lv_iload_n hx hb dX9_isRest_52 rfl (lv_at hl 1 rfl) ?_
          refine lv_iadd hx hb dX9_isRest_53 ?_
          refine h_nm (lo := 36) (hi := 71) (iv_add kc_36 h_p1 (by decide) (by decide) (by decide) (by decide)) (fun v24 e_v24 i_v24 => ?_)
          refine h_iald (j := v24.toNatClampNeg) (lo := (-2147483648)) (hi := 2147483647) hx hb hK hI g_a4 (by decide) rfl (iv_in (n := 72) i_v24 (by decide) (by decide)) rfl (iv_any _) dX9_isRest_54 (fun v25 e_v25 i_v25 => ?_)
          refine lv_icmp_le (tgt := 60) hx hb dX9_isRest_55 (by decide) (fun c26 => ?_) (fun c26 => ?_)
          · obtain ⟨v27, e_v27⟩ : ∃ z : Int32, z = v2_2 + Int32.ofInt 1 := ⟨_, rfl⟩
            have i_v27 : iv v27 1 6 := by rw [e_v27]; exact iv_add i3 (ki_1) (by decide) (by decide) (by decide) (by decide)
            refine lv_iinc (v := v27) (lv' := [(2, .int v27), (0, .ref y), (1, .int p1)]) hx hb dX9_isRest_60 hl (k := 2) rfl e_v27.symm (by decide) rfl (fun ls hl => ?_)
            refine lv_goto (tgt := 2) hx hb dX9_isRest_63 (by decide) ?_
            exact ih2 v27 H locs ls hI (lv_sub hl [1, 2, 0] rfl) (iv_w (lo' := 0) (hi' := 6) i_v27 (by decide) (by decide)) (by have h9 := (h_inc e_v27 i3 ki_1 (by decide) (by decide)); omega)
          · have i28 : iv v21 (-2147483647) 2147483647 := iv_nle1 c26 i_v21 i_v25 (by decide)
            have i29 : iv v25 (-2147483648) 2147483646 := iv_nle2 c26 i_v21 i_v25 (by decide)
            refine lv_iconst (v := 0) hx hb dX9_isRest_58 (by decide) ?_
            exact h_iret hQ hx hb hr hlocks rfl hK hI ⟨rfl, rfl, rfl, (iv_w (lo' := 0) (hi' := 1) kc_0 (by decide) (by decide))⟩ dX9_isRest_59
  refine lv_istore_n (lv' := [(2, .int (0 : Int32)), (0, .ref y), (1, .int p1)]) hx hb dX9_isRest_1 rfl hl (by decide) rfl (fun ls hl => ?_)
  exact J2 7 (0 : Int32) H locs ls hI (lv_sub hl [1, 2, 0] rfl) (iv_w (lo' := 0) (hi' := 6) kc_0 (by decide) (by decide)) (by have h9 := kc_0; simp only [iv] at h9; omega)
