abbrev e_h_bit0_X9 : List (Nat × Nat) := []
set_option maxHeartbeats 4000000 in
set_option maxRecDepth 100000 in
theorem h_bit0_X9 (l : Launch) (D : va_G) (g : Nat → ClassId) (σ : Nat → Option Nat) (Z : State → Heap → Prop) (hZ0 : hZ σ Z) (M : hM) (N : hN) (R : hR) (p0 : Int32) (p1 : Int32) : Met l yX9_bit wsX9_bit ({ frames := 0, cells := 0, slots := 0, locals := 0 }) (va_Pc [.int p0, .int p1] (hPre D g σ Z M N R)) (hQi D g σ e_h_bit0_X9 M (fun (r : Int32) (M1 : hM) (N1 : hN) (R1 : hR) => M = M1 ∧ N = N1 ∧ R = R1 ∧ iv r 0 1 ∧ (¬ r = 0 → (p0 >>> (p1 &&& 31)) &&& 1 = 1) ∧ (r = 0 → ¬ ((p0 >>> (p1 &&& 31)) &&& 1 = 1)))) 0 0 (hA σ) := by
  refine h_head (cc := cX9_bit) (maxL := 2) (ret := (some .boolean)) (by decide) rfl (Nat.le_of_ble_eq_true rfl) e_h_bit0_X9 ?_
  intro p e s m below meth c ls Q ar hQ hx hb hr hlocks hml hown hts hK hE H locs hI hl
  have hown : s.vm.findClass RX9 = some m.cls := hown
  have hl : lv_has ls 2 [(0, .int p0), (1, .int p1)] := hl
  refine lv_iload_n hx hb dX9_bit_0 rfl (lv_at hl 0 rfl) ?_
  refine lv_iload_n hx hb dX9_bit_1 rfl (lv_at hl 1 rfl) ?_
  refine lv_ishr hx hb dX9_bit_2 ?_
  refine h_nm (lo := (-2147483648)) (hi := 2147483647) (iv_any _) (fun v1 e_v1 i_v1 => ?_)
  refine lv_iconst (v := 1) hx hb dX9_bit_3 (by decide) ?_
  refine lv_iand hx hb dX9_bit_4 ?_
  refine h_nm (lo := 0) (hi := 1) (iv_and 1 (by decide) (by decide) (by decide)) (fun v2 e_v2 i_v2 => ?_)
  refine lv_iconst (v := 1) hx hb dX9_bit_5 (by decide) ?_
  refine lv_icmp_ne (tgt := 13) hx hb dX9_bit_6 (by decide) (fun c3 => ?_) (fun c3 => ?_)
  · have i4 : iv v2 0 0 := iv_neH c3 i_v2 (by decide) (by decide)
    refine lv_iconst (v := 0) hx hb dX9_bit_13 (by decide) ?_
    exact h_iret hQ hx hb hr hlocks rfl hK hI ⟨rfl, rfl, rfl, (iv_w (lo' := 0) (hi' := 1) kc_0 (by decide) (by decide)), (fun h9 => absurd rfl h9), (fun _ => by rw [← e_v1, ← e_v2]; exact c3)⟩ dX9_bit_14
  · have i5 : iv v2 1 1 := iv_eq1 c3 i_v2 kc_1
    refine lv_iconst (v := 1) hx hb dX9_bit_9 (by decide) ?_
    refine lv_goto (tgt := 14) hx hb dX9_bit_10 (by decide) ?_
    exact h_iret hQ hx hb hr hlocks rfl hK hI ⟨rfl, rfl, rfl, (iv_w (lo' := 0) (hi' := 1) kc_1 (by decide) (by decide)), (fun _ => by rw [← e_v1, ← e_v2]; exact c3), (fun h9 => absurd h9 (by decide))⟩ dX9_bit_14
abbrev e_h_isFull_X9 : List (Nat × Nat) := []
set_option maxHeartbeats 4000000 in
set_option maxRecDepth 100000 in
theorem h_isFull_X9 (l : Launch) (D : va_G) (g : Nat → ClassId) (σ : Nat → Option Nat) (Z : State → Heap → Prop) (hZ0 : hZ σ Z) (M : hM) (N : hN) (R : hR) (y : Nat) (g_y : σ y = some 9) : Met l yX9_isFull wsX9_isFull ({ frames := 1, cells := 0, slots := 0, locals := 22 }) (va_Pc [.ref y] (hPre D g σ Z M N R)) (hQi D g σ e_h_isFull_X9 M (fun (r : Int32) (M1 : hM) (N1 : hN) (R1 : hR) => M = M1 ∧ N = N1 ∧ R = R1 ∧ iv r 0 1 ∧ (r = 0 → FN M N R y))) 0 0 (hA σ) := by
  refine h_head (cc := cX9_isFull) (maxL := 1) (ret := (some .boolean)) (by decide) rfl (Nat.le_of_ble_eq_true rfl) e_h_isFull_X9 ?_
  intro p e s m below meth c ls Q ar hQ hx hb hr hlocks hml hown hts hK hE H locs hI hl
  have hown : s.vm.findClass RX9 = some m.cls := hown
  have hl : lv_has ls 1 [(0, .ref y)] := hl
  refine lv_aload_n hx hb dX9_isFull_0 rfl (lv_at hl 0 rfl) ?_
  refine lv_ldc2 (v := 6513012) hx hb hown (hts (.constantLong RX9 158 (6513012)) (List.mem_of_getElem? (i := 1) rfl)) dX9_isFull_1 ?_
  refine h_goi hI (by decide) (va_runV (As := [.long (6513012 : Int64)]) (rest := []) ⟨hx, hb, hml, hown, hts⟩ (h_isWord_X9 l D g σ Z hZ0 M N R y g_y (6513012 : Int64)) (cwV 1 hts gX9_isFull_X9_isWord rfl rfl rfl (by decide +kernel) ⟨Nat.le_of_ble_eq_true rfl, Nat.le_of_ble_eq_true rfl⟩) (h_preV hZ0 hK hE hI g_y (by decide) rfl) rfl rfl hl.1 rfl (lv_room (Nat.le_of_ble_eq_true rfl)) dX9_isFull_4 ⟨Nat.le_of_ble_eq_true rfl, Nat.le_of_ble_eq_true rfl⟩) (fun r1 M2 N3 R4 H locs q5 z_M2 hI => ?_)
  obtain ⟨rfl, rfl, rfl, i_r1, z6, z7⟩ := q5
  refine lv_if_eq (tgt := 30) hx hb dX9_isFull_7 (by decide) (fun c8 => ?_) (fun c8 => ?_)
  · have i9 : iv r1 0 0 := iv_eq1 c8 i_r1 kc_0
    refine lv_aload_n hx hb dX9_isFull_30 rfl (lv_at hl 0 rfl) ?_
    refine lv_ldc2 (v := 1919905645) hx hb hown (hts (.constantLong RX9 164 (1919905645)) (List.mem_of_getElem? (i := 4) rfl)) dX9_isFull_31 ?_
    refine h_goi hI (by decide) (va_runV (As := [.long (1919905645 : Int64)]) (rest := []) ⟨hx, hb, hml, hown, hts⟩ (h_isWord_X9 l D g σ Z hZ0 M N R y g_y (1919905645 : Int64)) (cwV 1 hts gX9_isFull_X9_isWord rfl rfl rfl (by decide +kernel) ⟨Nat.le_of_ble_eq_true rfl, Nat.le_of_ble_eq_true rfl⟩) (h_preV hZ0 hK hE hI g_y (by decide) rfl) rfl rfl hl.1 rfl (lv_room (Nat.le_of_ble_eq_true rfl)) dX9_isFull_34 ⟨Nat.le_of_ble_eq_true rfl, Nat.le_of_ble_eq_true rfl⟩) (fun r10 M11 N12 R13 H locs q14 z_M11 hI => ?_)
    obtain ⟨rfl, rfl, rfl, i_r10, z15, z16⟩ := q14
    refine lv_if_eq (tgt := 60) hx hb dX9_isFull_37 (by decide) (fun c17 => ?_) (fun c17 => ?_)
    · have i18 : iv r10 0 0 := iv_eq1 c17 i_r10 kc_0
      refine lv_aload_n hx hb dX9_isFull_60 rfl (lv_at hl 0 rfl) ?_
      refine lv_ldc2 (v := 127978992397940) hx hb hown (hts (.constantLong RX9 168 (127978992397940)) (List.mem_of_getElem? (i := 6) rfl)) dX9_isFull_61 ?_
      refine h_goi hI (by decide) (va_runV (As := [.long (127978992397940 : Int64)]) (rest := []) ⟨hx, hb, hml, hown, hts⟩ (h_isWord_X9 l D g σ Z hZ0 M N R y g_y (127978992397940 : Int64)) (cwV 1 hts gX9_isFull_X9_isWord rfl rfl rfl (by decide +kernel) ⟨Nat.le_of_ble_eq_true rfl, Nat.le_of_ble_eq_true rfl⟩) (h_preV hZ0 hK hE hI g_y (by decide) rfl) rfl rfl hl.1 rfl (lv_room (Nat.le_of_ble_eq_true rfl)) dX9_isFull_64 ⟨Nat.le_of_ble_eq_true rfl, Nat.le_of_ble_eq_true rfl⟩) (fun r19 M20 N21 R22 H locs q23 z_M20 hI => ?_)
      obtain ⟨rfl, rfl, rfl, i_r19, z24, z25⟩ := q23
      refine lv_if_eq (tgt := 90) hx hb dX9_isFull_67 (by decide) (fun c26 => ?_) (fun c26 => ?_)
      · have i27 : iv r19 0 0 := iv_eq1 c26 i_r19 kc_0
        refine lv_aload_n hx hb dX9_isFull_90 rfl (lv_at hl 0 rfl) ?_
        refine lv_ldc2 (v := 465625113971) hx hb hown (hts (.constantLong RX9 178 (465625113971)) (List.mem_of_getElem? (i := 8) rfl)) dX9_isFull_91 ?_
        refine h_goi hI (by decide) (va_runV (As := [.long (465625113971 : Int64)]) (rest := []) ⟨hx, hb, hml, hown, hts⟩ (h_isWord_X9 l D g σ Z hZ0 M N R y g_y (465625113971 : Int64)) (cwV 1 hts gX9_isFull_X9_isWord rfl rfl rfl (by decide +kernel) ⟨Nat.le_of_ble_eq_true rfl, Nat.le_of_ble_eq_true rfl⟩) (h_preV hZ0 hK hE hI g_y (by decide) rfl) rfl rfl hl.1 rfl (lv_room (Nat.le_of_ble_eq_true rfl)) dX9_isFull_94 ⟨Nat.le_of_ble_eq_true rfl, Nat.le_of_ble_eq_true rfl⟩) (fun r28 M29 N30 R31 H locs q32 z_M29 hI => ?_)
        obtain ⟨rfl, rfl, rfl, i_r28, z33, z34⟩ := q32
        refine lv_if_eq (tgt := 114) hx hb dX9_isFull_97 (by decide) (fun c35 => ?_) (fun c35 => ?_)
        · have i36 : iv r28 0 0 := iv_eq1 c35 i_r28 kc_0
          refine lv_aload_n hx hb dX9_isFull_114 rfl (lv_at hl 0 rfl) ?_
          refine lv_ldc2 (v := 1684628851) hx hb hown (hts (.constantLong RX9 180 (1684628851)) (List.mem_of_getElem? (i := 10) rfl)) dX9_isFull_115 ?_
          refine h_goi hI (by decide) (va_runV (As := [.long (1684628851 : Int64)]) (rest := []) ⟨hx, hb, hml, hown, hts⟩ (h_isWord_X9 l D g σ Z hZ0 M N R y g_y (1684628851 : Int64)) (cwV 1 hts gX9_isFull_X9_isWord rfl rfl rfl (by decide +kernel) ⟨Nat.le_of_ble_eq_true rfl, Nat.le_of_ble_eq_true rfl⟩) (h_preV hZ0 hK hE hI g_y (by decide) rfl) rfl rfl hl.1 rfl (lv_room (Nat.le_of_ble_eq_true rfl)) dX9_isFull_118 ⟨Nat.le_of_ble_eq_true rfl, Nat.le_of_ble_eq_true rfl⟩) (fun r37 M38 N39 R40 H locs q41 z_M38 hI => ?_)
          obtain ⟨rfl, rfl, rfl, i_r37, z42, z43⟩ := q41
          refine lv_if_eq (tgt := 138) hx hb dX9_isFull_121 (by decide) (fun c44 => ?_) (fun c44 => ?_)
          · have i45 : iv r37 0 0 := iv_eq1 c44 i_r37 kc_0
            refine lv_aload_n hx hb dX9_isFull_138 rfl (lv_at hl 0 rfl) ?_
            refine lv_ldc2 (v := 1685217655) hx hb hown (hts (.constantLong RX9 182 (1685217655)) (List.mem_of_getElem? (i := 11) rfl)) dX9_isFull_139 ?_
            refine h_goi hI (by decide) (va_runV (As := [.long (1685217655 : Int64)]) (rest := []) ⟨hx, hb, hml, hown, hts⟩ (h_isWord_X9 l D g σ Z hZ0 M N R y g_y (1685217655 : Int64)) (cwV 1 hts gX9_isFull_X9_isWord rfl rfl rfl (by decide +kernel) ⟨Nat.le_of_ble_eq_true rfl, Nat.le_of_ble_eq_true rfl⟩) (h_preV hZ0 hK hE hI g_y (by decide) rfl) rfl rfl hl.1 rfl (lv_room (Nat.le_of_ble_eq_true rfl)) dX9_isFull_142 ⟨Nat.le_of_ble_eq_true rfl, Nat.le_of_ble_eq_true rfl⟩) (fun r46 M47 N48 R49 H locs q50 z_M47 hI => ?_)
            obtain ⟨rfl, rfl, rfl, i_r46, z51, z52⟩ := q50
            refine lv_if_eq (tgt := 164) hx hb dX9_isFull_145 (by decide) (fun c53 => ?_) (fun c53 => ?_)
            · have i54 : iv r46 0 0 := iv_eq1 c53 i_r46 kc_0
              refine lv_iconst (v := 1) hx hb dX9_isFull_164 (by decide) ?_
              refine lv_goto (tgt := 169) hx hb dX9_isFull_165 (by decide) ?_
              exact h_iret hQ hx hb hr hlocks rfl hK hI ⟨rfl, rfl, rfl, (iv_w (lo' := 0) (hi' := 1) kc_1 (by decide) (by decide)), (fun h9 => absurd h9 (by decide))⟩ dX9_isFull_169
            · obtain ⟨v55, e_v55⟩ : ∃ z : Int32, z = M y 8 := ⟨_, rfl⟩
              have i56 : iv v55 3 3 := by rw [e_v55, (z51 c53).1]; exact kc_3
              have i57 : iv r46 1 1 := iv_neL c53 i_r46 (by decide) (by decide)
              refine lv_aload_n hx hb dX9_isFull_148 rfl (lv_at hl 0 rfl) ?_
              refine h_getr hx hb hts iX9_isFull_X9 hown hK hI g_y (by decide) rfl rfl 17 (by decide) rfl 117 rfl (hts (.fieldLink RX9 39 "CatLeasesModel" "told" "[I") (List.mem_of_getElem? (i := 9) rfl)) (fun _ h9 => h9) dX9_isFull_149 (fun a58 e_a58 g_a58 => ?_)
              refine lv_aload_n hx hb dX9_isFull_152 rfl (lv_at hl 0 rfl) ?_
              refine h_geti (lo := 0) (hi := 1) hx hb hts iX9_isFull_X9 hown hK hI g_y (by decide) rfl rfl 36 (by decide) rfl rfl (hts (.fieldLink RX9 259 "CatLeasesModel" "rb" "I") (List.mem_of_getElem? (i := 3) rfl)) (fun _ h9 => h9) dX9_isFull_153 (fun v59 e_v59 i_v59 => ?_)
              refine h_iald (j := v59.toNatClampNeg) (lo := (-2147483648)) (hi := 2147483647) hx hb hK hI g_a58 (by decide) rfl (iv_in (n := 2) i_v59 (by decide) (by decide)) rfl (iv_any _) dX9_isFull_156 (fun v60 e_v60 i_v60 => ?_)
              refine lv_iconst (v := 2) hx hb dX9_isFull_157 (by decide) ?_
              refine h_goi hI (by decide) (va_runS (As := [.int v60, .int (2 : Int32)]) (rest := []) ⟨hx, hb, hml, hown, hts⟩ (h_bit0_X9 l D g σ Z hZ0 M N R v60 (2 : Int32)) (va_cwS 2 hts gX9_isFull_X9_bit rfl rfl rfl (by decide +kernel) ⟨Nat.le_of_ble_eq_true rfl, Nat.le_of_ble_eq_true rfl⟩) (h_preS hZ0 hK hE hI) rfl rfl hl.1 rfl (lv_room (Nat.le_of_ble_eq_true rfl)) dX9_isFull_158 ⟨Nat.le_of_ble_eq_true rfl, Nat.le_of_ble_eq_true rfl⟩) (fun r61 M62 N63 R64 H locs q65 z_M62 hI => ?_)
              obtain ⟨rfl, rfl, rfl, i_r61, z66, z67⟩ := q65
              refine lv_if_eq (tgt := 168) hx hb dX9_isFull_161 (by decide) (fun c68 => ?_) (fun c68 => ?_)
              · have i69 : iv r61 0 0 := iv_eq1 c68 i_r61 kc_0
                refine lv_iconst (v := 0) hx hb dX9_isFull_168 (by decide) ?_
                exact h_iret hQ hx hb hr hlocks rfl hK hI ⟨rfl, rfl, rfl, (iv_w (lo' := 0) (hi' := 1) kc_0 (by decide) (by decide)), (fun _ => FN_5 (z51 c53) (by decide))⟩ dX9_isFull_169
              · have i70 : iv r61 1 1 := iv_neL c68 i_r61 (by decide) (by decide)
                refine lv_iconst (v := 1) hx hb dX9_isFull_164 (by decide) ?_
                refine lv_goto (tgt := 169) hx hb dX9_isFull_165 (by decide) ?_
                exact h_iret hQ hx hb hr hlocks rfl hK hI ⟨rfl, rfl, rfl, (iv_w (lo' := 0) (hi' := 1) kc_1 (by decide) (by decide)), (fun h9 => absurd h9 (by decide))⟩ dX9_isFull_169
          · obtain ⟨v71, e_v71⟩ : ∃ z : Int32, z = M y 8 := ⟨_, rfl⟩
            have i72 : iv v71 3 3 := by rw [e_v71, (z42 c44).1]; exact kc_3
            have i73 : iv r37 1 1 := iv_neL c44 i_r37 (by decide) (by decide)
            refine lv_aload_n hx hb dX9_isFull_124 rfl (lv_at hl 0 rfl) ?_
            refine h_getr hx hb hts iX9_isFull_X9 hown hK hI g_y (by decide) rfl rfl 17 (by decide) rfl 117 rfl (hts (.fieldLink RX9 39 "CatLeasesModel" "told" "[I") (List.mem_of_getElem? (i := 9) rfl)) (fun _ h9 => h9) dX9_isFull_125 (fun a74 e_a74 g_a74 => ?_)
            refine lv_aload_n hx hb dX9_isFull_128 rfl (lv_at hl 0 rfl) ?_
            refine h_geti (lo := 0) (hi := 1) hx hb hts iX9_isFull_X9 hown hK hI g_y (by decide) rfl rfl 36 (by decide) rfl rfl (hts (.fieldLink RX9 259 "CatLeasesModel" "rb" "I") (List.mem_of_getElem? (i := 3) rfl)) (fun _ h9 => h9) dX9_isFull_129 (fun v75 e_v75 i_v75 => ?_)
            refine h_iald (j := v75.toNatClampNeg) (lo := (-2147483648)) (hi := 2147483647) hx hb hK hI g_a74 (by decide) rfl (iv_in (n := 2) i_v75 (by decide) (by decide)) rfl (iv_any _) dX9_isFull_132 (fun v76 e_v76 i_v76 => ?_)
            refine lv_iconst (v := 1) hx hb dX9_isFull_133 (by decide) ?_
            refine h_goi hI (by decide) (va_runS (As := [.int v76, .int (1 : Int32)]) (rest := []) ⟨hx, hb, hml, hown, hts⟩ (h_bit0_X9 l D g σ Z hZ0 M N R v76 (1 : Int32)) (va_cwS 2 hts gX9_isFull_X9_bit rfl rfl rfl (by decide +kernel) ⟨Nat.le_of_ble_eq_true rfl, Nat.le_of_ble_eq_true rfl⟩) (h_preS hZ0 hK hE hI) rfl rfl hl.1 rfl (lv_room (Nat.le_of_ble_eq_true rfl)) dX9_isFull_134 ⟨Nat.le_of_ble_eq_true rfl, Nat.le_of_ble_eq_true rfl⟩) (fun r77 M78 N79 R80 H locs q81 z_M78 hI => ?_)
            obtain ⟨rfl, rfl, rfl, i_r77, z82, z83⟩ := q81
            exact h_iret hQ hx hb hr hlocks (nar_z i_r77) hK hI ⟨rfl, rfl, rfl, i_r77, (fun _ => FN_5 (z42 c44) (by decide))⟩ dX9_isFull_137
        · obtain ⟨v84, e_v84⟩ : ∃ z : Int32, z = M y 8 := ⟨_, rfl⟩
          have i85 : iv v84 3 3 := by rw [e_v84, (z33 c35).1]; exact kc_3
          have i86 : iv r28 1 1 := iv_neL c35 i_r28 (by decide) (by decide)
          refine lv_aload_n hx hb dX9_isFull_100 rfl (lv_at hl 0 rfl) ?_
          refine h_getr hx hb hts iX9_isFull_X9 hown hK hI g_y (by decide) rfl rfl 17 (by decide) rfl 117 rfl (hts (.fieldLink RX9 39 "CatLeasesModel" "told" "[I") (List.mem_of_getElem? (i := 9) rfl)) (fun _ h9 => h9) dX9_isFull_101 (fun a87 e_a87 g_a87 => ?_)
          refine lv_aload_n hx hb dX9_isFull_104 rfl (lv_at hl 0 rfl) ?_
          refine h_geti (lo := 0) (hi := 1) hx hb hts iX9_isFull_X9 hown hK hI g_y (by decide) rfl rfl 36 (by decide) rfl rfl (hts (.fieldLink RX9 259 "CatLeasesModel" "rb" "I") (List.mem_of_getElem? (i := 3) rfl)) (fun _ h9 => h9) dX9_isFull_105 (fun v88 e_v88 i_v88 => ?_)
          refine h_iald (j := v88.toNatClampNeg) (lo := (-2147483648)) (hi := 2147483647) hx hb hK hI g_a87 (by decide) rfl (iv_in (n := 2) i_v88 (by decide) (by decide)) rfl (iv_any _) dX9_isFull_108 (fun v89 e_v89 i_v89 => ?_)
          refine lv_iconst (v := 0) hx hb dX9_isFull_109 (by decide) ?_
          refine h_goi hI (by decide) (va_runS (As := [.int v89, .int (0 : Int32)]) (rest := []) ⟨hx, hb, hml, hown, hts⟩ (h_bit0_X9 l D g σ Z hZ0 M N R v89 (0 : Int32)) (va_cwS 2 hts gX9_isFull_X9_bit rfl rfl rfl (by decide +kernel) ⟨Nat.le_of_ble_eq_true rfl, Nat.le_of_ble_eq_true rfl⟩) (h_preS hZ0 hK hE hI) rfl rfl hl.1 rfl (lv_room (Nat.le_of_ble_eq_true rfl)) dX9_isFull_110 ⟨Nat.le_of_ble_eq_true rfl, Nat.le_of_ble_eq_true rfl⟩) (fun r90 M91 N92 R93 H locs q94 z_M91 hI => ?_)
          obtain ⟨rfl, rfl, rfl, i_r90, z95, z96⟩ := q94
          exact h_iret hQ hx hb hr hlocks (nar_z i_r90) hK hI ⟨rfl, rfl, rfl, i_r90, (fun h9 => FN_4 (z33 c35) (by rw [← (show v89 = M (R y 17) (rbN M y) by rw [e_v89, e_a87, rbN, ← (show v88 = M y 36 from e_v88)])]; exact z96 h9))⟩ dX9_isFull_113
      · obtain ⟨v97, e_v97⟩ : ∃ z : Int32, z = M y 8 := ⟨_, rfl⟩
        have i98 : iv v97 3 3 := by rw [e_v97, (z24 c26).1]; exact kc_3
        have i99 : iv r19 1 1 := iv_neL c26 i_r19 (by decide) (by decide)
        refine lv_aload_n hx hb dX9_isFull_70 rfl (lv_at hl 0 rfl) ?_
        refine h_getr hx hb hts iX9_isFull_X9 hown hK hI g_y (by decide) rfl rfl 13 (by decide) rfl 113 rfl (hts (.fieldLink RX9 27 "CatLeasesModel" "tenants" "[I") (List.mem_of_getElem? (i := 7) rfl)) (fun _ h9 => h9) dX9_isFull_71 (fun a100 e_a100 g_a100 => ?_)
        refine lv_aload_n hx hb dX9_isFull_74 rfl (lv_at hl 0 rfl) ?_
        refine h_geti (lo := 0) (hi := 1) hx hb hts iX9_isFull_X9 hown hK hI g_y (by decide) rfl rfl 36 (by decide) rfl rfl (hts (.fieldLink RX9 259 "CatLeasesModel" "rb" "I") (List.mem_of_getElem? (i := 3) rfl)) (fun _ h9 => h9) dX9_isFull_75 (fun v101 e_v101 i_v101 => ?_)
        refine h_iald (j := v101.toNatClampNeg) (lo := 0) (hi := 7) hx hb hK hI g_a100 (by decide) rfl (iv_in (n := 2) i_v101 (by decide) (by decide)) rfl (hI.iv1 (n := 2) g_a100 rfl (in_lt (iv_in (n := 2) i_v101 (by decide) (by decide))) rfl) dX9_isFull_78 (fun v102 e_v102 i_v102 => ?_)
        refine lv_bipush (v := 7) hx hb dX9_isFull_79 (by decide) ?_
        refine lv_icmp_ne (tgt := 88) hx hb dX9_isFull_81 (by decide) (fun c103 => ?_) (fun c103 => ?_)
        · have i104 : iv v102 0 6 := iv_neH c103 i_v102 (by decide) (by decide)
          refine lv_iconst (v := 0) hx hb dX9_isFull_88 (by decide) ?_
          exact h_iret hQ hx hb hr hlocks rfl hK hI ⟨rfl, rfl, rfl, (iv_w (lo' := 0) (hi' := 1) kc_0 (by decide) (by decide)), (fun _ => FN_3 (z24 c26) (by rw [← (show v102 = M (R y 13) (rbN M y) by rw [e_v102, e_a100, rbN, ← (show v101 = M y 36 from e_v101)])]; have h9 := i104; simp only [iv] at h9; omega))⟩ dX9_isFull_89
        · have i105 : iv v102 7 7 := iv_eq1 c103 i_v102 kc_7
          refine lv_iconst (v := 1) hx hb dX9_isFull_84 (by decide) ?_
          refine lv_goto (tgt := 89) hx hb dX9_isFull_85 (by decide) ?_
          exact h_iret hQ hx hb hr hlocks rfl hK hI ⟨rfl, rfl, rfl, (iv_w (lo' := 0) (hi' := 1) kc_1 (by decide) (by decide)), (fun h9 => absurd h9 (by decide))⟩ dX9_isFull_89
    · obtain ⟨v106, e_v106⟩ : ∃ z : Int32, z = M y 8 := ⟨_, rfl⟩
      have i107 : iv v106 3 3 := by rw [e_v106, (z15 c17).1]; exact kc_3
      have i108 : iv r10 1 1 := iv_neL c17 i_r10 (by decide) (by decide)
      refine lv_aload_n hx hb dX9_isFull_40 rfl (lv_at hl 0 rfl) ?_
      refine h_getr hx hb hts iX9_isFull_X9 hown hK hI g_y (by decide) rfl rfl 12 (by decide) rfl 112 rfl (hts (.fieldLink RX9 24 "CatLeasesModel" "rooms" "[I") (List.mem_of_getElem? (i := 5) rfl)) (fun _ h9 => h9) dX9_isFull_41 (fun a109 e_a109 g_a109 => ?_)
      refine lv_aload_n hx hb dX9_isFull_44 rfl (lv_at hl 0 rfl) ?_
      refine h_geti (lo := 0) (hi := 1) hx hb hts iX9_isFull_X9 hown hK hI g_y (by decide) rfl rfl 36 (by decide) rfl rfl (hts (.fieldLink RX9 259 "CatLeasesModel" "rb" "I") (List.mem_of_getElem? (i := 3) rfl)) (fun _ h9 => h9) dX9_isFull_45 (fun v110 e_v110 i_v110 => ?_)
      refine h_iald (j := v110.toNatClampNeg) (lo := 0) (hi := 8) hx hb hK hI g_a109 (by decide) rfl (iv_in (n := 2) i_v110 (by decide) (by decide)) rfl (hI.iv1 (n := 2) g_a109 rfl (in_lt (iv_in (n := 2) i_v110 (by decide) (by decide))) rfl) dX9_isFull_48 (fun v111 e_v111 i_v111 => ?_)
      refine lv_bipush (v := 8) hx hb dX9_isFull_49 (by decide) ?_
      refine lv_icmp_ne (tgt := 58) hx hb dX9_isFull_51 (by decide) (fun c112 => ?_) (fun c112 => ?_)
      · have i113 : iv v111 0 7 := iv_neH c112 i_v111 (by decide) (by decide)
        refine lv_iconst (v := 0) hx hb dX9_isFull_58 (by decide) ?_
        exact h_iret hQ hx hb hr hlocks rfl hK hI ⟨rfl, rfl, rfl, (iv_w (lo' := 0) (hi' := 1) kc_0 (by decide) (by decide)), (fun _ => FN_2 (z15 c17) (by rw [← (show v111 = M (R y 12) (rbN M y) by rw [e_v111, e_a109, rbN, ← (show v110 = M y 36 from e_v110)])]; have h9 := i113; simp only [iv] at h9; omega))⟩ dX9_isFull_59
      · have i114 : iv v111 8 8 := iv_eq1 c112 i_v111 kc_8
        refine lv_iconst (v := 1) hx hb dX9_isFull_54 (by decide) ?_
        refine lv_goto (tgt := 59) hx hb dX9_isFull_55 (by decide) ?_
        exact h_iret hQ hx hb hr hlocks rfl hK hI ⟨rfl, rfl, rfl, (iv_w (lo' := 0) (hi' := 1) kc_1 (by decide) (by decide)), (fun h9 => absurd h9 (by decide))⟩ dX9_isFull_59
  · obtain ⟨v115, e_v115⟩ : ∃ z : Int32, z = M y 8 := ⟨_, rfl⟩
    have i116 : iv v115 3 3 := by rw [e_v115, (z6 c8).1]; exact kc_3
    have i117 : iv r1 1 1 := iv_neL c8 i_r1 (by decide) (by decide)
    refine lv_aload_n hx hb dX9_isFull_10 rfl (lv_at hl 0 rfl) ?_
    refine h_getr hx hb hts iX9_isFull_X9 hown hK hI g_y (by decide) rfl rfl 11 (by decide) rfl 111 rfl (hts (.fieldLink RX9 20 "CatLeasesModel" "cats" "[I") (List.mem_of_getElem? (i := 2) rfl)) (fun _ h9 => h9) dX9_isFull_11 (fun a118 e_a118 g_a118 => ?_)
    refine lv_aload_n hx hb dX9_isFull_14 rfl (lv_at hl 0 rfl) ?_
    refine h_geti (lo := 0) (hi := 1) hx hb hts iX9_isFull_X9 hown hK hI g_y (by decide) rfl rfl 36 (by decide) rfl rfl (hts (.fieldLink RX9 259 "CatLeasesModel" "rb" "I") (List.mem_of_getElem? (i := 3) rfl)) (fun _ h9 => h9) dX9_isFull_15 (fun v119 e_v119 i_v119 => ?_)
    refine h_iald (j := v119.toNatClampNeg) (lo := 0) (hi := 6) hx hb hK hI g_a118 (by decide) rfl (iv_in (n := 2) i_v119 (by decide) (by decide)) rfl (hI.iv1 (n := 2) g_a118 rfl (in_lt (iv_in (n := 2) i_v119 (by decide) (by decide))) rfl) dX9_isFull_18 (fun v120 e_v120 i_v120 => ?_)
    refine lv_bipush (v := 6) hx hb dX9_isFull_19 (by decide) ?_
    refine lv_icmp_ne (tgt := 28) hx hb dX9_isFull_21 (by decide) (fun c121 => ?_) (fun c121 => ?_)
    · have i122 : iv v120 0 5 := iv_neH c121 i_v120 (by decide) (by decide)
      refine lv_iconst (v := 0) hx hb dX9_isFull_28 (by decide) ?_
      exact h_iret hQ hx hb hr hlocks rfl hK hI ⟨rfl, rfl, rfl, (iv_w (lo' := 0) (hi' := 1) kc_0 (by decide) (by decide)), (fun _ => FN_1 (z6 c8) (by rw [← (show v120 = M (R y 11) (rbN M y) by rw [e_v120, e_a118, rbN, ← (show v119 = M y 36 from e_v119)])]; have h9 := i122; simp only [iv] at h9; omega))⟩ dX9_isFull_29
    · have i123 : iv v120 6 6 := iv_eq1 c121 i_v120 kc_6
      refine lv_iconst (v := 1) hx hb dX9_isFull_24 (by decide) ?_
      refine lv_goto (tgt := 29) hx hb dX9_isFull_25 (by decide) ?_
      exact h_iret hQ hx hb hr hlocks rfl hK hI ⟨rfl, rfl, rfl, (iv_w (lo' := 0) (hi' := 1) kc_1 (by decide) (by decide)), (fun h9 => absurd h9 (by decide))⟩ dX9_isFull_29
