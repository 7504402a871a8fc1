abbrev e_h_readLine_X9 : List (Nat × Nat) := [(9, 4), (9, 5), (9, 6), (9, 7), (9, 8), (9, 9), (9, 37), (9, 38), (9, 39), (9, 40), (111, 999), (112, 999), (113, 999), (114, 999), (115, 999), (116, 999), (117, 999), (118, 999), (119, 999), (120, 999), (121, 999), (122, 999), (123, 999), (124, 999), (125, 999), (126, 999), (130, 999), (131, 999), (132, 999), (133, 999)]
set_option maxHeartbeats 4000000 in
set_option maxRecDepth 100000 in
theorem h_readLine_X9 (l : Launch) (D : va_G) (g : Nat → ClassId) (σ : Nat → Option Nat) (Z : State → Heap → Prop) (hZ0 : hZ σ Z) (M : hM) (N : hN) (R : hR) (y : Nat) (g_y : σ y = some 9) (m0_PI : PI M y) (m0_PH : PH M R y) (m0_RB : RB M y) (hg9 : M y 4 = 0) : Met l yX9_readLine wsX9_readLine ({ frames := 6, cells := 0, slots := 0, locals := 137 }) (va_Pc [.ref y] (hPre D g σ Z M N R)) (hQv D g σ e_h_readLine_X9 M (fun (M1 : hM) (N1 : hN) (R1 : hR) => R = R1 ∧ (PI M1 y) ∧ (PN M M1 y) ∧ (PBx M M1 R y) ∧ (PH M1 R y) ∧ (gn M1 y < gn M y))) 0 0 (hA σ) := by
  refine h_head (cc := cX9_readLine) (maxL := 3) (ret := none) (by decide) rfl (Nat.le_of_ble_eq_true rfl) e_h_readLine_X9 ?_
  intro p e s m below meth c ls Q ar hQ hx hb hr hlocks hml hown hts hK hE H locs hI hl
  have hown : s.vm.findClass RX9 = some m.cls := hown
  have hl : lv_has ls 3 [(0, .ref y)] := hl
  obtain ⟨v1, e_v1⟩ : ∃ z : Int32, z = M y 36 := ⟨_, rfl⟩
  have i_v1 : iv v1 0 1 := by rw [e_v1]; exact hI.iv1 (n := 67) g_y rfl (by decide) rfl
  have nb9 : v1.toNatClampNeg ≠ bk M y := rb_ne2 m0_RB e_v1 (hI.iv1 (a := y) (j := 35) (lo := 0) (hi := 1) (n := 67) g_y rfl (by decide) rfl)
  refine lv_aload_n hx hb dX9_readLine_0 rfl (lv_at hl 0 rfl) ?_
  refine h_getl hx hb hts iX9_readLine_X9 hown hK hI g_y (by decide) rfl rfl 10 (by decide) rfl  (hts (.fieldLink RX9 213 "CatLeasesModel" "name" "J") (List.mem_of_getElem? (i := 1) rfl)) (fun _ h9 => h9) dX9_readLine_1 (fun w2 e_w2 => ?_)
  refine lv_lstore_n (lv' := [(1, .long w2), (0, .ref y)]) hx hb dX9_readLine_4 rfl hl (by decide) rfl (fun ls hl => ?_)
  refine lv_aload_n hx hb dX9_readLine_5 rfl (lv_at hl 1 rfl) ?_
  refine h_geti (lo := (-2147483648)) (hi := 2147483647) hx hb hts iX9_readLine_X9 hown hK hI g_y (by decide) rfl rfl 8 (by decide) rfl rfl (hts (.fieldLink RX9 206 "CatLeasesModel" "token" "I") (List.mem_of_getElem? (i := 2) rfl)) (fun _ h9 => h9) dX9_readLine_6 (fun v3 e_v3 i_v3 => ?_)
  refine lv_iconst (v := 3) hx hb dX9_readLine_9 (by decide) ?_
  refine lv_icmp_ne (tgt := 20) hx hb dX9_readLine_10 (by decide) (fun c4 => ?_) (fun c4 => ?_)
  · refine lv_aload_n hx hb dX9_readLine_20 rfl (lv_at hl 1 rfl) ?_
    refine h_gov hI (by decide) (va_runV (As := []) (rest := []) ⟨hx, hb, hml, hown, hts⟩ (h_misplaced_X9 l D g σ Z hZ0 M N R y g_y m0_PI) (cwV 0 hts gX9_readLine_X9_misplaced rfl rfl rfl (by decide +kernel) ⟨Nat.le_of_ble_eq_true rfl, Nat.le_of_ble_eq_true rfl⟩) (h_preV hZ0 hK hE hI g_y (by decide) rfl) rfl rfl hl.1 rfl (lv_room (Nat.le_of_ble_eq_true rfl)) dX9_readLine_21 ⟨Nat.le_of_ble_eq_true rfl, Nat.le_of_ble_eq_true rfl⟩) (fun M6 N7 R8 H locs q9 z_M6 hI => ?_)
    obtain ⟨rfl, rfl, m10, m11, z12⟩ := q9
    obtain ⟨v13, e_v13⟩ : ∃ z : Int32, z = M6 y 4 := ⟨_, rfl⟩
    have i_v13 : iv v13 1 5 := by rw [e_v13]; exact z12
    refine lv_aload_n hx hb dX9_readLine_24 rfl (lv_at hl 1 rfl) ?_
    refine h_goi hI (by decide) (va_runV (As := []) (rest := []) ⟨hx, hb, hml, hown, hts⟩ (h_isGood_X9 l D g σ Z hZ0 M6 N R y g_y) (cwV 0 hts gX9_readLine_X9_isGood rfl rfl rfl (by decide +kernel) ⟨Nat.le_of_ble_eq_true rfl, Nat.le_of_ble_eq_true rfl⟩) (h_preV hZ0 hK hE hI g_y (by decide) rfl) rfl rfl hl.1 rfl (lv_room (Nat.le_of_ble_eq_true rfl)) dX9_readLine_25 ⟨Nat.le_of_ble_eq_true rfl, Nat.le_of_ble_eq_true rfl⟩) (fun r14 M15 N16 R17 H locs q18 z_M15 hI => ?_)
    obtain ⟨rfl, rfl, rfl, i_r14, z19, z20⟩ := q18
    refine lv_if_ne (tgt := 32) hx hb dX9_readLine_28 (by decide) (fun c21 => ?_) (fun c21 => ?_)
    · exact absurd ((e_v13).trans (z19 c21)) (iv_ne i_v13 kc_0 (by decide))
    · have i22 : iv r14 0 0 := iv_eq1 c21 i_r14 kc_0
      have m23 : PN M M6 y := (PN_tr PN_rf m11)
      have m24 : PBx M M6 R y := (PBx_ag hI.2.1 g_y PBx_rf (hAd.ag z_M6 (by decide)))
      have m25 : PH M6 R y := (PH_call9 hI.2.1 g_y m11 z_M6 (by decide) m0_PH)
      exact h_vret hQ hx hb hr hlocks hK hI ⟨rfl, m10, m23, m24, m25, (gn_lt hg9 m0_PI (fun h9 => gd_no (e_v13) i_v13 h9))⟩ dX9_readLine_31
  · have i26 : iv v3 3 3 := iv_eq1 c4 i_v3 kc_3
    refine lv_aload_n hx hb dX9_readLine_13 rfl (lv_at hl 1 rfl) ?_
    refine h_goi hI (by decide) (va_runV (As := []) (rest := []) ⟨hx, hb, hml, hown, hts⟩ (h_isFull_X9 l D g σ Z hZ0 M N R y g_y) (cwV 0 hts gX9_readLine_X9_isFull rfl rfl rfl (by decide +kernel) ⟨Nat.le_of_ble_eq_true rfl, Nat.le_of_ble_eq_true rfl⟩) (h_preV hZ0 hK hE hI g_y (by decide) rfl) rfl rfl hl.1 rfl (lv_room (Nat.le_of_ble_eq_true rfl)) dX9_readLine_14 ⟨Nat.le_of_ble_eq_true rfl, Nat.le_of_ble_eq_true rfl⟩) (fun r27 M28 N29 R30 H locs q31 z_M28 hI => ?_)
    obtain ⟨rfl, rfl, rfl, i_r27, z32⟩ := q31
    refine lv_if_eq (tgt := 24) hx hb dX9_readLine_17 (by decide) (fun c33 => ?_) (fun c33 => ?_)
    · have i34 : iv r27 0 0 := iv_eq1 c33 i_r27 kc_0
      refine lv_aload_n hx hb dX9_readLine_24 rfl (lv_at hl 1 rfl) ?_
      refine h_goi hI (by decide) (va_runV (As := []) (rest := []) ⟨hx, hb, hml, hown, hts⟩ (h_isGood_X9 l D g σ Z hZ0 M N R y g_y) (cwV 0 hts gX9_readLine_X9_isGood rfl rfl rfl (by decide +kernel) ⟨Nat.le_of_ble_eq_true rfl, Nat.le_of_ble_eq_true rfl⟩) (h_preV hZ0 hK hE hI g_y (by decide) rfl) rfl rfl hl.1 rfl (lv_room (Nat.le_of_ble_eq_true rfl)) dX9_readLine_25 ⟨Nat.le_of_ble_eq_true rfl, Nat.le_of_ble_eq_true rfl⟩) (fun r35 M36 N37 R38 H locs q39 z_M36 hI => ?_)
      obtain ⟨rfl, rfl, rfl, i_r35, z40, z41⟩ := q39
      refine lv_if_ne (tgt := 32) hx hb dX9_readLine_28 (by decide) (fun c42 => ?_) (fun c42 => ?_)
      · obtain ⟨v43, e_v43⟩ : ∃ z : Int32, z = M y 4 := ⟨_, rfl⟩
        have i_v43 : iv v43 0 5 := by rw [e_v43]; exact hI.iv1 (n := 67) g_y rfl (by decide) rfl
        have i44 : iv v43 0 0 := by rw [e_v43, z40 c42]; exact kc_0
        have i45 : iv r35 1 1 := iv_neL c42 i_r35 (by decide) (by decide)
        refine lv_aload_n hx hb dX9_readLine_32 rfl (lv_at hl 1 rfl) ?_
        have fn9 := (z32 c33) (e_v3.symm.trans c4)
        refine h_gov hI (by decide) (va_runV (As := []) (rest := []) ⟨hx, hb, hml, hown, hts⟩ (h_goOn_X9 l D g σ Z hZ0 M N R y g_y m0_PI) (cwV 0 hts gX9_readLine_X9_goOn rfl rfl rfl (by decide +kernel) ⟨Nat.le_of_ble_eq_true rfl, Nat.le_of_ble_eq_true rfl⟩) (h_preV hZ0 hK hE hI g_y (by decide) rfl) rfl rfl hl.1 rfl (lv_room (Nat.le_of_ble_eq_true rfl)) dX9_readLine_33 ⟨Nat.le_of_ble_eq_true rfl, Nat.le_of_ble_eq_true rfl⟩) (fun M47 N48 R49 H locs q50 z_M47 hI => ?_)
        obtain ⟨rfl, z51, z52, z53⟩ := q50
        have ng9 : nu M47 y < nu M y := GO_lt z53 (z_M47 y 9 3 g_y rfl) m0_PI (fun h9 => iv_ne i26 kc_0 (by decide) ((e_v3).trans h9))
        refine lv_lload_n hx hb dX9_readLine_36 rfl (lv_at hl 0 rfl) ?_
        refine lv_ldc2 (v := 6513012) hx hb hown (hts (.constantLong RX9 158 (6513012)) (List.mem_of_getElem? (i := 3) rfl)) dX9_readLine_37 ?_
        refine W.lcmp hx hb dX9_readLine_40 ?_
        refine h_nm (iv_any _) (fun v54 e_v54 i_v54 => ?_)
        have J48 : ∀ (M_48 : hM) (N_48 : hN) (H : Heap) (locs : List Loc) (ls : Array Slot), kI D g σ e_h_readLine_X9 M s.heap M_48 N_48 R H locs → lv_has ls 3 [(0, .ref y), (1, .long w2)] → v1 = M_48 y 36 → PI M_48 y → PN M M_48 y → PBx M M_48 R y → PH M_48 R y → RB M_48 y → NF 12 w2 1919905645 8 M_48 R y → NF 13 w2 127978992397940 7 M_48 R y → NL w2 M_48 R y → nu M_48 y < nu M y → W p l e (headSpec wsX9_readLine ({ frames := 6, cells := 0, slots := 0, locals := 137 })).room s m ar below meth c H locs 0 0 Q (F0 m 48 ls []) := by
          intro M_48 N_48 H locs ls hI hl k0_48 m_PI_48 m_PN_48 m_PB_48 m_PH_48 m_RB_48 m_NFr_48 m_NFt_48 m_NL_48 m_NG_48
          refine lv_lload_n hx hb dX9_readLine_48 rfl (lv_at hl 1 rfl) ?_
          refine lv_ldc2 (v := 1919905645) hx hb hown (hts (.constantLong RX9 164 (1919905645)) (List.mem_of_getElem? (i := 4) rfl)) dX9_readLine_49 ?_
          refine W.lcmp hx hb dX9_readLine_52 ?_
          refine h_nm (iv_any _) (fun v55 e_v55 i_v55 => ?_)
          have J60 : ∀ (M_60 : hM) (N_60 : hN) (H : Heap) (locs : List Loc) (ls : Array Slot), kI D g σ e_h_readLine_X9 M s.heap M_60 N_60 R H locs → lv_has ls 3 [(0, .ref y), (1, .long w2)] → v1 = M_60 y 36 → PI M_60 y → PN M M_60 y → PBx M M_60 R y → PH M_60 R y → RB M_60 y → NF 13 w2 127978992397940 7 M_60 R y → NL w2 M_60 R y → nu M_60 y < nu M y → W p l e (headSpec wsX9_readLine ({ frames := 6, cells := 0, slots := 0, locals := 137 })).room s m ar below meth c H locs 0 0 Q (F0 m 60 ls []) := by
            intro M_60 N_60 H locs ls hI hl k0_60 m_PI_60 m_PN_60 m_PB_60 m_PH_60 m_RB_60 m_NFt_60 m_NL_60 m_NG_60
            refine lv_lload_n hx hb dX9_readLine_60 rfl (lv_at hl 1 rfl) ?_
            refine lv_ldc2 (v := 127978992397940) hx hb hown (hts (.constantLong RX9 168 (127978992397940)) (List.mem_of_getElem? (i := 5) rfl)) dX9_readLine_61 ?_
            refine W.lcmp hx hb dX9_readLine_64 ?_
            refine h_nm (iv_any _) (fun v56 e_v56 i_v56 => ?_)
            have J72 : ∀ (M_72 : hM) (N_72 : hN) (H : Heap) (locs : List Loc) (ls : Array Slot), kI D g σ e_h_readLine_X9 M s.heap M_72 N_72 R H locs → lv_has ls 3 [(0, .ref y), (1, .long w2)] → v1 = M_72 y 36 → PI M_72 y → PN M M_72 y → PBx M M_72 R y → PH M_72 R y → RB M_72 y → NL w2 M_72 R y → nu M_72 y < nu M y → W p l e (headSpec wsX9_readLine ({ frames := 6, cells := 0, slots := 0, locals := 137 })).room s m ar below meth c H locs 0 0 Q (F0 m 72 ls []) := by
              intro M_72 N_72 H locs ls hI hl k0_72 m_PI_72 m_PN_72 m_PB_72 m_PH_72 m_RB_72 m_NL_72 m_NG_72
              refine lv_lload_n hx hb dX9_readLine_72 rfl (lv_at hl 1 rfl) ?_
              refine lv_ldc2 (v := 465625113971) hx hb hown (hts (.constantLong RX9 178 (465625113971)) (List.mem_of_getElem? (i := 6) rfl)) dX9_readLine_73 ?_
              refine W.lcmp hx hb dX9_readLine_76 ?_
              refine h_nm (iv_any _) (fun v57 e_v57 i_v57 => ?_)
              have J84 : ∀ (M_84 : hM) (N_84 : hN) (H : Heap) (locs : List Loc) (ls : Array Slot), kI D g σ e_h_readLine_X9 M s.heap M_84 N_84 R H locs → lv_has ls 3 [(0, .ref y), (1, .long w2)] → v1 = M_84 y 36 → PI M_84 y → PN M M_84 y → PBx M M_84 R y → PH M_84 R y → RB M_84 y → nu M_84 y < nu M y → W p l e (headSpec wsX9_readLine ({ frames := 6, cells := 0, slots := 0, locals := 137 })).room s m ar below meth c H locs 0 0 Q (F0 m 84 ls []) := by
                intro M_84 N_84 H locs ls hI hl k0_84 m_PI_84 m_PN_84 m_PB_84 m_PH_84 m_RB_84 m_NG_84
                refine lv_lload_n hx hb dX9_readLine_84 rfl (lv_at hl 1 rfl) ?_
                refine lv_ldc2 (v := 1684628851) hx hb hown (hts (.constantLong RX9 180 (1684628851)) (List.mem_of_getElem? (i := 7) rfl)) dX9_readLine_85 ?_
                refine W.lcmp hx hb dX9_readLine_88 ?_
                refine h_nm (iv_any _) (fun v58 e_v58 i_v58 => ?_)
                have J121 : ∀ (M_121 : hM) (N_121 : hN) (H : Heap) (locs : List Loc) (ls : Array Slot), kI D g σ e_h_readLine_X9 M s.heap M_121 N_121 R H locs → lv_has ls 3 [(0, .ref y), (1, .long w2)] → v1 = M_121 y 36 → PI M_121 y → PN M M_121 y → PBx M M_121 R y → PH M_121 R y → RB M_121 y → nu M_121 y < nu M y → W p l e (headSpec wsX9_readLine ({ frames := 6, cells := 0, slots := 0, locals := 137 })).room s m ar below meth c H locs 0 0 Q (F0 m 121 ls []) := by
                  intro M_121 N_121 H locs ls hI hl k0_121 m_PI_121 m_PN_121 m_PB_121 m_PH_121 m_RB_121 m_NG_121
                  refine lv_lload_n hx hb dX9_readLine_121 rfl (lv_at hl 1 rfl) ?_
                  refine lv_ldc2 (v := 1685217655) hx hb hown (hts (.constantLong RX9 182 (1685217655)) (List.mem_of_getElem? (i := 11) rfl)) dX9_readLine_122 ?_
                  refine W.lcmp hx hb dX9_readLine_125 ?_
                  refine h_nm (iv_any _) (fun v59 e_v59 i_v59 => ?_)
                  have J159 : ∀ (M_159 : hM) (N_159 : hN) (H : Heap) (locs : List Loc) (ls : Array Slot), kI D g σ e_h_readLine_X9 M s.heap M_159 N_159 R H locs → lv_has ls 3 [(0, .ref y)] → v1 = M_159 y 36 → PI M_159 y → PN M M_159 y → PBx M M_159 R y → PH M_159 R y → RB M_159 y → nu M_159 y < nu M y → W p l e (headSpec wsX9_readLine ({ frames := 6, cells := 0, slots := 0, locals := 137 })).room s m ar below meth c H locs 0 0 Q (F0 m 159 ls []) := by
                    intro M_159 N_159 H locs ls hI hl k0_159 m_PI_159 m_PN_159 m_PB_159 m_PH_159 m_RB_159 m_NG_159
                    refine lv_aload_n hx hb dX9_readLine_159 rfl (lv_at hl 0 rfl) ?_
                    refine lv_aload_n hx hb dX9_readLine_160 rfl (lv_at hl 0 rfl) ?_
                    refine lv_bipush (v := 59) hx hb dX9_readLine_161 (by decide) ?_
                    refine h_goi hI (by decide) (va_runV (As := [.int (59 : Int32)]) (rest := [.ref y]) ⟨hx, hb, hml, hown, hts⟩ (h_isSignHere_X9 l D g σ Z hZ0 M_159 N_159 R y g_y (59 : Int32)) (cwV 1 hts gX9_readLine_X9_isSignHere rfl rfl rfl (by decide +kernel) ⟨Nat.le_of_ble_eq_true rfl, Nat.le_of_ble_eq_true rfl⟩) (h_preV hZ0 hK hE hI g_y (by decide) rfl) rfl rfl hl.1 rfl (lv_room (Nat.le_of_ble_eq_true rfl)) dX9_readLine_163 ⟨Nat.le_of_ble_eq_true rfl, Nat.le_of_ble_eq_true rfl⟩) (fun r60 M61 N62 R63 H locs q64 z_M61 hI => ?_)
                    obtain ⟨rfl, rfl, rfl, i_r60, z65, z66⟩ := q64
                    refine h_gov hI (by decide) (va_runV (As := [.int r60]) (rest := []) ⟨hx, hb, hml, hown, hts⟩ (h_must_X9 l D g σ Z hZ0 M_159 N_159 R y g_y r60 i_r60 m_PI_159) (cwV 1 hts gX9_readLine_X9_must rfl rfl rfl (by decide +kernel) ⟨Nat.le_of_ble_eq_true rfl, Nat.le_of_ble_eq_true rfl⟩) (h_preV hZ0 hK hE hI g_y (by decide) rfl) rfl rfl hl.1 rfl (lv_room (Nat.le_of_ble_eq_true rfl)) dX9_readLine_166 ⟨Nat.le_of_ble_eq_true rfl, Nat.le_of_ble_eq_true rfl⟩) (fun M68 N69 R70 H locs q71 z_M68 hI => ?_)
                    obtain ⟨rfl, m72, m73⟩ := q71
                    have m74 : PN M M68 y := (PN_tr m_PN_159 m73)
                    have m75 : PBx M M68 R y := (PBx_ag hI.2.1 g_y m_PB_159 (hAd.ag z_M68 (by decide)))
                    have m76 : PH M68 R y := (PH_call9 hI.2.1 g_y m73 z_M68 (by decide) m_PH_159)
                    have m77 : nu M68 y < nu M y := (NG_tr m_NG_159 m73)
                    exact h_vret hQ hx hb hr hlocks hK hI ⟨rfl, m72, m74, m75, m76, (gn_lt hg9 m0_PI (fun _ => m77))⟩ dX9_readLine_169
                  refine lv_if_ne (tgt := 159) hx hb dX9_readLine_126 (by decide) (fun c78 => ?_) (fun c78 => ?_)
                  · exact J159 M_121 N_121 H locs ls hI (lv_sub hl [0] rfl) (k0_121) m_PI_121 m_PN_121 m_PB_121 m_PH_121 m_RB_121 m_NG_121
                  · have i79 : iv v59 0 0 := iv_eq1 c78 (iv_any v59) kc_0
                    refine lv_aload_n hx hb dX9_readLine_129 rfl (lv_at hl 0 rfl) ?_
                    refine h_getr hx hb hts iX9_readLine_X9 hown hK hI g_y (by decide) rfl rfl 17 (by decide) rfl 117 rfl (hts (.fieldLink RX9 39 "CatLeasesModel" "told" "[I") (List.mem_of_getElem? (i := 8) rfl)) (fun _ h9 => h9) dX9_readLine_130 (fun a80 e_a80 g_a80 => ?_)
                    refine lv_aload_n hx hb dX9_readLine_133 rfl (lv_at hl 0 rfl) ?_
                    refine h_geti (lo := 0) (hi := 1) hx hb hts iX9_readLine_X9 hown hK hI g_y (by decide) rfl rfl 36 (by decide) rfl rfl (hts (.fieldLink RX9 259 "CatLeasesModel" "rb" "I") (List.mem_of_getElem? (i := 9) rfl)) (fun _ h9 => h9) dX9_readLine_134 (fun v81 e_v81 i_v81 => ?_)
                    have q82 : v1 = v81 := (k0_121).trans e_v81.symm
                    subst q82
                    refine lv_dup2_11 hx hb dX9_readLine_137 rfl rfl ?_
                    refine h_iald (j := v1.toNatClampNeg) (lo := (-2147483648)) (hi := 2147483647) hx hb hK hI g_a80 (by decide) rfl (iv_in (n := 2) i_v1 (by decide) (by decide)) rfl (iv_any _) dX9_readLine_138 (fun v83 e_v83 i_v83 => ?_)
                    refine lv_iconst (v := 4) hx hb dX9_readLine_139 (by decide) ?_
                    refine lv_ior hx hb dX9_readLine_140 ?_
                    refine h_nm (lo := (-2147483648)) (hi := 2147483647) (iv_any _) (fun v84 e_v84 i_v84 => ?_)
                    refine h_iast (j := v1.toNatClampNeg) hx hb hK hI g_a80 (by decide) rfl (iv_in (n := 2) i_v1 (by decide) (by decide)) rfl (iv_any _) rfl dX9_readLine_141 (fun M85 H locs e_M85 hI => ?_)
                    have m86 : PH M85 R y := PH_told hI.2.1 g_y m_PH_121 (by rw [e_M85, e_a80, rbN, ← (show v1 = M_121 y 36 from k0_121)]) e_v84 (Or.inr rfl) (show v83 = M_121 (R y 17) (rbN M_121 y) by rw [e_v83, e_a80, rbN, ← (show v1 = M_121 y 36 from k0_121)])
                    refine lv_aload_n hx hb dX9_readLine_142 rfl (lv_at hl 0 rfl) ?_
                    refine h_getr hx hb hts iX9_readLine_X9 hown hK hI g_y (by decide) rfl rfl 16 (by decide) rfl 116 rfl (hts (.fieldLink RX9 36 "CatLeasesModel" "draw" "[I") (List.mem_of_getElem? (i := 12) rfl)) (fun _ h9 => h9) dX9_readLine_143 (fun a87 e_a87 g_a87 => ?_)
                    refine lv_aload_n hx hb dX9_readLine_146 rfl (lv_at hl 0 rfl) ?_
                    refine h_geti (lo := 0) (hi := 1) hx hb hts iX9_readLine_X9 hown hK hI g_y (by decide) rfl rfl 36 (by decide) rfl rfl (hts (.fieldLink RX9 259 "CatLeasesModel" "rb" "I") (List.mem_of_getElem? (i := 9) rfl)) (fun _ h9 => h9) dX9_readLine_147 (fun v88 e_v88 i_v88 => ?_)
                    have q89 : v1 = v88 := ((k0_121).trans (u2_st (a := y) (k := 36) e_M85 (u2_a (so_ne g_y g_a80 (by decide)))).symm).trans e_v88.symm
                    subst q89
                    refine lv_aload_n hx hb dX9_readLine_150 rfl (lv_at hl 0 rfl) ?_
                    refine lv_iconst (v := 0) hx hb dX9_readLine_151 (by decide) ?_
                    refine lv_sipush (v := 999) hx hb dX9_readLine_152 (by decide) ?_
                    have m90 : PI M85 y := (PI_ag hI.2.1 g_y m_PI_121 (hAd.put e_M85 g_a80 rfl))
                    refine h_goi hI (by decide) (va_runV (As := [.int (0 : Int32), .int (999 : Int32)]) (rest := [.int v1, .ref a87]) ⟨hx, hb, hml, hown, hts⟩ (h_numeral_X9 l D g σ Z hZ0 M85 N_121 R y g_y (0 : Int32) (999 : Int32) m90) (cwV 2 hts gX9_readLine_X9_numeral rfl rfl rfl (by decide +kernel) ⟨Nat.le_of_ble_eq_true rfl, Nat.le_of_ble_eq_true rfl⟩) (h_preV hZ0 hK hE hI g_y (by decide) rfl) rfl rfl hl.1 rfl (lv_room (Nat.le_of_ble_eq_true rfl)) dX9_readLine_155 ⟨Nat.le_of_ble_eq_true rfl, Nat.le_of_ble_eq_true rfl⟩) (fun r91 M92 N93 R94 H locs q95 z_M92 hI => ?_)
                    obtain ⟨rfl, m96, m97⟩ := q95
                    refine h_iast (j := v1.toNatClampNeg) hx hb hK hI g_a87 (by decide) rfl (iv_in (n := 2) i_v1 (by decide) (by decide)) rfl (iv_any _) rfl dX9_readLine_158 (fun M98 H locs e_M98 hI => ?_)
                    have m99 : PI M98 y := (PI_ag hI.2.1 g_y m96 (hAd.put e_M98 g_a87 rfl))
                    have m100 : PN M M98 y := (PN_ag hI.2.1 g_y (PN_tr (PN_ag hI.2.1 g_y m_PN_121 (hAd.put e_M85 g_a80 rfl)) m97) (hAd.put e_M98 g_a87 rfl))
                    have m101 : PBx M M98 R y := (PBx_ag hI.2.1 g_y (PBx_ag hI.2.1 g_y (PBx_put hI.2.1 g_y m_PB_121 e_M85 g_a80 (Or.inl ⟨by decide, nb9⟩)) (hAd.ag z_M92 (by decide))) (hAd.put e_M98 g_a87 rfl))
                    have m102 : PH M98 R y := (PH_ag hI.2.1 g_y (PH_call9 hI.2.1 g_y m97 z_M92 (by decide) m86) (hAd.put e_M98 g_a87 rfl))
                    have m103 : RB M98 y := (RB_ag hI.2.1 g_y (RB_ag hI.2.1 g_y (RB_ag hI.2.1 g_y m_RB_121 (hAd.put e_M85 g_a80 rfl)) (hAd.ag z_M92 (by decide))) (hAd.put e_M98 g_a87 rfl))
                    have m104 : nu M98 y < nu M y := (NG_ag hI.2.1 g_y (NG_tr (NG_ag hI.2.1 g_y m_NG_121 (hAd.put e_M85 g_a80 rfl)) m97) (hAd.put e_M98 g_a87 rfl))
                    exact J159 M98 N93 H locs ls hI (lv_sub hl [0] rfl) ((((k0_121).trans (u2_st (a := y) (k := 36) e_M85 (u2_a (so_ne g_y g_a80 (by decide)))).symm).trans (z_M92 y 9 36 g_y rfl).symm).trans (u2_st (a := y) (k := 36) e_M98 (u2_a (so_ne g_y g_a87 (by decide)))).symm) m99 m100 m101 m102 m103 m104
                refine lv_if_ne (tgt := 121) hx hb dX9_readLine_89 (by decide) (fun c105 => ?_) (fun c105 => ?_)
                · exact J121 M_84 N_84 H locs ls hI hl (k0_84) m_PI_84 m_PN_84 m_PB_84 m_PH_84 m_RB_84 m_NG_84
                · have i106 : iv v58 0 0 := iv_eq1 c105 (iv_any v58) kc_0
                  refine lv_aload_n hx hb dX9_readLine_92 rfl (lv_at hl 0 rfl) ?_
                  refine h_getr hx hb hts iX9_readLine_X9 hown hK hI g_y (by decide) rfl rfl 17 (by decide) rfl 117 rfl (hts (.fieldLink RX9 39 "CatLeasesModel" "told" "[I") (List.mem_of_getElem? (i := 8) rfl)) (fun _ h9 => h9) dX9_readLine_93 (fun a107 e_a107 g_a107 => ?_)
                  refine lv_aload_n hx hb dX9_readLine_96 rfl (lv_at hl 0 rfl) ?_
                  refine h_geti (lo := 0) (hi := 1) hx hb hts iX9_readLine_X9 hown hK hI g_y (by decide) rfl rfl 36 (by decide) rfl rfl (hts (.fieldLink RX9 259 "CatLeasesModel" "rb" "I") (List.mem_of_getElem? (i := 9) rfl)) (fun _ h9 => h9) dX9_readLine_97 (fun v108 e_v108 i_v108 => ?_)
                  have q109 : v1 = v108 := (k0_84).trans e_v108.symm
                  subst q109
                  refine lv_dup2_11 hx hb dX9_readLine_100 rfl rfl ?_
                  refine h_iald (j := v1.toNatClampNeg) (lo := (-2147483648)) (hi := 2147483647) hx hb hK hI g_a107 (by decide) rfl (iv_in (n := 2) i_v1 (by decide) (by decide)) rfl (iv_any _) dX9_readLine_101 (fun v110 e_v110 i_v110 => ?_)
                  refine lv_iconst (v := 2) hx hb dX9_readLine_102 (by decide) ?_
                  refine lv_ior hx hb dX9_readLine_103 ?_
                  refine h_nm (lo := (-2147483648)) (hi := 2147483647) (iv_any _) (fun v111 e_v111 i_v111 => ?_)
                  refine h_iast (j := v1.toNatClampNeg) hx hb hK hI g_a107 (by decide) rfl (iv_in (n := 2) i_v1 (by decide) (by decide)) rfl (iv_any _) rfl dX9_readLine_104 (fun M112 H locs e_M112 hI => ?_)
                  have m113 : PH M112 R y := PH_told hI.2.1 g_y m_PH_84 (by rw [e_M112, e_a107, rbN, ← (show v1 = M_84 y 36 from k0_84)]) e_v111 (Or.inl rfl) (show v110 = M_84 (R y 17) (rbN M_84 y) by rw [e_v110, e_a107, rbN, ← (show v1 = M_84 y 36 from k0_84)])
                  refine lv_aload_n hx hb dX9_readLine_105 rfl (lv_at hl 0 rfl) ?_
                  refine h_getr hx hb hts iX9_readLine_X9 hown hK hI g_y (by decide) rfl rfl 15 (by decide) rfl 115 rfl (hts (.fieldLink RX9 33 "CatLeasesModel" "dies" "[I") (List.mem_of_getElem? (i := 10) rfl)) (fun _ h9 => h9) dX9_readLine_106 (fun a114 e_a114 g_a114 => ?_)
                  refine lv_aload_n hx hb dX9_readLine_109 rfl (lv_at hl 0 rfl) ?_
                  refine h_geti (lo := 0) (hi := 1) hx hb hts iX9_readLine_X9 hown hK hI g_y (by decide) rfl rfl 36 (by decide) rfl rfl (hts (.fieldLink RX9 259 "CatLeasesModel" "rb" "I") (List.mem_of_getElem? (i := 9) rfl)) (fun _ h9 => h9) dX9_readLine_110 (fun v115 e_v115 i_v115 => ?_)
                  have q116 : v1 = v115 := ((k0_84).trans (u2_st (a := y) (k := 36) e_M112 (u2_a (so_ne g_y g_a107 (by decide)))).symm).trans e_v115.symm
                  subst q116
                  refine lv_aload_n hx hb dX9_readLine_113 rfl (lv_at hl 0 rfl) ?_
                  refine lv_iconst (v := 0) hx hb dX9_readLine_114 (by decide) ?_
                  refine lv_bipush (v := 100) hx hb dX9_readLine_115 (by decide) ?_
                  have m117 : PI M112 y := (PI_ag hI.2.1 g_y m_PI_84 (hAd.put e_M112 g_a107 rfl))
                  refine h_goi hI (by decide) (va_runV (As := [.int (0 : Int32), .int (100 : Int32)]) (rest := [.int v1, .ref a114]) ⟨hx, hb, hml, hown, hts⟩ (h_numeral_X9 l D g σ Z hZ0 M112 N_84 R y g_y (0 : Int32) (100 : Int32) m117) (cwV 2 hts gX9_readLine_X9_numeral rfl rfl rfl (by decide +kernel) ⟨Nat.le_of_ble_eq_true rfl, Nat.le_of_ble_eq_true rfl⟩) (h_preV hZ0 hK hE hI g_y (by decide) rfl) rfl rfl hl.1 rfl (lv_room (Nat.le_of_ble_eq_true rfl)) dX9_readLine_117 ⟨Nat.le_of_ble_eq_true rfl, Nat.le_of_ble_eq_true rfl⟩) (fun r118 M119 N120 R121 H locs q122 z_M119 hI => ?_)
                  obtain ⟨rfl, m123, m124⟩ := q122
                  refine h_iast (j := v1.toNatClampNeg) hx hb hK hI g_a114 (by decide) rfl (iv_in (n := 2) i_v1 (by decide) (by decide)) rfl (iv_any _) rfl dX9_readLine_120 (fun M125 H locs e_M125 hI => ?_)
                  have m126 : PI M125 y := (PI_ag hI.2.1 g_y m123 (hAd.put e_M125 g_a114 rfl))
                  have m127 : PN M M125 y := (PN_ag hI.2.1 g_y (PN_tr (PN_ag hI.2.1 g_y m_PN_84 (hAd.put e_M112 g_a107 rfl)) m124) (hAd.put e_M125 g_a114 rfl))
                  have m128 : PBx M M125 R y := (PBx_ag hI.2.1 g_y (PBx_ag hI.2.1 g_y (PBx_put hI.2.1 g_y m_PB_84 e_M112 g_a107 (Or.inl ⟨by decide, nb9⟩)) (hAd.ag z_M119 (by decide))) (hAd.put e_M125 g_a114 rfl))
                  have m129 : PH M125 R y := (PH_ag hI.2.1 g_y (PH_call9 hI.2.1 g_y m124 z_M119 (by decide) m113) (hAd.put e_M125 g_a114 rfl))
                  have m130 : RB M125 y := (RB_ag hI.2.1 g_y (RB_ag hI.2.1 g_y (RB_ag hI.2.1 g_y m_RB_84 (hAd.put e_M112 g_a107 rfl)) (hAd.ag z_M119 (by decide))) (hAd.put e_M125 g_a114 rfl))
                  have m131 : nu M125 y < nu M y := (NG_ag hI.2.1 g_y (NG_tr (NG_ag hI.2.1 g_y m_NG_84 (hAd.put e_M112 g_a107 rfl)) m124) (hAd.put e_M125 g_a114 rfl))
                  exact J121 M125 N120 H locs ls hI hl ((((k0_84).trans (u2_st (a := y) (k := 36) e_M112 (u2_a (so_ne g_y g_a107 (by decide)))).symm).trans (z_M119 y 9 36 g_y rfl).symm).trans (u2_st (a := y) (k := 36) e_M125 (u2_a (so_ne g_y g_a114 (by decide)))).symm) m126 m127 m128 m129 m130 m131
              refine lv_if_ne (tgt := 84) hx hb dX9_readLine_77 (by decide) (fun c132 => ?_) (fun c132 => ?_)
              · exact J84 M_72 N_72 H locs ls hI hl (k0_72) m_PI_72 m_PN_72 m_PB_72 m_PH_72 m_RB_72 m_NG_72
              · have i133 : iv v57 0 0 := iv_eq1 c132 (iv_any v57) kc_0
                refine lv_aload_n hx hb dX9_readLine_80 rfl (lv_at hl 0 rfl) ?_
                refine h_gov hI (by decide) (va_runV (As := []) (rest := []) ⟨hx, hb, hml, hown, hts⟩ (h_readRule_X9 l D g σ Z hZ0 M_72 N_72 R y g_y m_PI_72 m_PH_72 m_RB_72 (m_NL_72 (lcmp0 (by rw [← e_v57]; exact c132)))) (cwV 0 hts gX9_readLine_X9_readRule rfl rfl rfl (by decide +kernel) ⟨Nat.le_of_ble_eq_true rfl, Nat.le_of_ble_eq_true rfl⟩) (h_preV hZ0 hK hE hI g_y (by decide) rfl) rfl rfl hl.1 rfl (lv_room (Nat.le_of_ble_eq_true rfl)) dX9_readLine_81 ⟨Nat.le_of_ble_eq_true rfl, Nat.le_of_ble_eq_true rfl⟩) (fun M135 N136 R137 H locs q138 z_M135 hI => ?_)
                obtain ⟨rfl, m139, m140, m141, m142⟩ := q138
                have m143 : PN M M135 y := (PN_tr m_PN_72 m140)
                have m144 : PBx M M135 R y := (PBx_tr m_PB_72 m141)
                have m145 : RB M135 y := (RB_ag hI.2.1 g_y m_RB_72 (hAd.ag z_M135 (by decide)))
                have m146 : nu M135 y < nu M y := (NG_tr m_NG_72 m140)
                exact J84 M135 N136 H locs ls hI hl ((k0_72).trans (z_M135 y 9 36 g_y rfl).symm) m139 m143 m144 m142 m145 m146
            refine lv_if_ne (tgt := 72) hx hb dX9_readLine_65 (by decide) (fun c147 => ?_) (fun c147 => ?_)
            · exact J72 M_60 N_60 H locs ls hI hl (k0_60) m_PI_60 m_PN_60 m_PB_60 m_PH_60 m_RB_60 m_NL_60 m_NG_60
            · have i148 : iv v56 0 0 := iv_eq1 c147 (iv_any v56) kc_0
              refine lv_aload_n hx hb dX9_readLine_68 rfl (lv_at hl 0 rfl) ?_
              refine h_gov hI (by decide) (va_runV (As := []) (rest := []) ⟨hx, hb, hml, hown, hts⟩ (h_readTenant_X9 l D g σ Z hZ0 M_60 N_60 R y g_y m_PI_60 m_PH_60 m_RB_60 (m_NFt_60 (lcmp0 (by rw [← e_v56]; exact c147)))) (cwV 0 hts gX9_readLine_X9_readTenant rfl rfl rfl (by decide +kernel) ⟨Nat.le_of_ble_eq_true rfl, Nat.le_of_ble_eq_true rfl⟩) (h_preV hZ0 hK hE hI g_y (by decide) rfl) rfl rfl hl.1 rfl (lv_room (Nat.le_of_ble_eq_true rfl)) dX9_readLine_69 ⟨Nat.le_of_ble_eq_true rfl, Nat.le_of_ble_eq_true rfl⟩) (fun M150 N151 R152 H locs q153 z_M150 hI => ?_)
              obtain ⟨rfl, m154, m155, m156, m157⟩ := q153
              have m158 : PN M M150 y := (PN_tr m_PN_60 m155)
              have m159 : PBx M M150 R y := (PBx_tr m_PB_60 m156)
              have m160 : RB M150 y := (RB_ag hI.2.1 g_y m_RB_60 (hAd.ag z_M150 (by decide)))
              have m161 : NL w2 M150 R y := (NL_ag hI.2.1 g_y m_NL_60 (hAd.ag z_M150 (by decide)))
              have m162 : nu M150 y < nu M y := (NG_tr m_NG_60 m155)
              exact J72 M150 N151 H locs ls hI hl ((k0_60).trans (z_M150 y 9 36 g_y rfl).symm) m154 m158 m159 m157 m160 m161 m162
          refine lv_if_ne (tgt := 60) hx hb dX9_readLine_53 (by decide) (fun c163 => ?_) (fun c163 => ?_)
          · exact J60 M_48 N_48 H locs ls hI hl (k0_48) m_PI_48 m_PN_48 m_PB_48 m_PH_48 m_RB_48 m_NFt_48 m_NL_48 m_NG_48
          · have i164 : iv v55 0 0 := iv_eq1 c163 (iv_any v55) kc_0
            refine lv_aload_n hx hb dX9_readLine_56 rfl (lv_at hl 0 rfl) ?_
            refine h_gov hI (by decide) (va_runV (As := []) (rest := []) ⟨hx, hb, hml, hown, hts⟩ (h_readRoom_X9 l D g σ Z hZ0 M_48 N_48 R y g_y m_PI_48 m_PH_48 m_RB_48 (m_NFr_48 (lcmp0 (by rw [← e_v55]; exact c163)))) (cwV 0 hts gX9_readLine_X9_readRoom rfl rfl rfl (by decide +kernel) ⟨Nat.le_of_ble_eq_true rfl, Nat.le_of_ble_eq_true rfl⟩) (h_preV hZ0 hK hE hI g_y (by decide) rfl) rfl rfl hl.1 rfl (lv_room (Nat.le_of_ble_eq_true rfl)) dX9_readLine_57 ⟨Nat.le_of_ble_eq_true rfl, Nat.le_of_ble_eq_true rfl⟩) (fun M166 N167 R168 H locs q169 z_M166 hI => ?_)
            obtain ⟨rfl, m170, m171, m172, m173⟩ := q169
            have m174 : PN M M166 y := (PN_tr m_PN_48 m171)
            have m175 : PBx M M166 R y := (PBx_tr m_PB_48 m172)
            have m176 : RB M166 y := (RB_ag hI.2.1 g_y m_RB_48 (hAd.ag z_M166 (by decide)))
            have m177 : NF 13 w2 127978992397940 7 M166 R y := (NFt_ag hI.2.1 g_y m_NFt_48 (hAd.ag z_M166 (by decide)))
            have m178 : NL w2 M166 R y := (NL_ag hI.2.1 g_y m_NL_48 (hAd.ag z_M166 (by decide)))
            have m179 : nu M166 y < nu M y := (NG_tr m_NG_48 m171)
            exact J60 M166 N167 H locs ls hI hl ((k0_48).trans (z_M166 y 9 36 g_y rfl).symm) m170 m174 m175 m173 m176 m177 m178 m179
        refine lv_if_ne (tgt := 48) hx hb dX9_readLine_41 (by decide) (fun c180 => ?_) (fun c180 => ?_)
        · have m181 : PN M M47 y := (PN_tr PN_rf z52)
          have m182 : PBx M M47 R y := (PBx_ag hI.2.1 g_y PBx_rf (hAd.ag z_M47 (by decide)))
          have m183 : PH M47 R y := (PH_call9 hI.2.1 g_y z52 z_M47 (by decide) m0_PH)
          have m184 : RB M47 y := (RB_ag hI.2.1 g_y m0_RB (hAd.ag z_M47 (by decide)))
          have m185 : NF 12 w2 1919905645 8 M47 R y := (NFr_ag hI.2.1 g_y (fun h9 => fn9.2.1 (e_w2.symm.trans h9)) (hAd.ag z_M47 (by decide)))
          have m186 : NF 13 w2 127978992397940 7 M47 R y := (NFt_ag hI.2.1 g_y (fun h9 => fn9.2.2.1 (e_w2.symm.trans h9)) (hAd.ag z_M47 (by decide)))
          have m187 : NL w2 M47 R y := (NL_ag hI.2.1 g_y (fun h9 => fn9.2.2.2 (e_w2.symm.trans h9)) (hAd.ag z_M47 (by decide)))
          exact J48 M47 N48 H locs ls hI (lv_sub hl [1, 0] rfl) ((e_v1).trans (z_M47 y 9 36 g_y rfl).symm) z51 m181 m182 m183 m184 m185 m186 m187 ng9
        · have i188 : iv v54 0 0 := iv_eq1 c180 (iv_any v54) kc_0
          refine lv_aload_n hx hb dX9_readLine_44 rfl (lv_at hl 1 rfl) ?_
          have m189 : NF 11 w2 6513012 6 M47 R y := (NFc_ag hI.2.1 g_y (fun h9 => fn9.1 (e_w2.symm.trans h9)) (hAd.ag z_M47 (by decide)))
          have m190 : PH M47 R y := (PH_call9 hI.2.1 g_y z52 z_M47 (by decide) m0_PH)
          have m191 : RB M47 y := (RB_ag hI.2.1 g_y m0_RB (hAd.ag z_M47 (by decide)))
          refine h_gov hI (by decide) (va_runV (As := []) (rest := []) ⟨hx, hb, hml, hown, hts⟩ (h_readCat_X9 l D g σ Z hZ0 M47 N48 R y g_y z51 m190 m191 (m189 (lcmp0 (by rw [← e_v54]; exact c180)))) (cwV 0 hts gX9_readLine_X9_readCat rfl rfl rfl (by decide +kernel) ⟨Nat.le_of_ble_eq_true rfl, Nat.le_of_ble_eq_true rfl⟩) (h_preV hZ0 hK hE hI g_y (by decide) rfl) rfl rfl hl.1 rfl (lv_room (Nat.le_of_ble_eq_true rfl)) dX9_readLine_45 ⟨Nat.le_of_ble_eq_true rfl, Nat.le_of_ble_eq_true rfl⟩) (fun M193 N194 R195 H locs q196 z_M193 hI => ?_)
          obtain ⟨rfl, m197, m198, m199, m200⟩ := q196
          have m201 : PN M M193 y := (PN_tr (PN_tr PN_rf z52) m198)
          have m202 : PBx M M193 R y := (PBx_tr (PBx_ag hI.2.1 g_y PBx_rf (hAd.ag z_M47 (by decide))) m199)
          have m203 : RB M193 y := (RB_ag hI.2.1 g_y m191 (hAd.ag z_M193 (by decide)))
          have m204 : NF 12 w2 1919905645 8 M193 R y := (NFr_ag hI.2.1 g_y (NFr_ag hI.2.1 g_y (fun h9 => fn9.2.1 (e_w2.symm.trans h9)) (hAd.ag z_M47 (by decide))) (hAd.ag z_M193 (by decide)))
          have m205 : NF 13 w2 127978992397940 7 M193 R y := (NFt_ag hI.2.1 g_y (NFt_ag hI.2.1 g_y (fun h9 => fn9.2.2.1 (e_w2.symm.trans h9)) (hAd.ag z_M47 (by decide))) (hAd.ag z_M193 (by decide)))
          have m206 : NL w2 M193 R y := (NL_ag hI.2.1 g_y (NL_ag hI.2.1 g_y (fun h9 => fn9.2.2.2 (e_w2.symm.trans h9)) (hAd.ag z_M47 (by decide))) (hAd.ag z_M193 (by decide)))
          have m207 : nu M193 y < nu M y := (NG_tr ng9 m198)
          exact J48 M193 N194 H locs ls hI (lv_sub hl [1, 0] rfl) (((e_v1).trans (z_M47 y 9 36 g_y rfl).symm).trans (z_M193 y 9 36 g_y rfl).symm) m197 m201 m202 m200 m203 m204 m205 m206 m207
      · obtain ⟨v208, e_v208⟩ : ∃ z : Int32, z = M y 4 := ⟨_, rfl⟩
        have i_v208 : iv v208 0 5 := by rw [e_v208]; exact hI.iv1 (n := 67) g_y rfl (by decide) rfl
        have i209 : iv v208 1 5 := iv_neL (fun h9 => z41 c42 (e_v208.symm.trans h9)) i_v208 (by decide) (by decide)
        have i210 : iv r35 0 0 := iv_eq1 c42 i_r35 kc_0
        exact h_vret hQ hx hb hr hlocks hK hI ⟨rfl, m0_PI, PN_rf, PBx_rf, m0_PH, (gn_lt hg9 m0_PI (fun h9 => gd_no (e_v208) i209 h9))⟩ dX9_readLine_31
    · have i211 : iv r27 1 1 := iv_neL c33 i_r27 (by decide) (by decide)
      refine lv_aload_n hx hb dX9_readLine_20 rfl (lv_at hl 1 rfl) ?_
      refine h_gov hI (by decide) (va_runV (As := []) (rest := []) ⟨hx, hb, hml, hown, hts⟩ (h_misplaced_X9 l D g σ Z hZ0 M N R y g_y m0_PI) (cwV 0 hts gX9_readLine_X9_misplaced rfl rfl rfl (by decide +kernel) ⟨Nat.le_of_ble_eq_true rfl, Nat.le_of_ble_eq_true rfl⟩) (h_preV hZ0 hK hE hI g_y (by decide) rfl) rfl rfl hl.1 rfl (lv_room (Nat.le_of_ble_eq_true rfl)) dX9_readLine_21 ⟨Nat.le_of_ble_eq_true rfl, Nat.le_of_ble_eq_true rfl⟩) (fun M213 N214 R215 H locs q216 z_M213 hI => ?_)
      obtain ⟨rfl, rfl, m217, m218, z219⟩ := q216
      obtain ⟨v220, e_v220⟩ : ∃ z : Int32, z = M213 y 4 := ⟨_, rfl⟩
      have i_v220 : iv v220 1 5 := by rw [e_v220]; exact z219
      refine lv_aload_n hx hb dX9_readLine_24 rfl (lv_at hl 1 rfl) ?_
      refine h_goi hI (by decide) (va_runV (As := []) (rest := []) ⟨hx, hb, hml, hown, hts⟩ (h_isGood_X9 l D g σ Z hZ0 M213 N R y g_y) (cwV 0 hts gX9_readLine_X9_isGood rfl rfl rfl (by decide +kernel) ⟨Nat.le_of_ble_eq_true rfl, Nat.le_of_ble_eq_true rfl⟩) (h_preV hZ0 hK hE hI g_y (by decide) rfl) rfl rfl hl.1 rfl (lv_room (Nat.le_of_ble_eq_true rfl)) dX9_readLine_25 ⟨Nat.le_of_ble_eq_true rfl, Nat.le_of_ble_eq_true rfl⟩) (fun r221 M222 N223 R224 H locs q225 z_M222 hI => ?_)
      obtain ⟨rfl, rfl, rfl, i_r221, z226, z227⟩ := q225
      refine lv_if_ne (tgt := 32) hx hb dX9_readLine_28 (by decide) (fun c228 => ?_) (fun c228 => ?_)
      · exact absurd ((e_v220).trans (z226 c228)) (iv_ne i_v220 kc_0 (by decide))
      · have i229 : iv r221 0 0 := iv_eq1 c228 i_r221 kc_0
        have m230 : PN M M213 y := (PN_tr PN_rf m218)
        have m231 : PBx M M213 R y := (PBx_ag hI.2.1 g_y PBx_rf (hAd.ag z_M213 (by decide)))
        have m232 : PH M213 R y := (PH_call9 hI.2.1 g_y m218 z_M213 (by decide) m0_PH)
        exact h_vret hQ hx hb hr hlocks hK hI ⟨rfl, m217, m230, m231, m232, (gn_lt hg9 m0_PI (fun h9 => gd_no (e_v220) i_v220 h9))⟩ dX9_readLine_31
