abbrev e_h_readTenant_X5 : List (Nat × Nat) := [(4, 2), (5, 1), (5, 2), (5, 10), (5, 11), (5, 12), (5, 13), (13, 999), (14, 999)]
set_option maxHeartbeats 4000000 in
set_option maxRecDepth 100000 in
theorem h_readTenant_X5 (l : Launch) (D : va_G) (g : Nat → ClassId) (σ : Nat → Option Nat) (Z : State → Heap → Prop) (hZ0 : hZ σ Z) (M : hM) (N : hN) (R : hR) (a : Nat) (g_a : σ a = some 5) : Met l yX5_readTenant wsX5_readTenant ({ frames := 6, cells := 0, slots := 0, locals := 135 }) (va_Pc [.ref a] (hPre D g σ Z M N R)) (hQi D g σ e_h_readTenant_X5 M (fun (r : Int32) (M1 : hM) (N1 : hN) (R1 : hR) => R = R1 ∧ iv r 0 1)) 0 0 (hA σ) := by
  refine h_head (cc := cX5_readTenant) (maxL := 4) (ret := (some .boolean)) (by decide) rfl (Nat.le_of_ble_eq_true rfl) e_h_readTenant_X5 ?_
  intro p e s m below meth c ls Q ar hQ hx hb hr hlocks hml hown hts hK hE H locs hI hl
  have hown : s.vm.findClass RX5 = some m.cls := hown
  have hl : lv_has ls 4 [(0, .ref a)] := hl
  refine lv_aload_n hx hb dX5_readTenant_0 rfl (lv_at hl 0 rfl) ?_
  refine h_getr hx hb hts iX5_readTenant_X5 hown hK hI g_a (by decide) rfl rfl 0 (by decide) rfl 4 rfl (hts (.fieldLink RX5 12 "CatLeases$Reader" "mews" "LCatLeases$Mews;") (List.mem_of_getElem? (i := 1) rfl)) (fun _ h9 => h9) dX5_readTenant_1 (fun a1 e_a1 g_a1 => ?_)
  refine h_geti (lo := 0) (hi := 7) hx hb hts iX5_readTenant_X4 hown hK hI g_a1 (by decide) rfl rfl 2 (by decide) rfl rfl (hts (.fieldLink RX5 179 "CatLeases$Mews" "tenants" "I") (List.mem_of_getElem? (i := 2) rfl)) (fun _ h9 => h9) dX5_readTenant_4 (fun v2 e_v2 i_v2 => ?_)
  refine lv_istore_n (lv' := [(1, .int v2), (0, .ref a)]) hx hb dX5_readTenant_7 rfl hl (by decide) rfl (fun ls hl => ?_)
  refine lv_iload_n hx hb dX5_readTenant_8 rfl (lv_at hl 0 rfl) ?_
  refine lv_bipush (v := 7) hx hb dX5_readTenant_9 (by decide) ?_
  refine lv_icmp_lt (tgt := 19) hx hb dX5_readTenant_11 (by decide) (fun c3 => ?_) (fun c3 => ?_)
  · have i4 : iv v2 0 6 := iv_lt1 c3 i_v2 kc_7 (by decide)
    refine lv_aload_n hx hb dX5_readTenant_19 rfl (lv_at hl 1 rfl) ?_
    refine h_gov hI (by decide) (va_runV (As := []) (rest := []) ⟨hx, hb, hml, hown, hts⟩ (h_advance_X5 l D g σ Z hZ0 M N R a g_a) (cwV 0 hts gX5_readTenant_X5_advance rfl rfl rfl (by decide +kernel) ⟨Nat.le_of_ble_eq_true rfl, Nat.le_of_ble_eq_true rfl⟩) (h_preV hZ0 hK hE hI g_a (by decide) rfl) rfl rfl hl.1 rfl (lv_room (Nat.le_of_ble_eq_true rfl)) dX5_readTenant_20 ⟨Nat.le_of_ble_eq_true rfl, Nat.le_of_ble_eq_true rfl⟩) (fun M6 N7 R8 H locs q9 z_M6 hI => ?_)
    subst q9
    refine lv_aload_n hx hb dX5_readTenant_23 rfl (lv_at hl 1 rfl) ?_
    refine lv_aload_n hx hb dX5_readTenant_24 rfl (lv_at hl 1 rfl) ?_
    refine h_getr hx hb hts iX5_readTenant_X5 hown hK hI g_a (by decide) rfl rfl 6 (by decide) rfl 25 rfl (hts (.fieldLink RX5 35 "CatLeases$Reader" "tenantNames" "[J") (List.mem_of_getElem? (i := 3) rfl)) (fun _ h9 => h9) dX5_readTenant_25 (fun a10 e_a10 g_a10 => ?_)
    refine lv_iload_n hx hb dX5_readTenant_28 rfl (lv_at hl 0 rfl) ?_
    refine h_goi hI (by decide) (va_runV (As := [.ref a10, .int v2]) (rest := []) ⟨hx, hb, hml, hown, hts⟩ (h_readNewName_25 l D g σ Z hZ0 M6 N7 R a g_a a10 g_a10 v2 i4) (cwV 2 hts gX5_readTenant_X5_readNewName rfl rfl rfl (by decide +kernel) ⟨Nat.le_of_ble_eq_true rfl, Nat.le_of_ble_eq_true rfl⟩) (h_preV hZ0 hK hE hI g_a (by decide) rfl) rfl rfl hl.1 rfl (lv_room (Nat.le_of_ble_eq_true rfl)) dX5_readTenant_29 ⟨Nat.le_of_ble_eq_true rfl, Nat.le_of_ble_eq_true rfl⟩) (fun r11 M12 N13 R14 H locs q15 z_M12 hI => ?_)
    obtain ⟨rfl, i_r11⟩ := q15
    refine lv_if_eq (tgt := 53) hx hb dX5_readTenant_32 (by decide) (fun c16 => ?_) (fun c16 => ?_)
    · have i17 : iv r11 0 0 := iv_eq1 c16 i_r11 kc_0
      refine lv_iconst (v := 0) hx hb dX5_readTenant_53 (by decide) ?_
      exact h_iret hQ hx hb hr hlocks rfl hK hI ⟨rfl, (iv_w (lo' := 0) (hi' := 1) kc_0 (by decide) (by decide))⟩ dX5_readTenant_54
    · have i18 : iv r11 1 1 := iv_neL c16 i_r11 (by decide) (by decide)
      refine lv_aload_n hx hb dX5_readTenant_35 rfl (lv_at hl 1 rfl) ?_
      refine lv_bipush (v := 10) hx hb dX5_readTenant_36 (by decide) ?_
      refine h_goi hI (by decide) (va_runV (As := [.int (10 : Int32)]) (rest := []) ⟨hx, hb, hml, hown, hts⟩ (h_readWord_X5 l D g σ Z hZ0 M12 N13 R a g_a (10 : Int32)) (cwV 1 hts gX5_readTenant_X5_readWord rfl rfl rfl (by decide +kernel) ⟨Nat.le_of_ble_eq_true rfl, Nat.le_of_ble_eq_true rfl⟩) (h_preV hZ0 hK hE hI g_a (by decide) rfl) rfl rfl hl.1 rfl (lv_room (Nat.le_of_ble_eq_true rfl)) dX5_readTenant_38 ⟨Nat.le_of_ble_eq_true rfl, Nat.le_of_ble_eq_true rfl⟩) (fun r19 M20 N21 R22 H locs q23 z_M20 hI => ?_)
      obtain ⟨rfl, i_r19⟩ := q23
      refine lv_if_eq (tgt := 53) hx hb dX5_readTenant_41 (by decide) (fun c24 => ?_) (fun c24 => ?_)
      · have i25 : iv r19 0 0 := iv_eq1 c24 i_r19 kc_0
        refine lv_iconst (v := 0) hx hb dX5_readTenant_53 (by decide) ?_
        exact h_iret hQ hx hb hr hlocks rfl hK hI ⟨rfl, (iv_w (lo' := 0) (hi' := 1) kc_0 (by decide) (by decide))⟩ dX5_readTenant_54
      · have i26 : iv r19 1 1 := iv_neL c24 i_r19 (by decide) (by decide)
        refine lv_aload_n hx hb dX5_readTenant_44 rfl (lv_at hl 1 rfl) ?_
        refine lv_bipush (v := 99) hx hb dX5_readTenant_45 (by decide) ?_
        refine h_goi hI (by decide) (va_runV (As := [.int (99 : Int32)]) (rest := []) ⟨hx, hb, hml, hown, hts⟩ (h_readNumber_X5 l D g σ Z hZ0 M20 N21 R a g_a (99 : Int32)) (cwV 1 hts gX5_readTenant_X5_readNumber rfl rfl rfl (by decide +kernel) ⟨Nat.le_of_ble_eq_true rfl, Nat.le_of_ble_eq_true rfl⟩) (h_preV hZ0 hK hE hI g_a (by decide) rfl) rfl rfl hl.1 rfl (lv_room (Nat.le_of_ble_eq_true rfl)) dX5_readTenant_47 ⟨Nat.le_of_ble_eq_true rfl, Nat.le_of_ble_eq_true rfl⟩) (fun r27 M28 N29 R30 H locs q31 z_M28 hI => ?_)
        obtain ⟨rfl, i_r27⟩ := q31
        refine lv_if_ne (tgt := 55) hx hb dX5_readTenant_50 (by decide) (fun c32 => ?_) (fun c32 => ?_)
        · have i33 : iv r27 1 1 := iv_neL c32 i_r27 (by decide) (by decide)
          refine lv_aload_n hx hb dX5_readTenant_55 rfl (lv_at hl 1 rfl) ?_
          refine h_getr hx hb hts iX5_readTenant_X5 hown hK hI g_a (by decide) rfl rfl 0 (by decide) rfl 4 rfl (hts (.fieldLink RX5 12 "CatLeases$Reader" "mews" "LCatLeases$Mews;") (List.mem_of_getElem? (i := 1) rfl)) (fun _ h9 => h9) dX5_readTenant_56 (fun a34 e_a34 g_a34 => ?_)
          have q35 : a1 = a34 := (e_a1).trans e_a34.symm
          subst q35
          refine h_getr hx hb hts iX5_readTenant_X4 hown hK hI g_a1 (by decide) rfl rfl 8 (by decide) rfl 7 rfl (hts (.fieldLink RX5 100 "CatLeases$Mews" "told" "LCatLeases$State;") (List.mem_of_getElem? (i := 4) rfl)) (fun _ h9 => h9) dX5_readTenant_59 (fun a36 e_a36 g_a36 => ?_)
          refine h_getr hx hb hts iX5_readTenant_X7 hown hK hI g_a36 (by decide) rfl rfl 3 (by decide) rfl 14 rfl (hts (.fieldLink RX5 182 "CatLeases$State" "hours" "[I") (List.mem_of_getElem? (i := 5) rfl)) (fun _ h9 => h9) dX5_readTenant_62 (fun a37 e_a37 g_a37 => ?_)
          refine lv_iload_n hx hb dX5_readTenant_65 rfl (lv_at hl 0 rfl) ?_
          refine lv_aload_n hx hb dX5_readTenant_66 rfl (lv_at hl 1 rfl) ?_
          refine h_geti (lo := (-2147483648)) (hi := 2147483647) hx hb hts iX5_readTenant_X5 hown hK hI g_a (by decide) rfl rfl 13 (by decide) rfl rfl (hts (.fieldLink RX5 57 "CatLeases$Reader" "number" "I") (List.mem_of_getElem? (i := 6) rfl)) (fun _ h9 => h9) dX5_readTenant_67 (fun v38 e_v38 i_v38 => ?_)
          refine h_iast (j := v2.toNatClampNeg) hx hb hK hI g_a37 (by decide) rfl (iv_in (n := 7) i4 (by decide) (by decide)) rfl (iv_any _) rfl dX5_readTenant_70 (fun M39 H locs e_M39 hI => ?_)
          refine lv_aload_n hx hb dX5_readTenant_71 rfl (lv_at hl 1 rfl) ?_
          refine h_getr hx hb hts iX5_readTenant_X5 hown hK hI g_a (by decide) rfl rfl 0 (by decide) rfl 4 rfl (hts (.fieldLink RX5 12 "CatLeases$Reader" "mews" "LCatLeases$Mews;") (List.mem_of_getElem? (i := 1) rfl)) (fun _ h9 => h9) dX5_readTenant_72 (fun a40 e_a40 g_a40 => ?_)
          have q41 : a1 = a40 := (e_a1).trans e_a40.symm
          subst q41
          refine h_getr hx hb hts iX5_readTenant_X4 hown hK hI g_a1 (by decide) rfl rfl 7 (by decide) rfl 14 rfl (hts (.fieldLink RX5 185 "CatLeases$Mews" "warmths" "[I") (List.mem_of_getElem? (i := 7) rfl)) (fun _ h9 => h9) dX5_readTenant_75 (fun a42 e_a42 g_a42 => ?_)
          refine lv_iload_n hx hb dX5_readTenant_78 rfl (lv_at hl 0 rfl) ?_
          refine lv_iconst (v := 0) hx hb dX5_readTenant_79 (by decide) ?_
          refine h_iast (j := v2.toNatClampNeg) hx hb hK hI g_a42 (by decide) rfl (iv_in (n := 7) i4 (by decide) (by decide)) rfl (iv_any _) rfl dX5_readTenant_80 (fun M43 H locs e_M43 hI => ?_)
          refine lv_aload_n hx hb dX5_readTenant_81 rfl (lv_at hl 1 rfl) ?_
          refine lv_bipush (v := 11) hx hb dX5_readTenant_82 (by decide) ?_
          refine h_goi hI (by decide) (va_runV (As := [.int (11 : Int32)]) (rest := []) ⟨hx, hb, hml, hown, hts⟩ (h_follows_X5 l D g σ Z hZ0 M43 N29 R a g_a (11 : Int32)) (cwV 1 hts gX5_readTenant_X5_follows rfl rfl rfl (by decide +kernel) ⟨Nat.le_of_ble_eq_true rfl, Nat.le_of_ble_eq_true rfl⟩) (h_preV hZ0 hK hE hI g_a (by decide) rfl) rfl rfl hl.1 rfl (lv_room (Nat.le_of_ble_eq_true rfl)) dX5_readTenant_84 ⟨Nat.le_of_ble_eq_true rfl, Nat.le_of_ble_eq_true rfl⟩) (fun r44 M45 N46 R47 H locs q48 z_M45 hI => ?_)
          obtain ⟨rfl, i_r44⟩ := q48
          have J114 : ∀ (M_114 : hM) (N_114 : hN) (H : Heap) (locs : List Loc) (ls : Array Slot), kI D g σ e_h_readTenant_X5 M s.heap M_114 N_114 R H locs → lv_has ls 4 [(0, .ref a), (1, .int v2)] → v2 = M_114 a1 2 → W p l e (headSpec wsX5_readTenant ({ frames := 6, cells := 0, slots := 0, locals := 135 })).room s m ar below meth c H locs 0 0 Q (F0 m 114 ls []) := by
            intro M_114 N_114 H locs ls hI hl k0_114
            refine lv_aload_n hx hb dX5_readTenant_114 rfl (lv_at hl 0 rfl) ?_
            refine lv_bipush (v := 12) hx hb dX5_readTenant_115 (by decide) ?_
            refine h_goi hI (by decide) (va_runV (As := [.int (12 : Int32)]) (rest := []) ⟨hx, hb, hml, hown, hts⟩ (h_follows_X5 l D g σ Z hZ0 M_114 N_114 R a g_a (12 : Int32)) (cwV 1 hts gX5_readTenant_X5_follows rfl rfl rfl (by decide +kernel) ⟨Nat.le_of_ble_eq_true rfl, Nat.le_of_ble_eq_true rfl⟩) (h_preV hZ0 hK hE hI g_a (by decide) rfl) rfl rfl hl.1 rfl (lv_room (Nat.le_of_ble_eq_true rfl)) dX5_readTenant_117 ⟨Nat.le_of_ble_eq_true rfl, Nat.le_of_ble_eq_true rfl⟩) (fun r49 M50 N51 R52 H locs q53 z_M50 hI => ?_)
            obtain ⟨rfl, i_r49⟩ := q53
            have J150 : ∀ (M_150 : hM) (N_150 : hN) (H : Heap) (locs : List Loc) (ls : Array Slot), kI D g σ e_h_readTenant_X5 M s.heap M_150 N_150 R H locs → lv_has ls 4 [(0, .ref a), (1, .int v2)] → v2 = M_150 a1 2 → W p l e (headSpec wsX5_readTenant ({ frames := 6, cells := 0, slots := 0, locals := 135 })).room s m ar below meth c H locs 0 0 Q (F0 m 150 ls []) := by
              intro M_150 N_150 H locs ls hI hl k0_150
              refine lv_aload_n hx hb dX5_readTenant_150 rfl (lv_at hl 0 rfl) ?_
              refine lv_bipush (v := 9) hx hb dX5_readTenant_151 (by decide) ?_
              refine h_goi hI (by decide) (va_runV (As := [.int (9 : Int32)]) (rest := []) ⟨hx, hb, hml, hown, hts⟩ (h_follows_X5 l D g σ Z hZ0 M_150 N_150 R a g_a (9 : Int32)) (cwV 1 hts gX5_readTenant_X5_follows rfl rfl rfl (by decide +kernel) ⟨Nat.le_of_ble_eq_true rfl, Nat.le_of_ble_eq_true rfl⟩) (h_preV hZ0 hK hE hI g_a (by decide) rfl) rfl rfl hl.1 rfl (lv_room (Nat.le_of_ble_eq_true rfl)) dX5_readTenant_153 ⟨Nat.le_of_ble_eq_true rfl, Nat.le_of_ble_eq_true rfl⟩) (fun r54 M55 N56 R57 H locs q58 z_M55 hI => ?_)
              obtain ⟨rfl, i_r54⟩ := q58
              have J225 : ∀ (M_225 : hM) (N_225 : hN) (H : Heap) (locs : List Loc) (ls : Array Slot), kI D g σ e_h_readTenant_X5 M s.heap M_225 N_225 R H locs → lv_has ls 4 [(0, .ref a)] → v2 = M_225 a1 2 → W p l e (headSpec wsX5_readTenant ({ frames := 6, cells := 0, slots := 0, locals := 135 })).room s m ar below meth c H locs 0 0 Q (F0 m 225 ls []) := by
                intro M_225 N_225 H locs ls hI hl k0_225
                refine lv_aload_n hx hb dX5_readTenant_225 rfl (lv_at hl 0 rfl) ?_
                refine h_getr hx hb hts iX5_readTenant_X5 hown hK hI g_a (by decide) rfl rfl 0 (by decide) rfl 4 rfl (hts (.fieldLink RX5 12 "CatLeases$Reader" "mews" "LCatLeases$Mews;") (List.mem_of_getElem? (i := 1) rfl)) (fun _ h9 => h9) dX5_readTenant_226 (fun a59 e_a59 g_a59 => ?_)
                have q60 : a1 = a59 := (e_a1).trans e_a59.symm
                subst q60
                refine lv_dup hx hb dX5_readTenant_229 rfl ?_
                refine h_geti (lo := 0) (hi := 7) hx hb hts iX5_readTenant_X4 hown hK hI g_a1 (by decide) rfl rfl 2 (by decide) rfl rfl (hts (.fieldLink RX5 179 "CatLeases$Mews" "tenants" "I") (List.mem_of_getElem? (i := 2) rfl)) (fun _ h9 => h9) dX5_readTenant_230 (fun v61 e_v61 i_v61 => ?_)
                have q62 : v2 = v61 := (k0_225).trans e_v61.symm
                subst q62
                refine lv_iconst (v := 1) hx hb dX5_readTenant_233 (by decide) ?_
                refine lv_iadd hx hb dX5_readTenant_234 ?_
                refine h_nm (lo := 1) (hi := 7) (iv_add i4 kc_1 (by decide) (by decide) (by decide) (by decide)) (fun v63 e_v63 i_v63 => ?_)
                refine h_puti hx hb hts iX5_readTenant_X4 tyX4 tyX4_ok nmX4 hown hK hI g_a1 (by decide) rfl rfl 2 (by decide) rfl (hts (.fieldLink RX5 179 "CatLeases$Mews" "tenants" "I") (List.mem_of_getElem? (i := 2) rfl)) (fun _ h9 => h9) rfl .int (by decide +kernel) rfl rfl (iv_w (lo' := 0) (hi' := 7) i_v63 (by decide) (by decide)) rfl dX5_readTenant_235 (fun M64 H locs e_M64 hI => ?_)
                refine lv_iconst (v := 1) hx hb dX5_readTenant_238 (by decide) ?_
                exact h_iret hQ hx hb hr hlocks rfl hK hI ⟨rfl, (iv_w (lo' := 0) (hi' := 1) kc_1 (by decide) (by decide))⟩ dX5_readTenant_239
              refine lv_if_eq (tgt := 225) hx hb dX5_readTenant_156 (by decide) (fun c65 => ?_) (fun c65 => ?_)
              · have i66 : iv r54 0 0 := iv_eq1 c65 i_r54 kc_0
                exact J225 M55 N56 H locs ls hI (lv_sub hl [0] rfl) ((k0_150).trans (z_M55 a1 4 2 g_a1 rfl).symm)
              · have i67 : iv r54 1 1 := iv_neL c65 i_r54 (by decide) (by decide)
                refine lv_aload_n hx hb dX5_readTenant_159 rfl (lv_at hl 0 rfl) ?_
                refine h_geti (lo := (-2147483648)) (hi := 2147483647) hx hb hts iX5_readTenant_X5 hown hK hI g_a (by decide) rfl rfl 11 (by decide) rfl rfl (hts (.fieldLink RX5 51 "CatLeases$Reader" "place" "I") (List.mem_of_getElem? (i := 9) rfl)) (fun _ h9 => h9) dX5_readTenant_160 (fun v68 e_v68 i_v68 => ?_)
                refine lv_istore_n (lv' := [(2, .int v68), (0, .ref a), (1, .int v2)]) hx hb dX5_readTenant_163 rfl hl (by decide) rfl (fun ls hl => ?_)
                refine lv_aload_n hx hb dX5_readTenant_164 rfl (lv_at hl 1 rfl) ?_
                refine lv_aload_n hx hb dX5_readTenant_165 rfl (lv_at hl 1 rfl) ?_
                refine h_getr hx hb hts iX5_readTenant_X5 hown hK hI g_a (by decide) rfl rfl 5 (by decide) rfl 24 rfl (hts (.fieldLink RX5 32 "CatLeases$Reader" "roomNames" "[J") (List.mem_of_getElem? (i := 10) rfl)) (fun _ h9 => h9) dX5_readTenant_166 (fun a69 e_a69 g_a69 => ?_)
                refine lv_aload_n hx hb dX5_readTenant_169 rfl (lv_at hl 1 rfl) ?_
                refine h_getr hx hb hts iX5_readTenant_X5 hown hK hI g_a (by decide) rfl rfl 0 (by decide) rfl 4 rfl (hts (.fieldLink RX5 12 "CatLeases$Reader" "mews" "LCatLeases$Mews;") (List.mem_of_getElem? (i := 1) rfl)) (fun _ h9 => h9) dX5_readTenant_170 (fun a70 e_a70 g_a70 => ?_)
                have q71 : a1 = a70 := (e_a1).trans e_a70.symm
                subst q71
                refine h_geti (lo := 0) (hi := 8) hx hb hts iX5_readTenant_X4 hown hK hI g_a1 (by decide) rfl rfl 1 (by decide) rfl rfl (hts (.fieldLink RX5 173 "CatLeases$Mews" "rooms" "I") (List.mem_of_getElem? (i := 11) rfl)) (fun _ h9 => h9) dX5_readTenant_173 (fun v72 e_v72 i_v72 => ?_)
                refine h_goi hI (by decide) (va_runV (As := [.ref a69, .int v72]) (rest := []) ⟨hx, hb, hml, hown, hts⟩ (h_readKnownName_24 l D g σ Z hZ0 M55 N56 R a g_a a69 g_a69 v72) (cwV 2 hts gX5_readTenant_X5_readKnownName rfl rfl rfl (by decide +kernel) ⟨Nat.le_of_ble_eq_true rfl, Nat.le_of_ble_eq_true rfl⟩) (h_preV hZ0 hK hE hI g_a (by decide) rfl) rfl rfl hl.1 rfl (lv_room (Nat.le_of_ble_eq_true rfl)) dX5_readTenant_176 ⟨Nat.le_of_ble_eq_true rfl, Nat.le_of_ble_eq_true rfl⟩) (fun r73 M74 N75 R76 H locs q77 z_M74 hI => ?_)
                obtain ⟨rfl, i_r73⟩ := q77
                refine lv_istore_n (lv' := [(3, .int r73), (2, .int v68), (0, .ref a), (1, .int v2)]) hx hb dX5_readTenant_179 rfl hl (by decide) rfl (fun ls hl => ?_)
                refine lv_iload_n hx hb dX5_readTenant_180 rfl (lv_at hl 0 rfl) ?_
                refine lv_if_ge (tgt := 186) hx hb dX5_readTenant_181 (by decide) (fun c78 => ?_) (fun c78 => ?_)
                · have i79 : iv r73 0 7 := iv_le2 c78 kc_0 i_r73 (by decide)
                  refine lv_aload_n hx hb dX5_readTenant_186 rfl (lv_at hl 2 rfl) ?_
                  refine h_getr hx hb hts iX5_readTenant_X5 hown hK hI g_a (by decide) rfl rfl 0 (by decide) rfl 4 rfl (hts (.fieldLink RX5 12 "CatLeases$Reader" "mews" "LCatLeases$Mews;") (List.mem_of_getElem? (i := 1) rfl)) (fun _ h9 => h9) dX5_readTenant_187 (fun a80 e_a80 g_a80 => ?_)
                  have q81 : a1 = a80 := (e_a1).trans e_a80.symm
                  subst q81
                  refine lv_aload_n hx hb dX5_readTenant_190 rfl (lv_at hl 2 rfl) ?_
                  refine h_getr hx hb hts iX5_readTenant_X5 hown hK hI g_a (by decide) rfl rfl 0 (by decide) rfl 4 rfl (hts (.fieldLink RX5 12 "CatLeases$Reader" "mews" "LCatLeases$Mews;") (List.mem_of_getElem? (i := 1) rfl)) (fun _ h9 => h9) dX5_readTenant_191 (fun a82 e_a82 g_a82 => ?_)
                  have q83 : a1 = a82 := (e_a1).trans e_a82.symm
                  subst q83
                  refine h_getr hx hb hts iX5_readTenant_X4 hown hK hI g_a1 (by decide) rfl rfl 8 (by decide) rfl 7 rfl (hts (.fieldLink RX5 100 "CatLeases$Mews" "told" "LCatLeases$State;") (List.mem_of_getElem? (i := 4) rfl)) (fun _ h9 => h9) dX5_readTenant_194 (fun a84 e_a84 g_a84 => ?_)
                  have q85 : a36 = a84 := (e_a36).trans e_a84.symm
                  subst q85
                  refine lv_iload_n hx hb dX5_readTenant_197 rfl (lv_at hl 0 rfl) ?_
                  refine h_goi hI (by decide) (va_runV (As := [.ref a36, .int r73]) (rest := []) ⟨hx, hb, hml, hown, hts⟩ (h_whoIsIn_X4 l D g σ Z hZ0 M74 N75 R a1 g_a1 a36 g_a36 r73) (cwV 2 hts gX5_readTenant_X4_whoIsIn rfl rfl rfl (by decide +kernel) ⟨Nat.le_of_ble_eq_true rfl, Nat.le_of_ble_eq_true rfl⟩) (h_preV hZ0 hK hE hI g_a1 (by decide) rfl) rfl rfl hl.1 rfl (lv_room (Nat.le_of_ble_eq_true rfl)) dX5_readTenant_198 ⟨Nat.le_of_ble_eq_true rfl, Nat.le_of_ble_eq_true rfl⟩) (fun r86 M87 N88 R89 H locs q90 z_M87 hI => ?_)
                  obtain ⟨rfl, rfl, rfl, i_r86⟩ := q90
                  refine lv_iconst (v := (-1)) hx hb dX5_readTenant_201 (by decide) ?_
                  refine lv_icmp_eq (tgt := 212) hx hb dX5_readTenant_202 (by decide) (fun c91 => ?_) (fun c91 => ?_)
                  · have i92 : iv r86 (-1) (-1) := iv_eq1 c91 i_r86 kc_m1
                    refine lv_aload_n hx hb dX5_readTenant_212 rfl (lv_at hl 2 rfl) ?_
                    refine h_getr hx hb hts iX5_readTenant_X5 hown hK hI g_a (by decide) rfl rfl 0 (by decide) rfl 4 rfl (hts (.fieldLink RX5 12 "CatLeases$Reader" "mews" "LCatLeases$Mews;") (List.mem_of_getElem? (i := 1) rfl)) (fun _ h9 => h9) dX5_readTenant_213 (fun a93 e_a93 g_a93 => ?_)
                    have q94 : a1 = a93 := (e_a1).trans e_a93.symm
                    subst q94
                    refine h_getr hx hb hts iX5_readTenant_X4 hown hK hI g_a1 (by decide) rfl rfl 8 (by decide) rfl 7 rfl (hts (.fieldLink RX5 100 "CatLeases$Mews" "told" "LCatLeases$State;") (List.mem_of_getElem? (i := 4) rfl)) (fun _ h9 => h9) dX5_readTenant_216 (fun a95 e_a95 g_a95 => ?_)
                    have q96 : a36 = a95 := (e_a36).trans e_a95.symm
                    subst q96
                    refine h_getr hx hb hts iX5_readTenant_X7 hown hK hI g_a36 (by decide) rfl rfl 1 (by decide) rfl 13 rfl (hts (.fieldLink RX5 199 "CatLeases$State" "places" "[I") (List.mem_of_getElem? (i := 12) rfl)) (fun _ h9 => h9) dX5_readTenant_219 (fun a97 e_a97 g_a97 => ?_)
                    refine lv_iload_n hx hb dX5_readTenant_222 rfl (lv_at hl 3 rfl) ?_
                    refine lv_iload_n hx hb dX5_readTenant_223 rfl (lv_at hl 0 rfl) ?_
                    refine h_iast (j := v2.toNatClampNeg) hx hb hK hI g_a97 (by decide) rfl (iv_in (n := 7) i4 (by decide) (by decide)) rfl (iv_w (lo' := (-1)) (hi' := 7) i79 (by decide) (by decide)) rfl dX5_readTenant_224 (fun M98 H locs e_M98 hI => ?_)
                    exact J225 M98 N75 H locs ls hI (lv_sub hl [2] rfl) ((((k0_150).trans (z_M55 a1 4 2 g_a1 rfl).symm).trans (z_M74 a1 4 2 g_a1 rfl).symm).trans (u2_st (a := a1) (k := 2) e_M98 (u2_a (so_ne g_a1 g_a97 (by decide)))).symm)
                  · have i99 : iv r86 0 6 := iv_neL c91 i_r86 (by decide) (by decide)
                    refine lv_aload_n hx hb dX5_readTenant_205 rfl (lv_at hl 2 rfl) ?_
                    refine lv_iconst (v := 3) hx hb dX5_readTenant_206 (by decide) ?_
                    refine lv_iload_n hx hb dX5_readTenant_207 rfl (lv_at hl 1 rfl) ?_
                    refine h_goi hI (by decide) (va_runV (As := [.int (3 : Int32), .int v68]) (rest := []) ⟨hx, hb, hml, hown, hts⟩ (h_fail_X5 l D g σ Z hZ0 M74 N75 R a g_a (3 : Int32) v68) (cwV 2 hts gX5_readTenant_X5_fail rfl rfl rfl (by decide +kernel) ⟨Nat.le_of_ble_eq_true rfl, Nat.le_of_ble_eq_true rfl⟩) (h_preV hZ0 hK hE hI g_a (by decide) rfl) rfl rfl hl.1 rfl (lv_room (Nat.le_of_ble_eq_true rfl)) dX5_readTenant_208 ⟨Nat.le_of_ble_eq_true rfl, Nat.le_of_ble_eq_true rfl⟩) (fun r100 M101 N102 R103 H locs q104 z_M101 hI => ?_)
                    obtain ⟨rfl, rfl, i_r100⟩ := q104
                    exact h_iret hQ hx hb hr hlocks (nar_z (iv_w (lo' := 0) (hi' := 1) i_r100 (by decide) (by decide))) hK hI ⟨rfl, (iv_w (lo' := 0) (hi' := 1) i_r100 (by decide) (by decide))⟩ dX5_readTenant_211
                · have i105 : iv r73 (-1) (-1) := iv_nle2 c78 kc_0 i_r73 (by decide)
                  refine lv_iconst (v := 0) hx hb dX5_readTenant_184 (by decide) ?_
                  exact h_iret hQ hx hb hr hlocks rfl hK hI ⟨rfl, (iv_w (lo' := 0) (hi' := 1) kc_0 (by decide) (by decide))⟩ dX5_readTenant_185
            refine lv_if_eq (tgt := 150) hx hb dX5_readTenant_120 (by decide) (fun c106 => ?_) (fun c106 => ?_)
            · have i107 : iv r49 0 0 := iv_eq1 c106 i_r49 kc_0
              exact J150 M50 N51 H locs ls hI hl ((k0_114).trans (z_M50 a1 4 2 g_a1 rfl).symm)
            · have i108 : iv r49 1 1 := iv_neL c106 i_r49 (by decide) (by decide)
              refine lv_aload_n hx hb dX5_readTenant_123 rfl (lv_at hl 0 rfl) ?_
              refine lv_bipush (v := 9) hx hb dX5_readTenant_124 (by decide) ?_
              refine h_goi hI (by decide) (va_runV (As := [.int (9 : Int32)]) (rest := []) ⟨hx, hb, hml, hown, hts⟩ (h_readNumber_X5 l D g σ Z hZ0 M50 N51 R a g_a (9 : Int32)) (cwV 1 hts gX5_readTenant_X5_readNumber rfl rfl rfl (by decide +kernel) ⟨Nat.le_of_ble_eq_true rfl, Nat.le_of_ble_eq_true rfl⟩) (h_preV hZ0 hK hE hI g_a (by decide) rfl) rfl rfl hl.1 rfl (lv_room (Nat.le_of_ble_eq_true rfl)) dX5_readTenant_126 ⟨Nat.le_of_ble_eq_true rfl, Nat.le_of_ble_eq_true rfl⟩) (fun r109 M110 N111 R112 H locs q113 z_M110 hI => ?_)
              obtain ⟨rfl, i_r109⟩ := q113
              refine lv_if_ne (tgt := 134) hx hb dX5_readTenant_129 (by decide) (fun c114 => ?_) (fun c114 => ?_)
              · have i115 : iv r109 1 1 := iv_neL c114 i_r109 (by decide) (by decide)
                refine lv_aload_n hx hb dX5_readTenant_134 rfl (lv_at hl 0 rfl) ?_
                refine h_getr hx hb hts iX5_readTenant_X5 hown hK hI g_a (by decide) rfl rfl 0 (by decide) rfl 4 rfl (hts (.fieldLink RX5 12 "CatLeases$Reader" "mews" "LCatLeases$Mews;") (List.mem_of_getElem? (i := 1) rfl)) (fun _ h9 => h9) dX5_readTenant_135 (fun a116 e_a116 g_a116 => ?_)
                have q117 : a1 = a116 := (e_a1).trans e_a116.symm
                subst q117
                refine h_getr hx hb hts iX5_readTenant_X4 hown hK hI g_a1 (by decide) rfl rfl 8 (by decide) rfl 7 rfl (hts (.fieldLink RX5 100 "CatLeases$Mews" "told" "LCatLeases$State;") (List.mem_of_getElem? (i := 4) rfl)) (fun _ h9 => h9) dX5_readTenant_138 (fun a118 e_a118 g_a118 => ?_)
                have q119 : a36 = a118 := (e_a36).trans e_a118.symm
                subst q119
                refine h_getr hx hb hts iX5_readTenant_X7 hown hK hI g_a36 (by decide) rfl rfl 4 (by decide) rfl 14 rfl (hts (.fieldLink RX5 188 "CatLeases$State" "fidgets" "[I") (List.mem_of_getElem? (i := 8) rfl)) (fun _ h9 => h9) dX5_readTenant_141 (fun a120 e_a120 g_a120 => ?_)
                refine lv_iload_n hx hb dX5_readTenant_144 rfl (lv_at hl 1 rfl) ?_
                refine lv_aload_n hx hb dX5_readTenant_145 rfl (lv_at hl 0 rfl) ?_
                refine h_geti (lo := (-2147483648)) (hi := 2147483647) hx hb hts iX5_readTenant_X5 hown hK hI g_a (by decide) rfl rfl 13 (by decide) rfl rfl (hts (.fieldLink RX5 57 "CatLeases$Reader" "number" "I") (List.mem_of_getElem? (i := 6) rfl)) (fun _ h9 => h9) dX5_readTenant_146 (fun v121 e_v121 i_v121 => ?_)
                refine h_iast (j := v2.toNatClampNeg) hx hb hK hI g_a120 (by decide) rfl (iv_in (n := 7) i4 (by decide) (by decide)) rfl (iv_any _) rfl dX5_readTenant_149 (fun M122 H locs e_M122 hI => ?_)
                exact J150 M122 N111 H locs ls hI hl ((((k0_114).trans (z_M50 a1 4 2 g_a1 rfl).symm).trans (z_M110 a1 4 2 g_a1 rfl).symm).trans (u2_st (a := a1) (k := 2) e_M122 (u2_a (so_ne g_a1 g_a120 (by decide)))).symm)
              · have i123 : iv r109 0 0 := iv_eq1 c114 i_r109 kc_0
                refine lv_iconst (v := 0) hx hb dX5_readTenant_132 (by decide) ?_
                exact h_iret hQ hx hb hr hlocks rfl hK hI ⟨rfl, (iv_w (lo' := 0) (hi' := 1) kc_0 (by decide) (by decide))⟩ dX5_readTenant_133
          refine lv_if_eq (tgt := 114) hx hb dX5_readTenant_87 (by decide) (fun c124 => ?_) (fun c124 => ?_)
          · have i125 : iv r44 0 0 := iv_eq1 c124 i_r44 kc_0
            exact J114 M45 N46 H locs ls hI (lv_sub hl [1, 0] rfl) ((((((((e_v2).trans (z_M6 a1 4 2 g_a1 rfl).symm).trans (z_M12 a1 4 2 g_a1 rfl).symm).trans (z_M20 a1 4 2 g_a1 rfl).symm).trans (z_M28 a1 4 2 g_a1 rfl).symm).trans (u2_st (a := a1) (k := 2) e_M39 (u2_a (so_ne g_a1 g_a37 (by decide)))).symm).trans (u2_st (a := a1) (k := 2) e_M43 (u2_a (so_ne g_a1 g_a42 (by decide)))).symm).trans (z_M45 a1 4 2 g_a1 rfl).symm)
          · have i126 : iv r44 1 1 := iv_neL c124 i_r44 (by decide) (by decide)
            refine lv_aload_n hx hb dX5_readTenant_90 rfl (lv_at hl 1 rfl) ?_
            refine lv_bipush (v := 9) hx hb dX5_readTenant_91 (by decide) ?_
            refine h_goi hI (by decide) (va_runV (As := [.int (9 : Int32)]) (rest := []) ⟨hx, hb, hml, hown, hts⟩ (h_readNumber_X5 l D g σ Z hZ0 M45 N46 R a g_a (9 : Int32)) (cwV 1 hts gX5_readTenant_X5_readNumber rfl rfl rfl (by decide +kernel) ⟨Nat.le_of_ble_eq_true rfl, Nat.le_of_ble_eq_true rfl⟩) (h_preV hZ0 hK hE hI g_a (by decide) rfl) rfl rfl hl.1 rfl (lv_room (Nat.le_of_ble_eq_true rfl)) dX5_readTenant_93 ⟨Nat.le_of_ble_eq_true rfl, Nat.le_of_ble_eq_true rfl⟩) (fun r127 M128 N129 R130 H locs q131 z_M128 hI => ?_)
            obtain ⟨rfl, i_r127⟩ := q131
            refine lv_if_ne (tgt := 101) hx hb dX5_readTenant_96 (by decide) (fun c132 => ?_) (fun c132 => ?_)
            · have i133 : iv r127 1 1 := iv_neL c132 i_r127 (by decide) (by decide)
              refine lv_aload_n hx hb dX5_readTenant_101 rfl (lv_at hl 1 rfl) ?_
              refine h_getr hx hb hts iX5_readTenant_X5 hown hK hI g_a (by decide) rfl rfl 0 (by decide) rfl 4 rfl (hts (.fieldLink RX5 12 "CatLeases$Reader" "mews" "LCatLeases$Mews;") (List.mem_of_getElem? (i := 1) rfl)) (fun _ h9 => h9) dX5_readTenant_102 (fun a134 e_a134 g_a134 => ?_)
              have q135 : a1 = a134 := (e_a1).trans e_a134.symm
              subst q135
              refine h_getr hx hb hts iX5_readTenant_X4 hown hK hI g_a1 (by decide) rfl rfl 7 (by decide) rfl 14 rfl (hts (.fieldLink RX5 185 "CatLeases$Mews" "warmths" "[I") (List.mem_of_getElem? (i := 7) rfl)) (fun _ h9 => h9) dX5_readTenant_105 (fun a136 e_a136 g_a136 => ?_)
              have q137 : a42 = a136 := (e_a42).trans e_a136.symm
              subst q137
              refine lv_iload_n hx hb dX5_readTenant_108 rfl (lv_at hl 0 rfl) ?_
              refine lv_aload_n hx hb dX5_readTenant_109 rfl (lv_at hl 1 rfl) ?_
              refine h_geti (lo := (-2147483648)) (hi := 2147483647) hx hb hts iX5_readTenant_X5 hown hK hI g_a (by decide) rfl rfl 13 (by decide) rfl rfl (hts (.fieldLink RX5 57 "CatLeases$Reader" "number" "I") (List.mem_of_getElem? (i := 6) rfl)) (fun _ h9 => h9) dX5_readTenant_110 (fun v138 e_v138 i_v138 => ?_)
              refine h_iast (j := v2.toNatClampNeg) hx hb hK hI g_a42 (by decide) rfl (iv_in (n := 7) i4 (by decide) (by decide)) rfl (iv_any _) rfl dX5_readTenant_113 (fun M139 H locs e_M139 hI => ?_)
              exact J114 M139 N129 H locs ls hI (lv_sub hl [1, 0] rfl) ((((((((((e_v2).trans (z_M6 a1 4 2 g_a1 rfl).symm).trans (z_M12 a1 4 2 g_a1 rfl).symm).trans (z_M20 a1 4 2 g_a1 rfl).symm).trans (z_M28 a1 4 2 g_a1 rfl).symm).trans (u2_st (a := a1) (k := 2) e_M39 (u2_a (so_ne g_a1 g_a37 (by decide)))).symm).trans (u2_st (a := a1) (k := 2) e_M43 (u2_a (so_ne g_a1 g_a42 (by decide)))).symm).trans (z_M45 a1 4 2 g_a1 rfl).symm).trans (z_M128 a1 4 2 g_a1 rfl).symm).trans (u2_st (a := a1) (k := 2) e_M139 (u2_a (so_ne g_a1 g_a42 (by decide)))).symm)
            · have i140 : iv r127 0 0 := iv_eq1 c132 i_r127 kc_0
              refine lv_iconst (v := 0) hx hb dX5_readTenant_99 (by decide) ?_
              exact h_iret hQ hx hb hr hlocks rfl hK hI ⟨rfl, (iv_w (lo' := 0) (hi' := 1) kc_0 (by decide) (by decide))⟩ dX5_readTenant_100
        · have i141 : iv r27 0 0 := iv_eq1 c32 i_r27 kc_0
          refine lv_iconst (v := 0) hx hb dX5_readTenant_53 (by decide) ?_
          exact h_iret hQ hx hb hr hlocks rfl hK hI ⟨rfl, (iv_w (lo' := 0) (hi' := 1) kc_0 (by decide) (by decide))⟩ dX5_readTenant_54
  · have i142 : iv v2 7 7 := iv_nlt1 c3 i_v2 kc_7 (by decide)
    refine lv_aload_n hx hb dX5_readTenant_14 rfl (lv_at hl 1 rfl) ?_
    refine h_goi hI (by decide) (va_runV (As := []) (rest := []) ⟨hx, hb, hml, hown, hts⟩ (h_refuse_X5 l D g σ Z hZ0 M N R a g_a) (cwV 0 hts gX5_readTenant_X5_refuse rfl rfl rfl (by decide +kernel) ⟨Nat.le_of_ble_eq_true rfl, Nat.le_of_ble_eq_true rfl⟩) (h_preV hZ0 hK hE hI g_a (by decide) rfl) rfl rfl hl.1 rfl (lv_room (Nat.le_of_ble_eq_true rfl)) dX5_readTenant_15 ⟨Nat.le_of_ble_eq_true rfl, Nat.le_of_ble_eq_true rfl⟩) (fun r143 M144 N145 R146 H locs q147 z_M144 hI => ?_)
    obtain ⟨rfl, rfl, i_r143⟩ := q147
    exact h_iret hQ hx hb hr hlocks (nar_z (iv_w (lo' := 0) (hi' := 1) i_r143 (by decide) (by decide))) hK hI ⟨rfl, (iv_w (lo' := 0) (hi' := 1) i_r143 (by decide) (by decide))⟩ dX5_readTenant_18
abbrev e_h_readParentheses_7 : List (Nat × Nat) := [(5, 1), (5, 2)]
set_option maxHeartbeats 4000000 in
set_option maxRecDepth 100000 in
theorem h_readParentheses_7 (l : Launch) (D : va_G) (g : Nat → ClassId) (σ : Nat → Option Nat) (Z : State → Heap → Prop) (hZ0 : hZ σ Z) (M : hM) (N : hN) (R : hR) (a : Nat) (g_a : σ a = some 5) (p1 : Int32) (h_p1 : iv p1 7 7) : Met l yX5_readParentheses wsX5_readParentheses ({ frames := 2, cells := 0, slots := 0, locals := 42 }) (va_Pc [.ref a, .int p1] (hPre D g σ Z M N R)) (hQi D g σ e_h_readParentheses_7 M (fun (r : Int32) (M1 : hM) (N1 : hN) (R1 : hR) => N = N1 ∧ R = R1 ∧ iv r 0 0)) 0 0 (hA σ) := by
  refine h_head (cc := cX5_readParentheses) (maxL := 2) (ret := (some .boolean)) (by decide) rfl (Nat.le_of_ble_eq_true rfl) e_h_readParentheses_7 ?_
  intro p e s m below meth c ls Q ar hQ hx hb hr hlocks hml hown hts hK hE H locs hI hl
  have hown : s.vm.findClass RX5 = some m.cls := hown
  have hl : lv_has ls 2 [(0, .ref a), (1, .int p1)] := hl
  refine lv_iload_n hx hb dX5_readParentheses_0 rfl (lv_at hl 1 rfl) ?_
  refine lv_bipush (v := 7) hx hb dX5_readParentheses_1 (by decide) ?_
  refine lv_icmp_lt (tgt := 11) hx hb dX5_readParentheses_3 (by decide) (fun c1 => ?_) (fun c1 => ?_)
  · exfalso; have h8 := h_p1; have h9 := kc_7; simp only [iv] at h8 h9; rw [Int32.lt_iff_toInt_lt] at c1; omega
  · refine lv_aload_n hx hb dX5_readParentheses_6 rfl (lv_at hl 0 rfl) ?_
    refine h_goi hI (by decide) (va_runV (As := []) (rest := []) ⟨hx, hb, hml, hown, hts⟩ (h_refuse_X5 l D g σ Z hZ0 M N R a g_a) (cwV 0 hts gX5_readParentheses_X5_refuse rfl rfl rfl (by decide +kernel) ⟨Nat.le_of_ble_eq_true rfl, Nat.le_of_ble_eq_true rfl⟩) (h_preV hZ0 hK hE hI g_a (by decide) rfl) rfl rfl hl.1 rfl (lv_room (Nat.le_of_ble_eq_true rfl)) dX5_readParentheses_7 ⟨Nat.le_of_ble_eq_true rfl, Nat.le_of_ble_eq_true rfl⟩) (fun r2 M3 N4 R5 H locs q6 z_M3 hI => ?_)
    obtain ⟨rfl, rfl, i_r2⟩ := q6
    exact h_iret hQ hx hb hr hlocks (nar_z (iv_w (lo' := 0) (hi' := 1) i_r2 (by decide) (by decide))) hK hI ⟨rfl, rfl, i_r2⟩ dX5_readParentheses_10
abbrev e_h_readUnit_7 : List (Nat × Nat) := [(2, 2), (4, 4), (5, 1), (5, 2), (5, 10), (5, 11), (5, 12), (5, 13), (17, 999)]
set_option maxHeartbeats 4000000 in
set_option maxRecDepth 100000 in
theorem h_readUnit_7 (l : Launch) (D : va_G) (g : Nat → ClassId) (σ : Nat → Option Nat) (Z : State → Heap → Prop) (hZ0 : hZ σ Z) (M : hM) (N : hN) (R : hR) (a : Nat) (g_a : σ a = some 5) (p1 : Int32) (h_p1 : iv p1 7 7) : Met l yX5_readUnit wsX5_readUnit ({ frames := 5, cells := 0, slots := 0, locals := 112 }) (va_Pc [.ref a, .int p1] (hPre D g σ Z M N R)) (hQi D g σ e_h_readUnit_7 M (fun (r : Int32) (M1 : hM) (N1 : hN) (R1 : hR) => R = R1 ∧ iv r 0 1)) 0 0 (hA σ) := by
  refine h_head (cc := cX5_readUnit) (maxL := 3) (ret := (some .boolean)) (by decide) rfl (Nat.le_of_ble_eq_true rfl) e_h_readUnit_7 ?_
  intro p e s m below meth c ls Q ar hQ hx hb hr hlocks hml hown hts hK hE H locs hI hl
  have hown : s.vm.findClass RX5 = some m.cls := hown
  have hl : lv_has ls 3 [(0, .ref a), (1, .int p1)] := hl
  refine lv_aload_n hx hb dX5_readUnit_0 rfl (lv_at hl 0 rfl) ?_
  refine h_getr hx hb hts iX5_readUnit_X5 hown hK hI g_a (by decide) rfl rfl 0 (by decide) rfl 4 rfl (hts (.fieldLink RX5 12 "CatLeases$Reader" "mews" "LCatLeases$Mews;") (List.mem_of_getElem? (i := 1) rfl)) (fun _ h9 => h9) dX5_readUnit_1 (fun a1 e_a1 g_a1 => ?_)
  refine h_geti (lo := (-2147483648)) (hi := 2147483647) hx hb hts iX5_readUnit_X4 hown hK hI g_a1 (by decide) rfl rfl 4 (by decide) rfl rfl (hts (.fieldLink RX5 237 "CatLeases$Mews" "units" "I") (List.mem_of_getElem? (i := 2) rfl)) (fun _ h9 => h9) dX5_readUnit_4 (fun v2 e_v2 i_v2 => ?_)
  refine lv_bipush (v := 30) hx hb dX5_readUnit_7 (by decide) ?_
  refine lv_icmp_lt (tgt := 17) hx hb dX5_readUnit_9 (by decide) (fun c3 => ?_) (fun c3 => ?_)
  · have i4 : iv v2 (-2147483648) 29 := iv_lt1 c3 i_v2 kc_30 (by decide)
    refine lv_aload_n hx hb dX5_readUnit_17 rfl (lv_at hl 0 rfl) ?_
    refine h_geti (lo := (-2147483648)) (hi := 2147483647) hx hb hts iX5_readUnit_X5 hown hK hI g_a (by decide) rfl rfl 12 (by decide) rfl rfl (hts (.fieldLink RX5 54 "CatLeases$Reader" "kind" "I") (List.mem_of_getElem? (i := 3) rfl)) (fun _ h9 => h9) dX5_readUnit_18 (fun v5 e_v5 i_v5 => ?_)
    refine lv_bipush (v := 40) hx hb dX5_readUnit_21 (by decide) ?_
    refine lv_icmp_ne (tgt := 32) hx hb dX5_readUnit_23 (by decide) (fun c6 => ?_) (fun c6 => ?_)
    · refine lv_aload_n hx hb dX5_readUnit_32 rfl (lv_at hl 0 rfl) ?_
      refine h_geti (lo := (-2147483648)) (hi := 2147483647) hx hb hts iX5_readUnit_X5 hown hK hI g_a (by decide) rfl rfl 12 (by decide) rfl rfl (hts (.fieldLink RX5 54 "CatLeases$Reader" "kind" "I") (List.mem_of_getElem? (i := 3) rfl)) (fun _ h9 => h9) dX5_readUnit_33 (fun v7 e_v7 i_v7 => ?_)
      have q8 : v5 = v7 := (e_v5).trans e_v7.symm
      subst q8
      refine h_goi hI (by decide) (va_runS (As := [.int v5]) (rest := []) ⟨hx, hb, hml, hown, hts⟩ (h_termOf_X5 l D g σ Z hZ0 M N R v5) (va_cwS 1 hts gX5_readUnit_X5_termOf rfl rfl rfl (by decide +kernel) ⟨Nat.le_of_ble_eq_true rfl, Nat.le_of_ble_eq_true rfl⟩) (h_preS hZ0 hK hE hI) rfl rfl hl.1 rfl (lv_room (Nat.le_of_ble_eq_true rfl)) dX5_readUnit_36 ⟨Nat.le_of_ble_eq_true rfl, Nat.le_of_ble_eq_true rfl⟩) (fun r9 M10 N11 R12 H locs q13 z_M10 hI => ?_)
      obtain ⟨rfl, rfl, rfl, i_r9⟩ := q13
      refine lv_istore_n (lv' := [(2, .int r9), (0, .ref a), (1, .int p1)]) hx hb dX5_readUnit_39 rfl hl (by decide) rfl (fun ls hl => ?_)
      refine lv_iload_n hx hb dX5_readUnit_40 rfl (lv_at hl 0 rfl) ?_
      refine lv_iconst (v := (-1)) hx hb dX5_readUnit_41 (by decide) ?_
      have J91 : ∀ (M_91 : hM) (H : Heap) (locs : List Loc) (ls : Array Slot), kI D g σ e_h_readUnit_7 M s.heap M_91 N R H locs → lv_has ls 3 [(0, .ref a)] → v5 = M_91 a 12 → v2 = M_91 a1 4 → W p l e (headSpec wsX5_readUnit ({ frames := 5, cells := 0, slots := 0, locals := 112 })).room s m ar below meth c H locs 0 0 Q (F0 m 91 ls []) := by
        intro M_91 H locs ls hI hl k0_91 k1_91
        refine lv_aload_n hx hb dX5_readUnit_91 rfl (lv_at hl 0 rfl) ?_
        refine h_getr hx hb hts iX5_readUnit_X5 hown hK hI g_a (by decide) rfl rfl 0 (by decide) rfl 4 rfl (hts (.fieldLink RX5 12 "CatLeases$Reader" "mews" "LCatLeases$Mews;") (List.mem_of_getElem? (i := 1) rfl)) (fun _ h9 => h9) dX5_readUnit_92 (fun a14 e_a14 g_a14 => ?_)
        have q15 : a1 = a14 := (e_a1).trans e_a14.symm
        subst q15
        refine lv_dup hx hb dX5_readUnit_95 rfl ?_
        refine h_geti (lo := (-2147483648)) (hi := 2147483647) hx hb hts iX5_readUnit_X4 hown hK hI g_a1 (by decide) rfl rfl 4 (by decide) rfl rfl (hts (.fieldLink RX5 237 "CatLeases$Mews" "units" "I") (List.mem_of_getElem? (i := 2) rfl)) (fun _ h9 => h9) dX5_readUnit_96 (fun v16 e_v16 i_v16 => ?_)
        have q17 : v2 = v16 := (k1_91).trans e_v16.symm
        subst q17
        refine lv_iconst (v := 1) hx hb dX5_readUnit_99 (by decide) ?_
        refine lv_iadd hx hb dX5_readUnit_100 ?_
        refine h_nm (lo := (-2147483647)) (hi := 30) (iv_add i4 kc_1 (by decide) (by decide) (by decide) (by decide)) (fun v18 e_v18 i_v18 => ?_)
        refine h_puti hx hb hts iX5_readUnit_X4 tyX4 tyX4_ok nmX4 hown hK hI g_a1 (by decide) rfl rfl 4 (by decide) rfl (hts (.fieldLink RX5 237 "CatLeases$Mews" "units" "I") (List.mem_of_getElem? (i := 2) rfl)) (fun _ h9 => h9) rfl .int (by decide +kernel) rfl rfl (iv_w (lo' := (-2147483648)) (hi' := 2147483647) i_v18 (by decide) (by decide)) rfl dX5_readUnit_101 (fun M19 H locs e_M19 hI => ?_)
        refine lv_aload_n hx hb dX5_readUnit_104 rfl (lv_at hl 0 rfl) ?_
        refine h_gov hI (by decide) (va_runV (As := []) (rest := []) ⟨hx, hb, hml, hown, hts⟩ (h_advance_X5 l D g σ Z hZ0 M19 N R a g_a) (cwV 0 hts gX5_readUnit_X5_advance rfl rfl rfl (by decide +kernel) ⟨Nat.le_of_ble_eq_true rfl, Nat.le_of_ble_eq_true rfl⟩) (h_preV hZ0 hK hE hI g_a (by decide) rfl) rfl rfl hl.1 rfl (lv_room (Nat.le_of_ble_eq_true rfl)) dX5_readUnit_105 ⟨Nat.le_of_ble_eq_true rfl, Nat.le_of_ble_eq_true rfl⟩) (fun M21 N22 R23 H locs q24 z_M21 hI => ?_)
        subst q24
        refine lv_iconst (v := 1) hx hb dX5_readUnit_108 (by decide) ?_
        exact h_iret hQ hx hb hr hlocks rfl hK hI ⟨rfl, (iv_w (lo' := 0) (hi' := 1) kc_1 (by decide) (by decide))⟩ dX5_readUnit_109
      refine lv_icmp_eq (tgt := 59) hx hb dX5_readUnit_42 (by decide) (fun c25 => ?_) (fun c25 => ?_)
      · have i26 : iv r9 (-1) (-1) := iv_eq1 c25 i_r9 kc_m1
        refine lv_aload_n hx hb dX5_readUnit_59 rfl (lv_at hl 1 rfl) ?_
        refine h_geti (lo := (-2147483648)) (hi := 2147483647) hx hb hts iX5_readUnit_X5 hown hK hI g_a (by decide) rfl rfl 12 (by decide) rfl rfl (hts (.fieldLink RX5 54 "CatLeases$Reader" "kind" "I") (List.mem_of_getElem? (i := 3) rfl)) (fun _ h9 => h9) dX5_readUnit_60 (fun v27 e_v27 i_v27 => ?_)
        have q28 : v5 = v27 := (e_v5).trans e_v27.symm
        subst q28
        refine lv_sipush (v := 257) hx hb dX5_readUnit_63 (by decide) ?_
        refine lv_icmp_ne (tgt := 86) hx hb dX5_readUnit_66 (by decide) (fun c29 => ?_) (fun c29 => ?_)
        · refine lv_aload_n hx hb dX5_readUnit_86 rfl (lv_at hl 1 rfl) ?_
          refine h_goi hI (by decide) (va_runV (As := []) (rest := []) ⟨hx, hb, hml, hown, hts⟩ (h_refuse_X5 l D g σ Z hZ0 M N R a g_a) (cwV 0 hts gX5_readUnit_X5_refuse rfl rfl rfl (by decide +kernel) ⟨Nat.le_of_ble_eq_true rfl, Nat.le_of_ble_eq_true rfl⟩) (h_preV hZ0 hK hE hI g_a (by decide) rfl) rfl rfl hl.1 rfl (lv_room (Nat.le_of_ble_eq_true rfl)) dX5_readUnit_87 ⟨Nat.le_of_ble_eq_true rfl, Nat.le_of_ble_eq_true rfl⟩) (fun r30 M31 N32 R33 H locs q34 z_M31 hI => ?_)
          obtain ⟨rfl, rfl, i_r30⟩ := q34
          exact h_iret hQ hx hb hr hlocks (nar_z (iv_w (lo' := 0) (hi' := 1) i_r30 (by decide) (by decide))) hK hI ⟨rfl, (iv_w (lo' := 0) (hi' := 1) i_r30 (by decide) (by decide))⟩ dX5_readUnit_90
        · have i35 : iv v5 257 257 := iv_eq1 c29 i_v5 kc_257
          refine lv_aload_n hx hb dX5_readUnit_69 rfl (lv_at hl 1 rfl) ?_
          refine h_getr hx hb hts iX5_readUnit_X5 hown hK hI g_a (by decide) rfl rfl 0 (by decide) rfl 4 rfl (hts (.fieldLink RX5 12 "CatLeases$Reader" "mews" "LCatLeases$Mews;") (List.mem_of_getElem? (i := 1) rfl)) (fun _ h9 => h9) dX5_readUnit_70 (fun a36 e_a36 g_a36 => ?_)
          have q37 : a1 = a36 := (e_a1).trans e_a36.symm
          subst q37
          refine h_getr hx hb hts iX5_readUnit_X4 hown hK hI g_a1 (by decide) rfl rfl 9 (by decide) rfl 2 rfl (hts (.fieldLink RX5 112 "CatLeases$Mews" "formula" "LCatLeases$Formula;") (List.mem_of_getElem? (i := 4) rfl)) (fun _ h9 => h9) dX5_readUnit_73 (fun a38 e_a38 g_a38 => ?_)
          refine lv_aload_n hx hb dX5_readUnit_76 rfl (lv_at hl 1 rfl) ?_
          refine h_geti (lo := (-2147483648)) (hi := 2147483647) hx hb hts iX5_readUnit_X5 hown hK hI g_a (by decide) rfl rfl 13 (by decide) rfl rfl (hts (.fieldLink RX5 57 "CatLeases$Reader" "number" "I") (List.mem_of_getElem? (i := 5) rfl)) (fun _ h9 => h9) dX5_readUnit_77 (fun v39 e_v39 i_v39 => ?_)
          refine h_gov hI (by decide) (va_runV (As := [.int v39]) (rest := []) ⟨hx, hb, hml, hown, hts⟩ (h_addNumber_X2 l D g σ Z hZ0 M N R a38 g_a38 v39) (cwV 1 hts gX5_readUnit_X2_addNumber rfl rfl rfl (by decide +kernel) ⟨Nat.le_of_ble_eq_true rfl, Nat.le_of_ble_eq_true rfl⟩) (h_preV hZ0 hK hE hI g_a38 (by decide) rfl) rfl rfl hl.1 rfl (lv_room (Nat.le_of_ble_eq_true rfl)) dX5_readUnit_80 ⟨Nat.le_of_ble_eq_true rfl, Nat.le_of_ble_eq_true rfl⟩) (fun M41 N42 R43 H locs q44 z_M41 hI => ?_)
          obtain ⟨rfl, rfl⟩ := q44
          refine lv_goto (tgt := 91) hx hb dX5_readUnit_83 (by decide) ?_
          exact J91 M41 H locs ls hI (lv_sub hl [1] rfl) ((e_v5).trans (z_M41 a 5 12 g_a rfl).symm) ((e_v2).trans (z_M41 a1 4 4 g_a1 rfl).symm)
      · have i45 : iv r9 0 6 := iv_neL c25 i_r9 (by decide) (by decide)
        refine lv_aload_n hx hb dX5_readUnit_45 rfl (lv_at hl 1 rfl) ?_
        refine h_getr hx hb hts iX5_readUnit_X5 hown hK hI g_a (by decide) rfl rfl 0 (by decide) rfl 4 rfl (hts (.fieldLink RX5 12 "CatLeases$Reader" "mews" "LCatLeases$Mews;") (List.mem_of_getElem? (i := 1) rfl)) (fun _ h9 => h9) dX5_readUnit_46 (fun a46 e_a46 g_a46 => ?_)
        have q47 : a1 = a46 := (e_a1).trans e_a46.symm
        subst q47
        refine h_getr hx hb hts iX5_readUnit_X4 hown hK hI g_a1 (by decide) rfl rfl 9 (by decide) rfl 2 rfl (hts (.fieldLink RX5 112 "CatLeases$Mews" "formula" "LCatLeases$Formula;") (List.mem_of_getElem? (i := 4) rfl)) (fun _ h9 => h9) dX5_readUnit_49 (fun a48 e_a48 g_a48 => ?_)
        refine lv_iload_n hx hb dX5_readUnit_52 rfl (lv_at hl 0 rfl) ?_
        refine h_gov hI (by decide) (va_runV (As := [.int r9]) (rest := []) ⟨hx, hb, hml, hown, hts⟩ (h_addTerm_X2 l D g σ Z hZ0 M N R a48 g_a48 r9) (cwV 1 hts gX5_readUnit_X2_addTerm rfl rfl rfl (by decide +kernel) ⟨Nat.le_of_ble_eq_true rfl, Nat.le_of_ble_eq_true rfl⟩) (h_preV hZ0 hK hE hI g_a48 (by decide) rfl) rfl rfl hl.1 rfl (lv_room (Nat.le_of_ble_eq_true rfl)) dX5_readUnit_53 ⟨Nat.le_of_ble_eq_true rfl, Nat.le_of_ble_eq_true rfl⟩) (fun M50 N51 R52 H locs q53 z_M50 hI => ?_)
        obtain ⟨rfl, rfl⟩ := q53
        refine lv_goto (tgt := 91) hx hb dX5_readUnit_56 (by decide) ?_
        exact J91 M50 H locs ls hI (lv_sub hl [1] rfl) ((e_v5).trans (z_M50 a 5 12 g_a rfl).symm) ((e_v2).trans (z_M50 a1 4 4 g_a1 rfl).symm)
    · have i54 : iv v5 40 40 := iv_eq1 c6 i_v5 kc_40
      refine lv_aload_n hx hb dX5_readUnit_26 rfl (lv_at hl 0 rfl) ?_
      refine lv_iload_n hx hb dX5_readUnit_27 rfl (lv_at hl 1 rfl) ?_
      refine h_goi hI (by decide) (va_runV (As := [.int p1]) (rest := []) ⟨hx, hb, hml, hown, hts⟩ (h_readParentheses_7 l D g σ Z hZ0 M N R a g_a p1 h_p1) (cwV 1 hts gX5_readUnit_X5_readParentheses rfl rfl rfl (by decide +kernel) ⟨Nat.le_of_ble_eq_true rfl, Nat.le_of_ble_eq_true rfl⟩) (h_preV hZ0 hK hE hI g_a (by decide) rfl) rfl rfl hl.1 rfl (lv_room (Nat.le_of_ble_eq_true rfl)) dX5_readUnit_28 ⟨Nat.le_of_ble_eq_true rfl, Nat.le_of_ble_eq_true rfl⟩) (fun r55 M56 N57 R58 H locs q59 z_M56 hI => ?_)
      obtain ⟨rfl, rfl, i_r55⟩ := q59
      exact h_iret hQ hx hb hr hlocks (nar_z (iv_w (lo' := 0) (hi' := 1) i_r55 (by decide) (by decide))) hK hI ⟨rfl, (iv_w (lo' := 0) (hi' := 1) i_r55 (by decide) (by decide))⟩ dX5_readUnit_31
  · have i60 : iv v2 30 2147483647 := iv_nlt1 c3 i_v2 kc_30 (by decide)
    refine lv_aload_n hx hb dX5_readUnit_12 rfl (lv_at hl 0 rfl) ?_
    refine h_goi hI (by decide) (va_runV (As := []) (rest := []) ⟨hx, hb, hml, hown, hts⟩ (h_refuse_X5 l D g σ Z hZ0 M N R a g_a) (cwV 0 hts gX5_readUnit_X5_refuse rfl rfl rfl (by decide +kernel) ⟨Nat.le_of_ble_eq_true rfl, Nat.le_of_ble_eq_true rfl⟩) (h_preV hZ0 hK hE hI g_a (by decide) rfl) rfl rfl hl.1 rfl (lv_room (Nat.le_of_ble_eq_true rfl)) dX5_readUnit_13 ⟨Nat.le_of_ble_eq_true rfl, Nat.le_of_ble_eq_true rfl⟩) (fun r61 M62 N63 R64 H locs q65 z_M62 hI => ?_)
    obtain ⟨rfl, rfl, i_r61⟩ := q65
    exact h_iret hQ hx hb hr hlocks (nar_z (iv_w (lo' := 0) (hi' := 1) i_r61 (by decide) (by decide))) hK hI ⟨rfl, (iv_w (lo' := 0) (hi' := 1) i_r61 (by decide) (by decide))⟩ dX5_readUnit_16
