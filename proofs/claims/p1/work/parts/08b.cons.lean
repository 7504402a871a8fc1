set_option maxHeartbeats 4000000 in
set_option maxRecDepth 100000 in
theorem m_keepAct (l : Launch) (D : va_G) (g : Nat → ClassId) (sz : Nat) (y : Nat) (wa : Nat) (al : Nat) (fs_y : List Value) (v_y_undone : Value) (f_wa : Nat → Int32) (f_al : Nat → Int32) (h_y_all : fs_y[45]? = some (.ref al)) (h_y_was : fs_y[49]? = some (.ref wa)) (h_y_acts : fs_y[50]? = some (.int 0)) (h_y_undone : fs_y[51]? = some (v_y_undone)) : Met l yX9_keepAct wsX9_keepAct ({ frames := 0, cells := 0, slots := 0, locals := 0 }) (va_Pc [.ref y] (kPre D g [(y, .inr (9, fs_y)), (wa, .inl (g 1, 1599, .inl f_wa)), (al, .inl (g 1, 39, .inl f_al))] sz)) (kQv D g (fun (u : va_W) => ∃ (fe_wa : Nat → Int32), u = [(y, .inr (9, ((fs_y.set 50 (.int 1)).set 51 (.int 0)))), (wa, .inl (g 1, 1599, .inl fe_wa)), (al, .inl (g 1, 39, .inl f_al))]) (va_A [(y, .inr (9, fs_y)), (wa, .inl (g 1, 1599, .inl f_wa)), (al, .inl (g 1, 39, .inl f_al))] sz)) 0 0 (va_A [(y, .inr (9, fs_y)), (wa, .inl (g 1, 1599, .inl f_wa)), (al, .inl (g 1, 39, .inl f_al))] sz) := by
  refine k_head (cc := cX9_keepAct) (maxL := 2) (ret := none) (by decide) rfl (Nat.le_of_ble_eq_true rfl) ?_
  intro p e s m below meth c ls A hx hb hr hlocks hml hown hin hts hA hP hK hD hS hl
  have hown : s.vm.findClass RX9 = some m.cls := hown
  have hl : lv_has ls 2 [(0, .ref y)] := hl
  refine lv_aload_n hx hb dX9_keepAct_0 rfl (lv_at hl 0 rfl) ?_
  refine va_get (D := D) (ci := 9) (v := .int 0) (C := RX9) (T := TX9) (N := 67) hx hb hts iX9_keepAct_X9 hown hK hP 0 rfl rfl 50 (by decide) (hts (.fieldLink RX9 398 "CatLeasesModel" "acts" "I") (List.mem_of_getElem? (i := 1) rfl)) (fun _ h9 => h9) h_y_acts dX9_keepAct_1 ?_
  refine lv_bipush (v := 40) hx hb dX9_keepAct_4 (by decide) ?_
  refine lv_icmp_ne (tgt := 49) hx hb dX9_keepAct_6 (by decide) (fun _ => ?_) (fun c9 => absurd c9 (by first | decide | simp))
  refine lv_iconst (v := 0) hx hb dX9_keepAct_49 (by decide) ?_
  refine lv_istore_n (lv' := [(1, .int 0), (0, .ref y)]) hx hb dX9_keepAct_50 rfl hl (by decide) rfl (fun ls hl => ?_)
  have hloop_6 : ∀ (n_2 i_1 : Nat) (f_3 : Nat → Int32), i_1 ≤ 39 → 39 < i_1 + n_2 → ∀ (H : Heap) (locs : List Loc) (ls : Array Slot), va_P D vwCl [(y, .inr (9, fs_y)), (wa, .inl (g 1, 1599, .inl f_3)), (al, .inl (g 1, 39, .inl f_al))] H → va_D A [(y, .inr (9, fs_y)), (wa, .inl (g 1, 1599, .inl f_3)), (al, .inl (g 1, 39, .inl f_al))] → va_S A s.heap H locs → lv_has ls 2 [(1, .int (nI i_1)), (0, .ref y)] → W p l e _ s m _ below meth c H locs 0 0 _ (F0 m 51 ls []) := by
    intro n_2
    induction n_2 with
    | zero =>
      intro i_1 f_3 h_4 h_5
      exact absurd h_5 (by omega)
    | succ n_2 ih =>
      intro i_1 f_3 h_4 h_5  H locs ls hP hD hS hl
      refine lv_iload_n hx hb dX9_keepAct_51 rfl (lv_at hl 0 rfl) ?_
      refine lv_bipush (v := 39) hx hb dX9_keepAct_52 (by decide) ?_
      refine lv_icmp_ge (tgt := 83) hx hb dX9_keepAct_54 (by decide) (fun c_7 => ?_) (fun c_7 => ?_)
      · have h_8 := k_ge1 (N := 39) rfl h_4 (by decide) c_7
        subst h_8
        refine lv_aload_n hx hb dX9_keepAct_83 rfl (lv_at hl 1 rfl) ?_
        refine lv_dup hx hb dX9_keepAct_84 rfl ?_
        refine va_get (D := D) (ci := 9) (v := .int 0) (C := RX9) (T := TX9) (N := 67) hx hb hts iX9_keepAct_X9 hown hK hP 0 rfl rfl 50 (by decide) (hts (.fieldLink RX9 398 "CatLeasesModel" "acts" "I") (List.mem_of_getElem? (i := 1) rfl)) (fun _ h9 => h9) h_y_acts dX9_keepAct_85 ?_
        refine lv_iconst (v := 1) hx hb dX9_keepAct_88 (by decide) ?_
        refine lv_iadd hx hb dX9_keepAct_89 ?_
        refine k_top (v := 1) (by decide) ?_
        refine va_put (D := D) (ci := 9) (v := .int 1) (ty := .int) (C := RX9) (T := TX9) (N := 67) hx hb hts iX9_keepAct_X9 tyX9 tyX9_ok nmX9 hown hK hP hD hS 0 rfl rfl 50 (by decide) (hts (.fieldLink RX9 398 "CatLeasesModel" "acts" "I") (List.mem_of_getElem? (i := 1) rfl)) (fun _ h9 => h9) rfl (by decide +kernel) rfl rfl ((k_len h_y_acts)) dX9_keepAct_90 (fun H locs hP hD hS => ?_)
        have hP : va_P D vwCl [(y, .inr (9, (fs_y.set 50 (.int 1)))), (wa, .inl (g 1, 1599, .inl f_3)), (al, .inl (g 1, 39, .inl f_al))] H := hP
        have hD : va_D A [(y, .inr (9, (fs_y.set 50 (.int 1)))), (wa, .inl (g 1, 1599, .inl f_3)), (al, .inl (g 1, 39, .inl f_al))] := hD
        refine lv_aload_n hx hb dX9_keepAct_93 rfl (lv_at hl 1 rfl) ?_
        refine lv_iconst (v := 0) hx hb dX9_keepAct_94 (by decide) ?_
        refine va_put (D := D) (ci := 9) (v := .int 0) (ty := .int) (C := RX9) (T := TX9) (N := 67) hx hb hts iX9_keepAct_X9 tyX9 tyX9_ok nmX9 hown hK hP hD hS 0 rfl rfl 51 (by decide) (hts (.fieldLink RX9 401 "CatLeasesModel" "undone" "I") (List.mem_of_getElem? (i := 4) rfl)) (fun _ h9 => h9) rfl (by decide +kernel) rfl rfl ((k_len (k_sn (by decide) h_y_undone))) dX9_keepAct_95 (fun H locs hP hD hS => ?_)
        have hP : va_P D vwCl [(y, .inr (9, ((fs_y.set 50 (.int 1)).set 51 (.int 0)))), (wa, .inl (g 1, 1599, .inl f_3)), (al, .inl (g 1, 39, .inl f_al))] H := hP
        have hD : va_D A [(y, .inr (9, ((fs_y.set 50 (.int 1)).set 51 (.int 0)))), (wa, .inl (g 1, 1599, .inl f_3)), (al, .inl (g 1, 39, .inl f_al))] := hD
        exact k_vret hx hb hr hlocks hK hP hD hS ⟨f_3, rfl⟩ dX9_keepAct_98
      · have h_8 : i_1 < 39 := k_ge2 (N := 39) rfl h_4 (by decide) c_7
        refine lv_aload_n hx hb dX9_keepAct_57 rfl (lv_at hl 1 rfl) ?_
        refine va_get (D := D) (ci := 9) (v := .ref wa) (C := RX9) (T := TX9) (N := 67) hx hb hts iX9_keepAct_X9 hown hK hP 0 rfl rfl 49 (by decide) (hts (.fieldLink RX9 106 "CatLeasesModel" "was" "[I") (List.mem_of_getElem? (i := 2) rfl)) (fun _ h9 => h9) h_y_was dX9_keepAct_58 ?_
        refine lv_bipush (v := 39) hx hb dX9_keepAct_61 (by decide) ?_
        refine lv_aload_n hx hb dX9_keepAct_63 rfl (lv_at hl 1 rfl) ?_
        refine va_get (D := D) (ci := 9) (v := .int 0) (C := RX9) (T := TX9) (N := 67) hx hb hts iX9_keepAct_X9 hown hK hP 0 rfl rfl 50 (by decide) (hts (.fieldLink RX9 398 "CatLeasesModel" "acts" "I") (List.mem_of_getElem? (i := 1) rfl)) (fun _ h9 => h9) h_y_acts dX9_keepAct_64 ?_
        refine lv_imul hx hb dX9_keepAct_67 ?_
        refine k_top (v := 0) (by decide) ?_
        refine lv_iload_n hx hb dX9_keepAct_68 rfl (lv_at hl 0 rfl) ?_
        refine lv_iadd hx hb dX9_keepAct_69 ?_
        refine k_top (v := nI (0 + i_1)) (nI_add 0 i_1) ?_
        refine lv_aload_n hx hb dX9_keepAct_70 rfl (lv_at hl 1 rfl) ?_
        refine va_get (D := D) (ci := 9) (v := .ref al) (C := RX9) (T := TX9) (N := 67) hx hb hts iX9_keepAct_X9 hown hK hP 0 rfl rfl 45 (by decide) (hts (.fieldLink RX9 94 "CatLeasesModel" "all" "[I") (List.mem_of_getElem? (i := 3) rfl)) (fun _ h9 => h9) h_y_all dX9_keepAct_71 ?_
        refine lv_iload_n hx hb dX9_keepAct_74 rfl (lv_at hl 0 rfl) ?_
        refine va_iald hx hb hK hP 2 1 rfl rfl (vp_in_nI (n := i_1) (N := 39) (by omega) (by decide)) dX9_keepAct_75 ?_
        refine k_top (v := (f_al i_1)) (by rw [nI_clamp (n := i_1) (by omega)]) ?_
        refine va_iast hx hb hK hP hD hS 1 1 rfl rfl (vp_in_nI (n := (0 + i_1)) (N := 1599) (by omega) (by decide)) dX9_keepAct_76 (fun H locs hP hD hS => ?_)
        rw [nI_clamp (n := (0 + i_1)) (by omega)] at hP hD
        have hP : va_P D vwCl [(y, .inr (9, fs_y)), (wa, .inl (g 1, 1599, .inl (upd f_3 (0 + i_1) (f_al i_1)))), (al, .inl (g 1, 39, .inl f_al))] H := hP
        have hD : va_D A [(y, .inr (9, fs_y)), (wa, .inl (g 1, 1599, .inl (upd f_3 (0 + i_1) (f_al i_1)))), (al, .inl (g 1, 39, .inl f_al))] := hD
        refine lv_iinc (v := nI (i_1 + 1)) (lv' := [(1, .int (nI (i_1 + 1))), (0, .ref y)]) hx hb dX9_keepAct_77 hl (k := 0) rfl (k_inc i_1) (by decide) rfl (fun ls hl => ?_)
        refine lv_goto (tgt := 51) hx hb dX9_keepAct_80 (by decide) ?_
        exact ih (i_1 + 1) (upd f_3 (0 + i_1) (f_al i_1)) (by omega) (by omega)  _ _ _ hP hD hS (lv_sub hl [0, 1] rfl)
  exact hloop_6 (39 + 1) 0 f_wa (by omega) (by omega)  _ _ _ hP hD hS hl
set_option maxHeartbeats 4000000 in
set_option maxRecDepth 100000 in
theorem m_goQuarter (l : Launch) (D : va_G) (g : Nat → ClassId) (sz : Nat) (y : Nat) (yt : Nat) (al : Nat) (fs_y : List Value) (f_yt : Nat → Int32) (f_al : Nat → Int32) (h_y_tenants : fs_y[13]? = some (.ref yt)) (h_y_bank : fs_y[35]? = some (.int 0)) (h_y_all : fs_y[45]? = some (.ref al)) (h_yt_at0 : f_yt 0 = 0) (h_al_at36 : f_al 36 = 0) (h_al_at37 : f_al 37 = 0) (h_al_at38 : f_al 38 = 0) : Met l yX9_goQuarter wsX9_goQuarter ({ frames := 2, cells := 0, slots := 0, locals := 42 }) (va_Pc [.ref y] (kPre D g [(y, .inr (9, fs_y)), (yt, .inl (g 1, 2, .inl f_yt)), (al, .inl (g 1, 39, .inl f_al))] sz)) (kQi D g (fun (r : Int32) (u : va_W) => ∃ (fe_al : Nat → Int32), (fe_al 36 = 0) ∧ (fe_al 37 = 1) ∧ (fe_al 38 = 0) ∧ 0 = r ∧ u = [(y, .inr (9, fs_y)), (yt, .inl (g 1, 2, .inl f_yt)), (al, .inl (g 1, 39, .inl fe_al))]) (va_A [(y, .inr (9, fs_y)), (yt, .inl (g 1, 2, .inl f_yt)), (al, .inl (g 1, 39, .inl f_al))] sz)) 0 0 (va_A [(y, .inr (9, fs_y)), (yt, .inl (g 1, 2, .inl f_yt)), (al, .inl (g 1, 39, .inl f_al))] sz) := by
  refine k_head (cc := cX9_goQuarter) (maxL := 3) (ret := (some .int)) (by decide) rfl (Nat.le_of_ble_eq_true rfl) ?_
  intro p e s m below meth c ls A hx hb hr hlocks hml hown hin hts hA hP hK hD hS hl
  have hown : s.vm.findClass RX9 = some m.cls := hown
  have hl : lv_has ls 3 [(0, .ref y)] := hl
  refine lv_aload_n hx hb dX9_goQuarter_0 rfl (lv_at hl 0 rfl) ?_
  refine k_goi (wr := [(al, .inl (g 1, 39, .inl f_al))]) hP hD hS hA [0, 1] [2] rfl rfl (by decide) (by decide) (va_runV (As := []) (rest := []) ⟨hx, hb, hml, hown, hts⟩ (m_thrown l D g _ y yt fs_y f_yt h_y_tenants h_y_bank h_yt_at0) (cwV 0 hts gX9_goQuarter_X9_thrown rfl rfl rfl (by decide +kernel) ⟨Nat.le_of_ble_eq_true rfl, Nat.le_of_ble_eq_true rfl⟩) (k_preV hK (hP.sub [0, 1] rfl) (hD.sub [0, 1] (by decide) rfl) 9 0 rfl rfl) rfl rfl hl.1 rfl (lv_room (Nat.le_of_ble_eq_true rfl)) dX9_goQuarter_1 ⟨Nat.le_of_ble_eq_true rfl, Nat.le_of_ble_eq_true rfl⟩) (fun r_1 u_2 H locs hw hP hD hS => ?_)
  rcases hw with ⟨rfl, rfl⟩
  have hP := hP.sub (ws' := [(y, .inr (9, fs_y)), (yt, .inl (g 1, 2, .inl f_yt)), (al, .inl (g 1, 39, .inl f_al))]) [1, 2, 0] rfl
  have hD := hD.sub (ws' := [(y, .inr (9, fs_y)), (yt, .inl (g 1, 2, .inl f_yt)), (al, .inl (g 1, 39, .inl f_al))]) [1, 2, 0] (by decide) rfl
  refine lv_istore_n (lv' := [(1, .int 0), (0, .ref y)]) hx hb dX9_goQuarter_4 rfl hl (by decide) rfl (fun ls hl => ?_)
  refine lv_iconst (v := 0) hx hb dX9_goQuarter_5 (by decide) ?_
  refine lv_istore_n (lv' := [(2, .int 0), (1, .int 0), (0, .ref y)]) hx hb dX9_goQuarter_6 rfl hl (by decide) rfl (fun ls hl => ?_)
  refine lv_iload_n hx hb dX9_goQuarter_7 rfl (lv_at hl 0 rfl) ?_
  refine lv_aload_n hx hb dX9_goQuarter_8 rfl (lv_at hl 2 rfl) ?_
  refine k_goi (wr := [(al, .inl (g 1, 39, .inl f_al))]) hP hD hS hA [0, 1] [2] rfl rfl (by decide) (by decide) (va_runV (As := []) (rest := [.int 0]) ⟨hx, hb, hml, hown, hts⟩ (m_many l D g _ y yt fs_y f_yt h_y_tenants h_y_bank h_yt_at0) (cwV 0 hts gX9_goQuarter_X9_many rfl rfl rfl (by decide +kernel) ⟨Nat.le_of_ble_eq_true rfl, Nat.le_of_ble_eq_true rfl⟩) (k_preV hK (hP.sub [0, 1] rfl) (hD.sub [0, 1] (by decide) rfl) 9 0 rfl rfl) rfl rfl hl.1 rfl (lv_room (Nat.le_of_ble_eq_true rfl)) dX9_goQuarter_9 ⟨Nat.le_of_ble_eq_true rfl, Nat.le_of_ble_eq_true rfl⟩) (fun r_3 u_4 H locs hw hP hD hS => ?_)
  rcases hw with ⟨rfl, rfl⟩
  have hP := hP.sub (ws' := [(y, .inr (9, fs_y)), (yt, .inl (g 1, 2, .inl f_yt)), (al, .inl (g 1, 39, .inl f_al))]) [1, 2, 0] rfl
  have hD := hD.sub (ws' := [(y, .inr (9, fs_y)), (yt, .inl (g 1, 2, .inl f_yt)), (al, .inl (g 1, 39, .inl f_al))]) [1, 2, 0] (by decide) rfl
  refine lv_icmp_ge (tgt := 73) hx hb dX9_goQuarter_12 (by decide) (fun _ => ?_) (fun c9 => absurd (by first | decide | rfl) c9)
  refine lv_aload_n hx hb dX9_goQuarter_73 rfl (lv_at hl 2 rfl) ?_
  refine va_get (D := D) (ci := 9) (v := .ref al) (C := RX9) (T := TX9) (N := 67) hx hb hts iX9_goQuarter_X9 hown hK hP 0 rfl rfl 45 (by decide) (hts (.fieldLink RX9 94 "CatLeasesModel" "all" "[I") (List.mem_of_getElem? (i := 1) rfl)) (fun _ h9 => h9) h_y_all dX9_goQuarter_74 ?_
  refine lv_bipush (v := 37) hx hb dX9_goQuarter_77 (by decide) ?_
  refine lv_dup2_11 hx hb dX9_goQuarter_79 rfl rfl ?_
  refine va_iald hx hb hK hP 2 1 rfl rfl (k_in (i := 37) (n := 39) (by decide)) dX9_goQuarter_80 ?_
  refine k_top (v := 0) h_al_at37 ?_
  refine lv_iconst (v := 1) hx hb dX9_goQuarter_81 (by decide) ?_
  refine lv_iadd hx hb dX9_goQuarter_82 ?_
  refine k_top (v := 1) (by decide) ?_
  refine va_iast hx hb hK hP hD hS 2 1 rfl rfl (k_in (i := 37) (n := 39) (by decide)) dX9_goQuarter_83 (fun H locs hP hD hS => ?_)
  have hP : va_P D vwCl [(y, .inr (9, fs_y)), (yt, .inl (g 1, 2, .inl f_yt)), (al, .inl (g 1, 39, .inl (upd f_al 37 1)))] H := hP
  have hD : va_D A [(y, .inr (9, fs_y)), (yt, .inl (g 1, 2, .inl f_yt)), (al, .inl (g 1, 39, .inl (upd f_al 37 1)))] := hD
  refine lv_iload_n hx hb dX9_goQuarter_84 rfl (lv_at hl 1 rfl) ?_
  exact k_iret hx hb hr hlocks hK hP hD hS ⟨(upd f_al 37 1), ((pk_un (by decide)).trans h_al_at36), rfl, ((pk_un (by decide)).trans h_al_at38), rfl, rfl⟩ dX9_goQuarter_85
set_option maxHeartbeats 4000000 in
set_option maxRecDepth 100000 in
theorem m_goDie (l : Launch) (D : va_G) (g : Nat → ClassId) (sz : Nat) (y : Nat) (yr : Nat) (al : Nat) (fs_y : List Value) (f_yr : Nat → Int32) (f_al : Nat → Int32) (h_y_rooms : fs_y[12]? = some (.ref yr)) (h_y_bank : fs_y[35]? = some (.int 0)) (h_y_all : fs_y[45]? = some (.ref al)) (h_yr_at0 : f_yr 0 = 0) (h_al_at36 : f_al 36 = 0) : Met l yX9_goDie wsX9_goDie ({ frames := 1, cells := 0, slots := 0, locals := 20 }) (va_Pc [.ref y, .int 0] (kPre D g [(y, .inr (9, fs_y)), (yr, .inl (g 1, 2, .inl f_yr)), (al, .inl (g 1, 39, .inl f_al))] sz)) (kQv D g (fun (u : va_W) => ∃ (fe_al : Nat → Int32), (fe_al 36 = 0) ∧ u = [(y, .inr (9, fs_y)), (yr, .inl (g 1, 2, .inl f_yr)), (al, .inl (g 1, 39, .inl fe_al))]) (va_A [(y, .inr (9, fs_y)), (yr, .inl (g 1, 2, .inl f_yr)), (al, .inl (g 1, 39, .inl f_al))] sz)) 0 0 (va_A [(y, .inr (9, fs_y)), (yr, .inl (g 1, 2, .inl f_yr)), (al, .inl (g 1, 39, .inl f_al))] sz) := by
  refine k_head (cc := cX9_goDie) (maxL := 3) (ret := none) (by decide) rfl (Nat.le_of_ble_eq_true rfl) ?_
  intro p e s m below meth c ls A hx hb hr hlocks hml hown hin hts hA hP hK hD hS hl
  have hown : s.vm.findClass RX9 = some m.cls := hown
  have hl : lv_has ls 3 [(0, .ref y), (1, .int 0)] := hl
  refine lv_iconst (v := 0) hx hb dX9_goDie_0 (by decide) ?_
  refine lv_istore_n (lv' := [(2, .int 0), (0, .ref y), (1, .int 0)]) hx hb dX9_goDie_1 rfl hl (by decide) rfl (fun ls hl => ?_)
  refine lv_iload_n hx hb dX9_goDie_2 rfl (lv_at hl 0 rfl) ?_
  refine lv_aload_n hx hb dX9_goDie_3 rfl (lv_at hl 1 rfl) ?_
  refine k_goi (wr := [(al, .inl (g 1, 39, .inl f_al))]) hP hD hS hA [0, 1] [2] rfl rfl (by decide) (by decide) (va_runV (As := []) (rest := [.int 0]) ⟨hx, hb, hml, hown, hts⟩ (m_chambers l D g _ y yr fs_y f_yr h_y_rooms h_y_bank h_yr_at0) (cwV 0 hts gX9_goDie_X9_chambers rfl rfl rfl (by decide +kernel) ⟨Nat.le_of_ble_eq_true rfl, Nat.le_of_ble_eq_true rfl⟩) (k_preV hK (hP.sub [0, 1] rfl) (hD.sub [0, 1] (by decide) rfl) 9 0 rfl rfl) rfl rfl hl.1 rfl (lv_room (Nat.le_of_ble_eq_true rfl)) dX9_goDie_4 ⟨Nat.le_of_ble_eq_true rfl, Nat.le_of_ble_eq_true rfl⟩) (fun r_1 u_2 H locs hw hP hD hS => ?_)
  rcases hw with ⟨rfl, rfl⟩
  have hP := hP.sub (ws' := [(y, .inr (9, fs_y)), (yr, .inl (g 1, 2, .inl f_yr)), (al, .inl (g 1, 39, .inl f_al))]) [1, 2, 0] rfl
  have hD := hD.sub (ws' := [(y, .inr (9, fs_y)), (yr, .inl (g 1, 2, .inl f_yr)), (al, .inl (g 1, 39, .inl f_al))]) [1, 2, 0] (by decide) rfl
  refine lv_icmp_ge (tgt := 31) hx hb dX9_goDie_7 (by decide) (fun _ => ?_) (fun c9 => absurd (by first | decide | rfl) c9)
  refine lv_aload_n hx hb dX9_goDie_31 rfl (lv_at hl 1 rfl) ?_
  refine va_get (D := D) (ci := 9) (v := .ref al) (C := RX9) (T := TX9) (N := 67) hx hb hts iX9_goDie_X9 hown hK hP 0 rfl rfl 45 (by decide) (hts (.fieldLink RX9 94 "CatLeasesModel" "all" "[I") (List.mem_of_getElem? (i := 1) rfl)) (fun _ h9 => h9) h_y_all dX9_goDie_32 ?_
  refine lv_bipush (v := 36) hx hb dX9_goDie_35 (by decide) ?_
  refine lv_dup2_11 hx hb dX9_goDie_37 rfl rfl ?_
  refine va_iald hx hb hK hP 2 1 rfl rfl (k_in (i := 36) (n := 39) (by decide)) dX9_goDie_38 ?_
  refine k_top (v := 0) h_al_at36 ?_
  refine lv_iload_n hx hb dX9_goDie_39 rfl (lv_at hl 2 rfl) ?_
  refine lv_iconst (v := (-1)) hx hb dX9_goDie_40 (by decide) ?_
  refine lv_ixor hx hb dX9_goDie_41 ?_
  refine k_top (v := (-1)) (by decide) ?_
  refine lv_iand hx hb dX9_goDie_42 ?_
  refine k_top (v := 0) (by decide) ?_
  refine va_iast hx hb hK hP hD hS 2 1 rfl rfl (k_in (i := 36) (n := 39) (by decide)) dX9_goDie_43 (fun H locs hP hD hS => ?_)
  have hP : va_P D vwCl [(y, .inr (9, fs_y)), (yr, .inl (g 1, 2, .inl f_yr)), (al, .inl (g 1, 39, .inl (upd f_al 36 0)))] H := hP
  have hD : va_D A [(y, .inr (9, fs_y)), (yr, .inl (g 1, 2, .inl f_yr)), (al, .inl (g 1, 39, .inl (upd f_al 36 0)))] := hD
  exact k_vret hx hb hr hlocks hK hP hD hS ⟨(upd f_al 36 0), rfl, rfl⟩ dX9_goDie_44
set_option maxHeartbeats 4000000 in
set_option maxRecDepth 100000 in
theorem m_goInEarnest (l : Launch) (D : va_G) (g : Nat → ClassId) (sz : Nat) (y : Nat) (yt : Nat) (yc : Nat) (yr : Nat) (al : Nat) (fs_y : List Value) (f_yt : Nat → Int32) (f_yc : Nat → Int32) (f_yr : Nat → Int32) (f_al : Nat → Int32) (h_y_cats : fs_y[11]? = some (.ref yc)) (h_y_rooms : fs_y[12]? = some (.ref yr)) (h_y_tenants : fs_y[13]? = some (.ref yt)) (h_y_bank : fs_y[35]? = some (.int 0)) (h_y_all : fs_y[45]? = some (.ref al)) (h_yt_at0 : f_yt 0 = 0) (h_yc_at0 : f_yc 0 = 0) (h_yr_at0 : f_yr 0 = 0) (h_al_at36 : f_al 36 = 0) (h_al_at37 : f_al 37 = 0) (h_al_at38 : f_al 38 = 0) : Met l yX9_goInEarnest wsX9_goInEarnest ({ frames := 3, cells := 0, slots := 0, locals := 64 }) (va_Pc [.ref y] (kPre D g [(y, .inr (9, fs_y)), (yt, .inl (g 1, 2, .inl f_yt)), (yc, .inl (g 1, 2, .inl f_yc)), (yr, .inl (g 1, 2, .inl f_yr)), (al, .inl (g 1, 39, .inl f_al))] sz)) (kQi D g (fun (r : Int32) (u : va_W) => ∃ (f_11 : Nat → Int32), 0 = r ∧ u = [(y, .inr (9, fs_y)), (yt, .inl (g 1, 2, .inl f_yt)), (yc, .inl (g 1, 2, .inl f_yc)), (yr, .inl (g 1, 2, .inl f_yr)), (al, .inl (g 1, 39, .inl f_11))]) (va_A [(y, .inr (9, fs_y)), (yt, .inl (g 1, 2, .inl f_yt)), (yc, .inl (g 1, 2, .inl f_yc)), (yr, .inl (g 1, 2, .inl f_yr)), (al, .inl (g 1, 39, .inl f_al))] sz)) 0 0 (va_A [(y, .inr (9, fs_y)), (yt, .inl (g 1, 2, .inl f_yt)), (yc, .inl (g 1, 2, .inl f_yc)), (yr, .inl (g 1, 2, .inl f_yr)), (al, .inl (g 1, 39, .inl f_al))] sz) := by
  refine k_head (cc := cX9_goInEarnest) (maxL := 4) (ret := (some .int)) (by decide) rfl (Nat.le_of_ble_eq_true rfl) ?_
  intro p e s m below meth c ls A hx hb hr hlocks hml hown hin hts hA hP hK hD hS hl
  have hown : s.vm.findClass RX9 = some m.cls := hown
  have hl : lv_has ls 4 [(0, .ref y)] := hl
  refine lv_aload_n hx hb dX9_goInEarnest_0 rfl (lv_at hl 0 rfl) ?_
  refine k_goi (wr := [(yc, .inl (g 1, 2, .inl f_yc)), (yr, .inl (g 1, 2, .inl f_yr))]) hP hD hS hA [0, 1, 4] [2, 3] rfl rfl (by decide) (by decide) (va_runV (As := []) (rest := []) ⟨hx, hb, hml, hown, hts⟩ (m_goQuarter l D g _ y yt al fs_y f_yt f_al h_y_tenants h_y_bank h_y_all h_yt_at0 h_al_at36 h_al_at37 h_al_at38) (cwV 0 hts gX9_goInEarnest_X9_goQuarter rfl rfl rfl (by decide +kernel) ⟨Nat.le_of_ble_eq_true rfl, Nat.le_of_ble_eq_true rfl⟩) (k_preV hK (hP.sub [0, 1, 4] rfl) (hD.sub [0, 1, 4] (by decide) rfl) 9 0 rfl rfl) rfl rfl hl.1 rfl (lv_room (Nat.le_of_ble_eq_true rfl)) dX9_goInEarnest_1 ⟨Nat.le_of_ble_eq_true rfl, Nat.le_of_ble_eq_true rfl⟩) (fun r_1 u_2 H locs hw hP hD hS => ?_)
  rcases hw with ⟨f_3, c_4, c_5, c_6, rfl, rfl⟩
  have hP := hP.sub (ws' := [(y, .inr (9, fs_y)), (yt, .inl (g 1, 2, .inl f_yt)), (yc, .inl (g 1, 2, .inl f_yc)), (yr, .inl (g 1, 2, .inl f_yr)), (al, .inl (g 1, 39, .inl f_3))]) [2, 3, 0, 1, 4] rfl
  have hD := hD.sub (ws' := [(y, .inr (9, fs_y)), (yt, .inl (g 1, 2, .inl f_yt)), (yc, .inl (g 1, 2, .inl f_yc)), (yr, .inl (g 1, 2, .inl f_yr)), (al, .inl (g 1, 39, .inl f_3))]) [2, 3, 0, 1, 4] (by decide) rfl
  refine lv_istore_n (lv' := [(1, .int 0), (0, .ref y)]) hx hb dX9_goInEarnest_4 rfl hl (by decide) rfl (fun ls hl => ?_)
  refine lv_iconst (v := 0) hx hb dX9_goInEarnest_5 (by decide) ?_
  refine lv_istore_n (lv' := [(2, .int 0), (1, .int 0), (0, .ref y)]) hx hb dX9_goInEarnest_6 rfl hl (by decide) rfl (fun ls hl => ?_)
  refine lv_iconst (v := 0) hx hb dX9_goInEarnest_7 (by decide) ?_
  refine lv_istore_n (lv' := [(3, .int 0), (2, .int 0), (1, .int 0), (0, .ref y)]) hx hb dX9_goInEarnest_8 rfl hl (by decide) rfl (fun ls hl => ?_)
  refine lv_iload_n hx hb dX9_goInEarnest_9 rfl (lv_at hl 0 rfl) ?_
  refine lv_aload_n hx hb dX9_goInEarnest_10 rfl (lv_at hl 3 rfl) ?_
  refine k_goi (wr := [(yt, .inl (g 1, 2, .inl f_yt)), (yr, .inl (g 1, 2, .inl f_yr)), (al, .inl (g 1, 39, .inl f_3))]) hP hD hS hA [0, 2] [1, 3, 4] rfl rfl (by decide) (by decide) (va_runV (As := []) (rest := [.int 0]) ⟨hx, hb, hml, hown, hts⟩ (m_cattery l D g _ y yc fs_y f_yc h_y_cats h_y_bank h_yc_at0) (cwV 0 hts gX9_goInEarnest_X9_cattery rfl rfl rfl (by decide +kernel) ⟨Nat.le_of_ble_eq_true rfl, Nat.le_of_ble_eq_true rfl⟩) (k_preV hK (hP.sub [0, 2] rfl) (hD.sub [0, 2] (by decide) rfl) 9 0 rfl rfl) rfl rfl hl.1 rfl (lv_room (Nat.le_of_ble_eq_true rfl)) dX9_goInEarnest_11 ⟨Nat.le_of_ble_eq_true rfl, Nat.le_of_ble_eq_true rfl⟩) (fun r_7 u_8 H locs hw hP hD hS => ?_)
  rcases hw with ⟨rfl, rfl⟩
  have hP := hP.sub (ws' := [(y, .inr (9, fs_y)), (yt, .inl (g 1, 2, .inl f_yt)), (yc, .inl (g 1, 2, .inl f_yc)), (yr, .inl (g 1, 2, .inl f_yr)), (al, .inl (g 1, 39, .inl f_3))]) [3, 0, 4, 1, 2] rfl
  have hD := hD.sub (ws' := [(y, .inr (9, fs_y)), (yt, .inl (g 1, 2, .inl f_yt)), (yc, .inl (g 1, 2, .inl f_yc)), (yr, .inl (g 1, 2, .inl f_yr)), (al, .inl (g 1, 39, .inl f_3))]) [3, 0, 4, 1, 2] (by decide) rfl
  refine lv_icmp_ge (tgt := 87) hx hb dX9_goInEarnest_14 (by decide) (fun _ => ?_) (fun c9 => absurd (by first | decide | rfl) c9)
  refine lv_aload_n hx hb dX9_goInEarnest_87 rfl (lv_at hl 3 rfl) ?_
  refine lv_iload_n hx hb dX9_goInEarnest_88 rfl (lv_at hl 1 rfl) ?_
  refine k_gov (wr := [(yt, .inl (g 1, 2, .inl f_yt)), (yc, .inl (g 1, 2, .inl f_yc))]) hP hD hS hA [0, 3, 4] [1, 2] rfl rfl (by decide) (by decide) (va_runV (As := [.int 0]) (rest := []) ⟨hx, hb, hml, hown, hts⟩ (m_goDie l D g _ y yr al fs_y f_yr f_3 h_y_rooms h_y_bank h_y_all h_yr_at0 c_4) (cwV 1 hts gX9_goInEarnest_X9_goDie rfl rfl rfl (by decide +kernel) ⟨Nat.le_of_ble_eq_true rfl, Nat.le_of_ble_eq_true rfl⟩) (k_preV hK (hP.sub [0, 3, 4] rfl) (hD.sub [0, 3, 4] (by decide) rfl) 9 0 rfl rfl) rfl rfl hl.1 rfl (lv_room (Nat.le_of_ble_eq_true rfl)) dX9_goInEarnest_89 ⟨Nat.le_of_ble_eq_true rfl, Nat.le_of_ble_eq_true rfl⟩) (fun u_10 H locs hw hP hD hS => ?_)
  rcases hw with ⟨f_11, c_12, rfl⟩
  have hP := hP.sub (ws' := [(y, .inr (9, fs_y)), (yt, .inl (g 1, 2, .inl f_yt)), (yc, .inl (g 1, 2, .inl f_yc)), (yr, .inl (g 1, 2, .inl f_yr)), (al, .inl (g 1, 39, .inl f_11))]) [2, 0, 1, 3, 4] rfl
  have hD := hD.sub (ws' := [(y, .inr (9, fs_y)), (yt, .inl (g 1, 2, .inl f_yt)), (yc, .inl (g 1, 2, .inl f_yc)), (yr, .inl (g 1, 2, .inl f_yr)), (al, .inl (g 1, 39, .inl f_11))]) [2, 0, 1, 3, 4] (by decide) rfl
  refine lv_iload_n hx hb dX9_goInEarnest_92 rfl (lv_at hl 2 rfl) ?_
  exact k_iret hx hb hr hlocks hK hP hD hS ⟨f_11, rfl, rfl⟩ dX9_goInEarnest_93
set_option maxHeartbeats 4000000 in
set_option maxRecDepth 100000 in
theorem m_quarter (l : Launch) (D : va_G) (g : Nat → ClassId) (sz : Nat) (y : Nat) (yt : Nat) (yc : Nat) (yr : Nat) (al : Nat) (wa : Nat) (fs_y : List Value) (v_y_undone : Value) (f_yt : Nat → Int32) (f_yc : Nat → Int32) (f_yr : Nat → Int32) (f_al : Nat → Int32) (f_wa : Nat → Int32) (h_y_cats : fs_y[11]? = some (.ref yc)) (h_y_rooms : fs_y[12]? = some (.ref yr)) (h_y_tenants : fs_y[13]? = some (.ref yt)) (h_y_bank : fs_y[35]? = some (.int 0)) (h_y_all : fs_y[45]? = some (.ref al)) (h_y_was : fs_y[49]? = some (.ref wa)) (h_y_acts : fs_y[50]? = some (.int 0)) (h_y_undone : fs_y[51]? = some (v_y_undone)) (h_yt_at0 : f_yt 0 = 0) (h_yc_at0 : f_yc 0 = 0) (h_yr_at0 : f_yr 0 = 0) (h_al_at36 : f_al 36 = 0) (h_al_at37 : f_al 37 = 0) (h_al_at38 : f_al 38 = 0) : Met l yX9_quarter wsX9_quarter ({ frames := 4, cells := 0, slots := 0, locals := 87 }) (va_Pc [.ref y] (kPre D g [(y, .inr (9, fs_y)), (yt, .inl (g 1, 2, .inl f_yt)), (yc, .inl (g 1, 2, .inl f_yc)), (yr, .inl (g 1, 2, .inl f_yr)), (al, .inl (g 1, 39, .inl f_al)), (wa, .inl (g 1, 1599, .inl f_wa))] sz)) (kQi D g (fun (r : Int32) (u : va_W) => 0 = r) (va_A [(y, .inr (9, fs_y)), (yt, .inl (g 1, 2, .inl f_yt)), (yc, .inl (g 1, 2, .inl f_yc)), (yr, .inl (g 1, 2, .inl f_yr)), (al, .inl (g 1, 39, .inl f_al)), (wa, .inl (g 1, 1599, .inl f_wa))] sz)) 0 0 (va_A [(y, .inr (9, fs_y)), (yt, .inl (g 1, 2, .inl f_yt)), (yc, .inl (g 1, 2, .inl f_yc)), (yr, .inl (g 1, 2, .inl f_yr)), (al, .inl (g 1, 39, .inl f_al)), (wa, .inl (g 1, 1599, .inl f_wa))] sz) := by
  refine k_head (cc := cX9_quarter) (maxL := 1) (ret := (some .int)) (by decide) rfl (Nat.le_of_ble_eq_true rfl) ?_
  intro p e s m below meth c ls A hx hb hr hlocks hml hown hin hts hA hP hK hD hS hl
  have hown : s.vm.findClass RX9 = some m.cls := hown
  have hl : lv_has ls 1 [(0, .ref y)] := hl
  refine lv_aload_n hx hb dX9_quarter_0 rfl (lv_at hl 0 rfl) ?_
  refine va_get (D := D) (ci := 9) (v := .ref al) (C := RX9) (T := TX9) (N := 67) hx hb hts iX9_quarter_X9 hown hK hP 0 rfl rfl 45 (by decide) (hts (.fieldLink RX9 94 "CatLeasesModel" "all" "[I") (List.mem_of_getElem? (i := 1) rfl)) (fun _ h9 => h9) h_y_all dX9_quarter_1 ?_
  refine lv_bipush (v := 37) hx hb dX9_quarter_4 (by decide) ?_
  refine va_iald hx hb hK hP 4 1 rfl rfl (k_in (i := 37) (n := 39) (by decide)) dX9_quarter_6 ?_
  refine k_top (v := 0) h_al_at37 ?_
  refine lv_sipush (v := 999) hx hb dX9_quarter_7 (by decide) ?_
  refine lv_icmp_ne (tgt := 15) hx hb dX9_quarter_10 (by decide) (fun _ => ?_) (fun c9 => absurd c9 (by first | decide | simp))
  refine lv_aload_n hx hb dX9_quarter_15 rfl (lv_at hl 0 rfl) ?_
  refine k_gov (wr := [(yt, .inl (g 1, 2, .inl f_yt)), (yc, .inl (g 1, 2, .inl f_yc)), (yr, .inl (g 1, 2, .inl f_yr))]) hP hD hS hA [0, 5, 4] [1, 2, 3] rfl rfl (by decide) (by decide) (va_runV (As := []) (rest := []) ⟨hx, hb, hml, hown, hts⟩ (m_keepAct l D g _ y wa al fs_y (v_y_undone) f_wa f_al h_y_all h_y_was h_y_acts h_y_undone) (cwV 0 hts gX9_quarter_X9_keepAct rfl rfl rfl (by decide +kernel) ⟨Nat.le_of_ble_eq_true rfl, Nat.le_of_ble_eq_true rfl⟩) (k_preV hK (hP.sub [0, 5, 4] rfl) (hD.sub [0, 5, 4] (by decide) rfl) 9 0 rfl rfl) rfl rfl hl.1 rfl (lv_room (Nat.le_of_ble_eq_true rfl)) dX9_quarter_16 ⟨Nat.le_of_ble_eq_true rfl, Nat.le_of_ble_eq_true rfl⟩) (fun u_2 H locs hw hP hD hS => ?_)
  rcases hw with ⟨f_3, rfl⟩
  have hP := hP.sub (ws' := [(y, .inr (9, ((fs_y.set 50 (.int 1)).set 51 (.int 0)))), (yt, .inl (g 1, 2, .inl f_yt)), (yc, .inl (g 1, 2, .inl f_yc)), (yr, .inl (g 1, 2, .inl f_yr)), (al, .inl (g 1, 39, .inl f_al)), (wa, .inl (g 1, 1599, .inl f_3))]) [3, 0, 1, 2, 5, 4] rfl
  have hD := hD.sub (ws' := [(y, .inr (9, ((fs_y.set 50 (.int 1)).set 51 (.int 0)))), (yt, .inl (g 1, 2, .inl f_yt)), (yc, .inl (g 1, 2, .inl f_yc)), (yr, .inl (g 1, 2, .inl f_yr)), (al, .inl (g 1, 39, .inl f_al)), (wa, .inl (g 1, 1599, .inl f_3))]) [3, 0, 1, 2, 5, 4] (by decide) rfl
  refine lv_aload_n hx hb dX9_quarter_19 rfl (lv_at hl 0 rfl) ?_
  refine k_goi (wr := [(wa, .inl (g 1, 1599, .inl f_3))]) hP hD hS hA [0, 1, 2, 3, 4] [5] rfl rfl (by decide) (by decide) (va_runV (As := []) (rest := []) ⟨hx, hb, hml, hown, hts⟩ (m_goInEarnest l D g _ y yt yc yr al ((fs_y.set 50 (.int 1)).set 51 (.int 0)) f_yt f_yc f_yr f_al (k_sn (by decide) (k_sn (by decide) h_y_cats)) (k_sn (by decide) (k_sn (by decide) h_y_rooms)) (k_sn (by decide) (k_sn (by decide) h_y_tenants)) (k_sn (by decide) (k_sn (by decide) h_y_bank)) (k_sn (by decide) (k_sn (by decide) h_y_all)) h_yt_at0 h_yc_at0 h_yr_at0 h_al_at36 h_al_at37 h_al_at38) (cwV 0 hts gX9_quarter_X9_goInEarnest rfl rfl rfl (by decide +kernel) ⟨Nat.le_of_ble_eq_true rfl, Nat.le_of_ble_eq_true rfl⟩) (k_preV hK (hP.sub [0, 1, 2, 3, 4] rfl) (hD.sub [0, 1, 2, 3, 4] (by decide) rfl) 9 0 rfl rfl) rfl rfl hl.1 rfl (lv_room (Nat.le_of_ble_eq_true rfl)) dX9_quarter_20 ⟨Nat.le_of_ble_eq_true rfl, Nat.le_of_ble_eq_true rfl⟩) (fun r_4 u_5 H locs hw hP hD hS => ?_)
  rcases hw with ⟨f_6, rfl, rfl⟩
  have hP := hP.sub (ws' := [(y, .inr (9, ((fs_y.set 50 (.int 1)).set 51 (.int 0)))), (yt, .inl (g 1, 2, .inl f_yt)), (yc, .inl (g 1, 2, .inl f_yc)), (yr, .inl (g 1, 2, .inl f_yr)), (al, .inl (g 1, 39, .inl f_6)), (wa, .inl (g 1, 1599, .inl f_3))]) [1, 2, 3, 4, 5, 0] rfl
  have hD := hD.sub (ws' := [(y, .inr (9, ((fs_y.set 50 (.int 1)).set 51 (.int 0)))), (yt, .inl (g 1, 2, .inl f_yt)), (yc, .inl (g 1, 2, .inl f_yc)), (yr, .inl (g 1, 2, .inl f_yr)), (al, .inl (g 1, 39, .inl f_6)), (wa, .inl (g 1, 1599, .inl f_3))]) [1, 2, 3, 4, 5, 0] (by decide) rfl
  exact k_iret hx hb hr hlocks hK hP hD hS rfl dX9_quarter_23
set_option maxHeartbeats 4000000 in
set_option maxRecDepth 100000 in
theorem m_keepNow (l : Launch) (D : va_G) (g : Nat → ClassId) (sz : Nat) (y : Nat) (al : Nat) (ke : Nat) (fs_y : List Value) (f_al : Nat → Int32) (f_ke : Nat → Int32) (h_y_all : fs_y[45]? = some (.ref al)) (h_y_kept : fs_y[52]? = some (.ref ke)) : Met l yX9_keepNow wsX9_keepNow ({ frames := 0, cells := 0, slots := 0, locals := 0 }) (va_Pc [.ref y] (kPre D g [(y, .inr (9, fs_y)), (al, .inl (g 1, 39, .inl f_al)), (ke, .inl (g 1, 39, .inl f_ke))] sz)) (kQv D g (fun (u : va_W) => ∃ (fe_ke : Nat → Int32), u = [(y, .inr (9, fs_y)), (al, .inl (g 1, 39, .inl f_al)), (ke, .inl (g 1, 39, .inl fe_ke))]) (va_A [(y, .inr (9, fs_y)), (al, .inl (g 1, 39, .inl f_al)), (ke, .inl (g 1, 39, .inl f_ke))] sz)) 0 0 (va_A [(y, .inr (9, fs_y)), (al, .inl (g 1, 39, .inl f_al)), (ke, .inl (g 1, 39, .inl f_ke))] sz) := by
  refine k_head (cc := cX9_keepNow) (maxL := 2) (ret := none) (by decide) rfl (Nat.le_of_ble_eq_true rfl) ?_
  intro p e s m below meth c ls A hx hb hr hlocks hml hown hin hts hA hP hK hD hS hl
  have hown : s.vm.findClass RX9 = some m.cls := hown
  have hl : lv_has ls 2 [(0, .ref y)] := hl
  refine lv_iconst (v := 0) hx hb dX9_keepNow_0 (by decide) ?_
  refine lv_istore_n (lv' := [(1, .int 0), (0, .ref y)]) hx hb dX9_keepNow_1 rfl hl (by decide) rfl (fun ls hl => ?_)
  have hloop_6 : ∀ (n_2 i_1 : Nat) (f_3 : Nat → Int32), i_1 ≤ 39 → 39 < i_1 + n_2 → ∀ (H : Heap) (locs : List Loc) (ls : Array Slot), va_P D vwCl [(y, .inr (9, fs_y)), (al, .inl (g 1, 39, .inl f_al)), (ke, .inl (g 1, 39, .inl f_3))] H → va_D A [(y, .inr (9, fs_y)), (al, .inl (g 1, 39, .inl f_al)), (ke, .inl (g 1, 39, .inl f_3))] → va_S A s.heap H locs → lv_has ls 2 [(1, .int (nI i_1)), (0, .ref y)] → W p l e _ s m _ below meth c H locs 0 0 _ (F0 m 2 ls []) := by
    intro n_2
    induction n_2 with
    | zero =>
      intro i_1 f_3 h_4 h_5
      exact absurd h_5 (by omega)
    | succ n_2 ih =>
      intro i_1 f_3 h_4 h_5  H locs ls hP hD hS hl
      refine lv_iload_n hx hb dX9_keepNow_2 rfl (lv_at hl 0 rfl) ?_
      refine lv_bipush (v := 39) hx hb dX9_keepNow_3 (by decide) ?_
      refine lv_icmp_ge (tgt := 26) hx hb dX9_keepNow_5 (by decide) (fun c_7 => ?_) (fun c_7 => ?_)
      · have h_8 := k_ge1 (N := 39) rfl h_4 (by decide) c_7
        subst h_8
        exact k_vret hx hb hr hlocks hK hP hD hS ⟨f_3, rfl⟩ dX9_keepNow_26
      · have h_8 : i_1 < 39 := k_ge2 (N := 39) rfl h_4 (by decide) c_7
        refine lv_aload_n hx hb dX9_keepNow_8 rfl (lv_at hl 1 rfl) ?_
        refine va_get (D := D) (ci := 9) (v := .ref ke) (C := RX9) (T := TX9) (N := 67) hx hb hts iX9_keepNow_X9 hown hK hP 0 rfl rfl 52 (by decide) (hts (.fieldLink RX9 109 "CatLeasesModel" "kept" "[I") (List.mem_of_getElem? (i := 1) rfl)) (fun _ h9 => h9) h_y_kept dX9_keepNow_9 ?_
        refine lv_iload_n hx hb dX9_keepNow_12 rfl (lv_at hl 0 rfl) ?_
        refine lv_aload_n hx hb dX9_keepNow_13 rfl (lv_at hl 1 rfl) ?_
        refine va_get (D := D) (ci := 9) (v := .ref al) (C := RX9) (T := TX9) (N := 67) hx hb hts iX9_keepNow_X9 hown hK hP 0 rfl rfl 45 (by decide) (hts (.fieldLink RX9 94 "CatLeasesModel" "all" "[I") (List.mem_of_getElem? (i := 2) rfl)) (fun _ h9 => h9) h_y_all dX9_keepNow_14 ?_
        refine lv_iload_n hx hb dX9_keepNow_17 rfl (lv_at hl 0 rfl) ?_
        refine va_iald hx hb hK hP 1 1 rfl rfl (vp_in_nI (n := i_1) (N := 39) (by omega) (by decide)) dX9_keepNow_18 ?_
        refine k_top (v := (f_al i_1)) (by rw [nI_clamp (n := i_1) (by omega)]) ?_
        refine va_iast hx hb hK hP hD hS 2 1 rfl rfl (vp_in_nI (n := i_1) (N := 39) (by omega) (by decide)) dX9_keepNow_19 (fun H locs hP hD hS => ?_)
        rw [nI_clamp (n := i_1) (by omega)] at hP hD
        have hP : va_P D vwCl [(y, .inr (9, fs_y)), (al, .inl (g 1, 39, .inl f_al)), (ke, .inl (g 1, 39, .inl (upd f_3 i_1 (f_al i_1))))] H := hP
        have hD : va_D A [(y, .inr (9, fs_y)), (al, .inl (g 1, 39, .inl f_al)), (ke, .inl (g 1, 39, .inl (upd f_3 i_1 (f_al i_1))))] := hD
        refine lv_iinc (v := nI (i_1 + 1)) (lv' := [(1, .int (nI (i_1 + 1))), (0, .ref y)]) hx hb dX9_keepNow_20 hl (k := 0) rfl (k_inc i_1) (by decide) rfl (fun ls hl => ?_)
        refine lv_goto (tgt := 2) hx hb dX9_keepNow_23 (by decide) ?_
        exact ih (i_1 + 1) (upd f_3 i_1 (f_al i_1)) (by omega) (by omega)  _ _ _ hP hD hS (lv_sub hl [0, 1] rfl)
  exact hloop_6 (39 + 1) 0 f_ke (by omega) (by omega)  _ _ _ hP hD hS hl
set_option maxHeartbeats 4000000 in
set_option maxRecDepth 100000 in
theorem m_bringBack (l : Launch) (D : va_G) (g : Nat → ClassId) (sz : Nat) (y : Nat) (al : Nat) (ke : Nat) (fs_y : List Value) (f_al : Nat → Int32) (f_ke : Nat → Int32) (h_y_all : fs_y[45]? = some (.ref al)) (h_y_kept : fs_y[52]? = some (.ref ke)) : Met l yX9_bringBack wsX9_bringBack ({ frames := 0, cells := 0, slots := 0, locals := 0 }) (va_Pc [.ref y] (kPre D g [(y, .inr (9, fs_y)), (al, .inl (g 1, 39, .inl f_al)), (ke, .inl (g 1, 39, .inl f_ke))] sz)) (kQv D g (fun (u : va_W) => ∃ (fe_al : Nat → Int32), u = [(y, .inr (9, fs_y)), (al, .inl (g 1, 39, .inl fe_al)), (ke, .inl (g 1, 39, .inl f_ke))]) (va_A [(y, .inr (9, fs_y)), (al, .inl (g 1, 39, .inl f_al)), (ke, .inl (g 1, 39, .inl f_ke))] sz)) 0 0 (va_A [(y, .inr (9, fs_y)), (al, .inl (g 1, 39, .inl f_al)), (ke, .inl (g 1, 39, .inl f_ke))] sz) := by
  refine k_head (cc := cX9_bringBack) (maxL := 2) (ret := none) (by decide) rfl (Nat.le_of_ble_eq_true rfl) ?_
  intro p e s m below meth c ls A hx hb hr hlocks hml hown hin hts hA hP hK hD hS hl
  have hown : s.vm.findClass RX9 = some m.cls := hown
  have hl : lv_has ls 2 [(0, .ref y)] := hl
  refine lv_iconst (v := 0) hx hb dX9_bringBack_0 (by decide) ?_
  refine lv_istore_n (lv' := [(1, .int 0), (0, .ref y)]) hx hb dX9_bringBack_1 rfl hl (by decide) rfl (fun ls hl => ?_)
  have hloop_6 : ∀ (n_2 i_1 : Nat) (f_3 : Nat → Int32), i_1 ≤ 39 → 39 < i_1 + n_2 → ∀ (H : Heap) (locs : List Loc) (ls : Array Slot), va_P D vwCl [(y, .inr (9, fs_y)), (al, .inl (g 1, 39, .inl f_3)), (ke, .inl (g 1, 39, .inl f_ke))] H → va_D A [(y, .inr (9, fs_y)), (al, .inl (g 1, 39, .inl f_3)), (ke, .inl (g 1, 39, .inl f_ke))] → va_S A s.heap H locs → lv_has ls 2 [(1, .int (nI i_1)), (0, .ref y)] → W p l e _ s m _ below meth c H locs 0 0 _ (F0 m 2 ls []) := by
    intro n_2
    induction n_2 with
    | zero =>
      intro i_1 f_3 h_4 h_5
      exact absurd h_5 (by omega)
    | succ n_2 ih =>
      intro i_1 f_3 h_4 h_5  H locs ls hP hD hS hl
      refine lv_iload_n hx hb dX9_bringBack_2 rfl (lv_at hl 0 rfl) ?_
      refine lv_bipush (v := 39) hx hb dX9_bringBack_3 (by decide) ?_
      refine lv_icmp_ge (tgt := 26) hx hb dX9_bringBack_5 (by decide) (fun c_7 => ?_) (fun c_7 => ?_)
      · have h_8 := k_ge1 (N := 39) rfl h_4 (by decide) c_7
        subst h_8
        exact k_vret hx hb hr hlocks hK hP hD hS ⟨f_3, rfl⟩ dX9_bringBack_26
      · have h_8 : i_1 < 39 := k_ge2 (N := 39) rfl h_4 (by decide) c_7
        refine lv_aload_n hx hb dX9_bringBack_8 rfl (lv_at hl 1 rfl) ?_
        refine va_get (D := D) (ci := 9) (v := .ref al) (C := RX9) (T := TX9) (N := 67) hx hb hts iX9_bringBack_X9 hown hK hP 0 rfl rfl 45 (by decide) (hts (.fieldLink RX9 94 "CatLeasesModel" "all" "[I") (List.mem_of_getElem? (i := 1) rfl)) (fun _ h9 => h9) h_y_all dX9_bringBack_9 ?_
        refine lv_iload_n hx hb dX9_bringBack_12 rfl (lv_at hl 0 rfl) ?_
        refine lv_aload_n hx hb dX9_bringBack_13 rfl (lv_at hl 1 rfl) ?_
        refine va_get (D := D) (ci := 9) (v := .ref ke) (C := RX9) (T := TX9) (N := 67) hx hb hts iX9_bringBack_X9 hown hK hP 0 rfl rfl 52 (by decide) (hts (.fieldLink RX9 109 "CatLeasesModel" "kept" "[I") (List.mem_of_getElem? (i := 2) rfl)) (fun _ h9 => h9) h_y_kept dX9_bringBack_14 ?_
        refine lv_iload_n hx hb dX9_bringBack_17 rfl (lv_at hl 0 rfl) ?_
        refine va_iald hx hb hK hP 2 1 rfl rfl (vp_in_nI (n := i_1) (N := 39) (by omega) (by decide)) dX9_bringBack_18 ?_
        refine k_top (v := (f_ke i_1)) (by rw [nI_clamp (n := i_1) (by omega)]) ?_
        refine va_iast hx hb hK hP hD hS 1 1 rfl rfl (vp_in_nI (n := i_1) (N := 39) (by omega) (by decide)) dX9_bringBack_19 (fun H locs hP hD hS => ?_)
        rw [nI_clamp (n := i_1) (by omega)] at hP hD
        have hP : va_P D vwCl [(y, .inr (9, fs_y)), (al, .inl (g 1, 39, .inl (upd f_3 i_1 (f_ke i_1)))), (ke, .inl (g 1, 39, .inl f_ke))] H := hP
        have hD : va_D A [(y, .inr (9, fs_y)), (al, .inl (g 1, 39, .inl (upd f_3 i_1 (f_ke i_1)))), (ke, .inl (g 1, 39, .inl f_ke))] := hD
        refine lv_iinc (v := nI (i_1 + 1)) (lv' := [(1, .int (nI (i_1 + 1))), (0, .ref y)]) hx hb dX9_bringBack_20 hl (k := 0) rfl (k_inc i_1) (by decide) rfl (fun ls hl => ?_)
        refine lv_goto (tgt := 2) hx hb dX9_bringBack_23 (by decide) ?_
        exact ih (i_1 + 1) (upd f_3 i_1 (f_ke i_1)) (by omega) (by omega)  _ _ _ hP hD hS (lv_sub hl [0, 1] rfl)
  exact hloop_6 (39 + 1) 0 f_al (by omega) (by omega)  _ _ _ hP hD hS hl
set_option maxHeartbeats 4000000 in
set_option maxRecDepth 100000 in
theorem m_isAhead (l : Launch) (D : va_G) (g : Nat → ClassId) (sz : Nat) (p0 : Int32) : Met l yX9_isAhead wsX9_isAhead ({ frames := 0, cells := 0, slots := 0, locals := 0 }) (va_Pc [.int p0] (kPre D g [] sz)) (kQi D g (fun (r : Int32) (u : va_W) => ((p0 < 0) ∧ 0 = r ∧ u = []) ∨ ((¬ p0 < 0) ∧ (60 < p0) ∧ 0 = r ∧ u = []) ∨ ((¬ p0 < 0) ∧ (¬ 60 < p0) ∧ 1 = r ∧ u = [])) (va_A [] sz)) 0 0 (va_A [] sz) := by
  refine k_head (cc := cX9_isAhead) (maxL := 1) (ret := (some .boolean)) (by decide) rfl (Nat.le_of_ble_eq_true rfl) ?_
  intro p e s m below meth c ls A hx hb hr hlocks hml hown hin hts hA hP hK hD hS hl
  have hown : s.vm.findClass RX9 = some m.cls := hown
  have hl : lv_has ls 1 [(0, .int p0)] := hl
  refine lv_iload_n hx hb dX9_isAhead_0 rfl (lv_at hl 0 rfl) ?_
  refine lv_if_lt (tgt := 14) hx hb dX9_isAhead_1 (by decide) (fun c_1 => ?_) (fun c_1 => ?_)
  · refine lv_iconst (v := 0) hx hb dX9_isAhead_14 (by decide) ?_
    exact k_zret hx hb hr hlocks rfl hK hP hD hS (Or.inl ⟨c_1, rfl, rfl⟩) dX9_isAhead_15
  · refine lv_iload_n hx hb dX9_isAhead_4 rfl (lv_at hl 0 rfl) ?_
    refine lv_bipush (v := 60) hx hb dX9_isAhead_5 (by decide) ?_
    refine lv_icmp_gt (tgt := 14) hx hb dX9_isAhead_7 (by decide) (fun c_2 => ?_) (fun c_2 => ?_)
    · refine lv_iconst (v := 0) hx hb dX9_isAhead_14 (by decide) ?_
      exact k_zret hx hb hr hlocks rfl hK hP hD hS (Or.inr (Or.inl ⟨c_1, c_2, rfl, rfl⟩)) dX9_isAhead_15
    · refine lv_iconst (v := 1) hx hb dX9_isAhead_10 (by decide) ?_
      refine lv_goto (tgt := 15) hx hb dX9_isAhead_11 (by decide) ?_
      exact k_zret hx hb hr hlocks rfl hK hP hD hS (Or.inr (Or.inr ⟨c_1, c_2, rfl, rfl⟩)) dX9_isAhead_15
