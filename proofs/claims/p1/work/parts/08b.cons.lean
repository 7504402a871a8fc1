set_option maxHeartbeats 4000000 in
set_option maxRecDepth 100000 in
theorem m_keepAct (l : Launch) (D : va_G) (g : Nat → ClassId) (sz : Nat) (y : Nat) (wa : Nat) (al : Nat) (fs_y : List Value) (v_y_undone : Value) (f_wa : Nat → Int32) (f_al : Nat → Int32) (h_y_all : fs_y[45]? = some (.ref al)) (h_y_was : fs_y[49]? = some (.ref wa)) (h_y_acts : fs_y[50]? = some (.int 0)) (h_y_undone : fs_y[51]? = some (v_y_undone)) : Met l yX9_keepAct wsX9_keepAct ({ frames := 0, cells := 0, slots := 0, locals := 0 }) (va_Pc [.ref y] (kPre D g [(y, .inr (9, fs_y)), (wa, .inl (g 1, 1599, .inl f_wa)), (al, .inl (g 1, 39, .inl f_al))] sz)) (kQv D g (fun (u : va_W) => ∃ (fe_wa : Nat → Int32), u = [(y, .inr (9, ((fs_y.set 50 (.int 1)).set 51 (.int 0)))), (wa, .inl (g 1, 1599, .inl fe_wa)), (al, .inl (g 1, 39, .inl f_al))]) (va_A [(y, .inr (9, fs_y)), (wa, .inl (g 1, 1599, .inl f_wa)), (al, .inl (g 1, 39, .inl f_al))] sz)) 0 0 (va_A [(y, .inr (9, fs_y)), (wa, .inl (g 1, 1599, .inl f_wa)), (al, .inl (g 1, 39, .inl f_al))] sz) := by
  refine k_headQ (cc := cX9_keepAct) (maxL := 2) (ret := none) (by decide) rfl (Nat.le_of_ble_eq_true rfl) ?_
  intro p e s m below meth c ls A Q ar hQ hx hb hr hlocks hml hown hin hts hA hP hK hD hS hl
  have hown : s.vm.findClass RX9 = some m.cls := hown
  have hl : lv_has ls 2 [(0, .ref y)] := hl
  refine lv_aload_n hx hb dX9_keepAct_0 rfl (lv_at hl 0 rfl) ?_
  refine va_get (D := D) (ci := 9) (v := .int 0) (C := RX9) (T := TX9) (N := 67) hx hb hts iX9_keepAct_X9 hown hK hP 0 rfl rfl 50 (by decide) (hts (.fieldLink RX9 398 "CatLeasesModel" "acts" "I") (List.mem_of_getElem? (i := 1) rfl)) (fun _ h9 => h9) h_y_acts dX9_keepAct_1 ?_
  refine lv_bipush (v := 40) hx hb dX9_keepAct_4 (by decide) ?_
  refine lv_icmp_ne (tgt := 49) hx hb dX9_keepAct_6 (by decide) (fun _ => ?_) (fun c9 => absurd c9 (by first | decide | simp))
  refine lv_iconst (v := 0) hx hb dX9_keepAct_49 (by decide) ?_
  refine lv_istore_n (lv' := [(1, .int 0), (0, .ref y)]) hx hb dX9_keepAct_50 rfl hl (by decide) rfl (fun ls hl => ?_)
  have hloop_6 : ∀ (n_2 i_1 : Nat) (f_3 : Nat → Int32), i_1 ≤ 39 → 39 < i_1 + n_2 → ∀ (H : Heap) (locs : List Loc) (ls : Array Slot), va_P D vwCl [(y, .inr (9, fs_y)), (wa, .inl (g 1, 1599, .inl f_3)), (al, .inl (g 1, 39, .inl f_al))] H → va_D A [(y, .inr (9, fs_y)), (wa, .inl (g 1, 1599, .inl f_3)), (al, .inl (g 1, 39, .inl f_al))] → va_S A s.heap H locs → lv_has ls 2 [(1, .int (nI i_1)), (0, .ref y)] → W p l e (headSpec wsX9_keepAct ({ frames := 0, cells := 0, slots := 0, locals := 0 })).room s m ar below meth c H locs 0 0 Q (F0 m 51 ls []) := by
    intro n_2
    induction n_2 with
    | zero =>
      intro i_1 f_3 h_4 h_5
      exact absurd h_5 (by omega)
    | succ n_2 ih =>
      intro i_1 f_3 h_4 h_5  H locs ls hP hD hS hl
      refine lv_iload_n hx hb dX9_keepAct_51 rfl (lv_at hl 0 rfl) ?_
      refine lv_bipush (v := 39) hx hb dX9_keepAct_52 (by decide) ?_
      refine lv_icmp_ge (tgt := 83) hx hb dX9_keepAct_54 (by decide) (fun c_7 => ?_) (fun c_7 => ?_)
      · have h_8 := k_ge1 (N := 39) rfl h_4 (by first | decide | omega) c_7
        subst h_8
        refine lv_aload_n hx hb dX9_keepAct_83 rfl (lv_at hl 1 rfl) ?_
        refine lv_dup hx hb dX9_keepAct_84 rfl ?_
        refine va_get (D := D) (ci := 9) (v := .int 0) (C := RX9) (T := TX9) (N := 67) hx hb hts iX9_keepAct_X9 hown hK hP 0 rfl rfl 50 (by decide) (hts (.fieldLink RX9 398 "CatLeasesModel" "acts" "I") (List.mem_of_getElem? (i := 1) rfl)) (fun _ h9 => h9) h_y_acts dX9_keepAct_85 ?_
        refine lv_iconst (v := 1) hx hb dX9_keepAct_88 (by decide) ?_
        refine lv_iadd hx hb dX9_keepAct_89 ?_
        refine k_top (v := 1) (by decide) ?_
        refine va_put (D := D) (ci := 9) (v := .int 1) (ty := .int) (C := RX9) (T := TX9) (N := 67) hx hb hts iX9_keepAct_X9 tyX9 tyX9_ok nmX9 hown hK hP hD hS 0 rfl rfl 50 (by decide) (hts (.fieldLink RX9 398 "CatLeasesModel" "acts" "I") (List.mem_of_getElem? (i := 1) rfl)) (fun _ h9 => h9) rfl (by decide +kernel) rfl rfl ((k_len h_y_acts)) dX9_keepAct_90 (fun H locs hP hD hS => ?_)
        have hP : va_P D vwCl [(y, .inr (9, (fs_y.set 50 (.int 1)))), (wa, .inl (g 1, 1599, .inl f_3)), (al, .inl (g 1, 39, .inl f_al))] H := hP
        have hD : va_D A [(y, .inr (9, (fs_y.set 50 (.int 1)))), (wa, .inl (g 1, 1599, .inl f_3)), (al, .inl (g 1, 39, .inl f_al))] := hD
        refine lv_aload_n hx hb dX9_keepAct_93 rfl (lv_at hl 1 rfl) ?_
        refine lv_iconst (v := 0) hx hb dX9_keepAct_94 (by decide) ?_
        refine va_put (D := D) (ci := 9) (v := .int 0) (ty := .int) (C := RX9) (T := TX9) (N := 67) hx hb hts iX9_keepAct_X9 tyX9 tyX9_ok nmX9 hown hK hP hD hS 0 rfl rfl 51 (by decide) (hts (.fieldLink RX9 401 "CatLeasesModel" "undone" "I") (List.mem_of_getElem? (i := 4) rfl)) (fun _ h9 => h9) rfl (by decide +kernel) rfl rfl ((k_len (k_sn (by decide) h_y_undone))) dX9_keepAct_95 (fun H locs hP hD hS => ?_)
        have hP : va_P D vwCl [(y, .inr (9, ((fs_y.set 50 (.int 1)).set 51 (.int 0)))), (wa, .inl (g 1, 1599, .inl f_3)), (al, .inl (g 1, 39, .inl f_al))] H := hP
        have hD : va_D A [(y, .inr (9, ((fs_y.set 50 (.int 1)).set 51 (.int 0)))), (wa, .inl (g 1, 1599, .inl f_3)), (al, .inl (g 1, 39, .inl f_al))] := hD
        rw [hQ]
        exact k_vret hx hb hr hlocks hK hP hD hS ⟨f_3, rfl⟩ dX9_keepAct_98
      · have h_8 : i_1 < 39 := k_ge2 (N := 39) rfl h_4 (by first | decide | omega) c_7
        refine lv_aload_n hx hb dX9_keepAct_57 rfl (lv_at hl 1 rfl) ?_
        refine va_get (D := D) (ci := 9) (v := .ref wa) (C := RX9) (T := TX9) (N := 67) hx hb hts iX9_keepAct_X9 hown hK hP 0 rfl rfl 49 (by decide) (hts (.fieldLink RX9 106 "CatLeasesModel" "was" "[I") (List.mem_of_getElem? (i := 2) rfl)) (fun _ h9 => h9) h_y_was dX9_keepAct_58 ?_
        refine lv_bipush (v := 39) hx hb dX9_keepAct_61 (by decide) ?_
        refine lv_aload_n hx hb dX9_keepAct_63 rfl (lv_at hl 1 rfl) ?_
        refine va_get (D := D) (ci := 9) (v := .int 0) (C := RX9) (T := TX9) (N := 67) hx hb hts iX9_keepAct_X9 hown hK hP 0 rfl rfl 50 (by decide) (hts (.fieldLink RX9 398 "CatLeasesModel" "acts" "I") (List.mem_of_getElem? (i := 1) rfl)) (fun _ h9 => h9) h_y_acts dX9_keepAct_64 ?_
        refine lv_imul hx hb dX9_keepAct_67 ?_
        refine k_top (v := 0) (by decide) ?_
        refine lv_iload_n hx hb dX9_keepAct_68 rfl (lv_at hl 0 rfl) ?_
        refine lv_iadd hx hb dX9_keepAct_69 ?_
        refine k_top (v := nI (0 + i_1)) (nI_add 0 i_1) ?_
        refine lv_aload_n hx hb dX9_keepAct_70 rfl (lv_at hl 1 rfl) ?_
        refine va_get (D := D) (ci := 9) (v := .ref al) (C := RX9) (T := TX9) (N := 67) hx hb hts iX9_keepAct_X9 hown hK hP 0 rfl rfl 45 (by decide) (hts (.fieldLink RX9 94 "CatLeasesModel" "all" "[I") (List.mem_of_getElem? (i := 3) rfl)) (fun _ h9 => h9) h_y_all dX9_keepAct_71 ?_
        refine lv_iload_n hx hb dX9_keepAct_74 rfl (lv_at hl 0 rfl) ?_
        refine va_iald hx hb hK hP 2 1 rfl rfl (vp_in_nI (n := i_1) (N := 39) (by omega) (by decide)) dX9_keepAct_75 ?_
        refine k_top (v := (f_al i_1)) (by rw [nI_clamp (n := i_1) (by omega)]) ?_
        refine va_iast hx hb hK hP hD hS 1 1 rfl rfl (vp_in_nI (n := (0 + i_1)) (N := 1599) (by omega) (by decide)) dX9_keepAct_76 (fun H locs hP hD hS => ?_)
        rw [nI_clamp (n := (0 + i_1)) (by omega)] at hP hD
        have hP : va_P D vwCl [(y, .inr (9, fs_y)), (wa, .inl (g 1, 1599, .inl (upd f_3 (0 + i_1) (f_al i_1)))), (al, .inl (g 1, 39, .inl f_al))] H := hP
        have hD : va_D A [(y, .inr (9, fs_y)), (wa, .inl (g 1, 1599, .inl (upd f_3 (0 + i_1) (f_al i_1)))), (al, .inl (g 1, 39, .inl f_al))] := hD
        refine lv_iinc (v := nI (i_1 + 1)) (lv' := [(1, .int (nI (i_1 + 1))), (0, .ref y)]) hx hb dX9_keepAct_77 hl (k := 0) rfl (k_inc i_1) (by decide) rfl (fun ls hl => ?_)
        refine lv_goto (tgt := 51) hx hb dX9_keepAct_80 (by decide) ?_
        exact ih (i_1 + 1) (upd f_3 (0 + i_1) (f_al i_1)) (by omega) (by omega)  _ _ _ hP hD hS (lv_sub hl [0, 1] rfl)
  exact hloop_6 (39 + 1) 0 f_wa (by omega) (by omega)  _ _ _ hP hD hS hl
set_option maxHeartbeats 4000000 in
set_option maxRecDepth 100000 in
theorem m_goQuarter (l : Launch) (D : va_G) (g : Nat → ClassId) (sz : Nat) (y : Nat) (yt : Nat) (al : Nat) (fs_y : List Value) (f_yt : Nat → Int32) (f_al : Nat → Int32) (h_y_tenants : fs_y[13]? = some (.ref yt)) (h_y_bank : fs_y[35]? = some (.int 0)) (h_y_all : fs_y[45]? = some (.ref al)) (h_yt_at0 : f_yt 0 = 0) : Met l yX9_goQuarter wsX9_goQuarter ({ frames := 2, cells := 0, slots := 0, locals := 42 }) (va_Pc [.ref y] (kPre D g [(y, .inr (9, fs_y)), (yt, .inl (g 1, 2, .inl f_yt)), (al, .inl (g 1, 39, .inl f_al))] sz)) (kQi D g (fun (r : Int32) (u : va_W) => ∃ (fe_al : Nat → Int32), 0 = r ∧ u = [(y, .inr (9, fs_y)), (yt, .inl (g 1, 2, .inl f_yt)), (al, .inl (g 1, 39, .inl fe_al))]) (va_A [(y, .inr (9, fs_y)), (yt, .inl (g 1, 2, .inl f_yt)), (al, .inl (g 1, 39, .inl f_al))] sz)) 0 0 (va_A [(y, .inr (9, fs_y)), (yt, .inl (g 1, 2, .inl f_yt)), (al, .inl (g 1, 39, .inl f_al))] sz) := by
  refine k_head (cc := cX9_goQuarter) (maxL := 3) (ret := (some .int)) (by decide) rfl (Nat.le_of_ble_eq_true rfl) ?_
  intro p e s m below meth c ls A hx hb hr hlocks hml hown hin hts hA hP hK hD hS hl
  have hown : s.vm.findClass RX9 = some m.cls := hown
  have hl : lv_has ls 3 [(0, .ref y)] := hl
  refine lv_aload_n hx hb dX9_goQuarter_0 rfl (lv_at hl 0 rfl) ?_
  refine k_goi (wr := [(al, .inl (g 1, 39, .inl f_al))]) hP hD hS hA [0, 1] [2] rfl rfl (by decide) (by decide) (va_runV (As := []) (rest := []) ⟨hx, hb, hml, hown, hts⟩ (m_thrown l D g _ y yt fs_y f_yt h_y_tenants h_y_bank h_yt_at0) (cwV 0 hts gX9_goQuarter_X9_thrown rfl rfl rfl (by decide +kernel) ⟨Nat.le_of_ble_eq_true rfl, Nat.le_of_ble_eq_true rfl⟩) (k_preV hK (hP.sub [0, 1] rfl) (hD.sub [0, 1] (by decide) rfl) 9 0 rfl rfl) rfl rfl hl.1 rfl (lv_room (Nat.le_of_ble_eq_true rfl)) dX9_goQuarter_1 ⟨(Nat.le_of_ble_eq_true rfl), (Nat.le_of_ble_eq_true rfl)⟩) (fun r_1 u_2 H locs hw hP hD hS => ?_)
  rcases hw with ⟨rfl, rfl⟩
  have hP := hP.sub (ws' := [(y, .inr (9, fs_y)), (yt, .inl (g 1, 2, .inl f_yt)), (al, .inl (g 1, 39, .inl f_al))]) [1, 2, 0] rfl
  have hD := hD.sub (ws' := [(y, .inr (9, fs_y)), (yt, .inl (g 1, 2, .inl f_yt)), (al, .inl (g 1, 39, .inl f_al))]) [1, 2, 0] (by decide) rfl
  refine lv_istore_n (lv' := [(1, .int 0), (0, .ref y)]) hx hb dX9_goQuarter_4 rfl hl (by decide) rfl (fun ls hl => ?_)
  refine lv_iconst (v := 0) hx hb dX9_goQuarter_5 (by decide) ?_
  refine lv_istore_n (lv' := [(2, .int 0), (1, .int 0), (0, .ref y)]) hx hb dX9_goQuarter_6 rfl hl (by decide) rfl (fun ls hl => ?_)
  refine lv_iload_n hx hb dX9_goQuarter_7 rfl (lv_at hl 0 rfl) ?_
  refine lv_aload_n hx hb dX9_goQuarter_8 rfl (lv_at hl 2 rfl) ?_
  refine k_goi (wr := [(al, .inl (g 1, 39, .inl f_al))]) hP hD hS hA [0, 1] [2] rfl rfl (by decide) (by decide) (va_runV (As := []) (rest := [.int 0]) ⟨hx, hb, hml, hown, hts⟩ (m_many l D g _ y yt fs_y f_yt h_y_tenants h_y_bank h_yt_at0) (cwV 0 hts gX9_goQuarter_X9_many rfl rfl rfl (by decide +kernel) ⟨Nat.le_of_ble_eq_true rfl, Nat.le_of_ble_eq_true rfl⟩) (k_preV hK (hP.sub [0, 1] rfl) (hD.sub [0, 1] (by decide) rfl) 9 0 rfl rfl) rfl rfl hl.1 rfl (lv_room (Nat.le_of_ble_eq_true rfl)) dX9_goQuarter_9 ⟨(Nat.le_of_ble_eq_true rfl), (Nat.le_of_ble_eq_true rfl)⟩) (fun r_3 u_4 H locs hw hP hD hS => ?_)
  rcases hw with ⟨rfl, rfl⟩
  have hP := hP.sub (ws' := [(y, .inr (9, fs_y)), (yt, .inl (g 1, 2, .inl f_yt)), (al, .inl (g 1, 39, .inl f_al))]) [1, 2, 0] rfl
  have hD := hD.sub (ws' := [(y, .inr (9, fs_y)), (yt, .inl (g 1, 2, .inl f_yt)), (al, .inl (g 1, 39, .inl f_al))]) [1, 2, 0] (by decide) rfl
  refine lv_icmp_ge (tgt := 73) hx hb dX9_goQuarter_12 (by decide) (fun _ => ?_) (fun c9 => absurd (by first | decide | rfl) c9)
  refine lv_aload_n hx hb dX9_goQuarter_73 rfl (lv_at hl 2 rfl) ?_
  refine va_get (D := D) (ci := 9) (v := .ref al) (C := RX9) (T := TX9) (N := 67) hx hb hts iX9_goQuarter_X9 hown hK hP 0 rfl rfl 45 (by decide) (hts (.fieldLink RX9 94 "CatLeasesModel" "all" "[I") (List.mem_of_getElem? (i := 1) rfl)) (fun _ h9 => h9) h_y_all dX9_goQuarter_74 ?_
  refine lv_bipush (v := 37) hx hb dX9_goQuarter_77 (by decide) ?_
  refine lv_dup2_11 hx hb dX9_goQuarter_79 rfl rfl ?_
  refine va_iald hx hb hK hP 2 1 rfl rfl (k_in (i := 37) (n := 39) (by decide)) dX9_goQuarter_80 ?_
  refine k_top (v := (f_al 37)) rfl ?_
  refine lv_iconst (v := 1) hx hb dX9_goQuarter_81 (by decide) ?_
  refine lv_iadd hx hb dX9_goQuarter_82 ?_
  refine va_iast hx hb hK hP hD hS 2 1 rfl rfl (k_in (i := 37) (n := 39) (by decide)) dX9_goQuarter_83 (fun H locs hP hD hS => ?_)
  have hP : va_P D vwCl [(y, .inr (9, fs_y)), (yt, .inl (g 1, 2, .inl f_yt)), (al, .inl (g 1, 39, .inl (upd f_al 37 ((f_al 37) + 1))))] H := hP
  have hD : va_D A [(y, .inr (9, fs_y)), (yt, .inl (g 1, 2, .inl f_yt)), (al, .inl (g 1, 39, .inl (upd f_al 37 ((f_al 37) + 1))))] := hD
  refine lv_iload_n hx hb dX9_goQuarter_84 rfl (lv_at hl 1 rfl) ?_
  exact k_iret hx hb hr hlocks hK hP hD hS ⟨(upd f_al 37 ((f_al 37) + 1)), rfl, rfl⟩ dX9_goQuarter_85
set_option maxHeartbeats 4000000 in
set_option maxRecDepth 100000 in
theorem m_goDie (l : Launch) (D : va_G) (g : Nat → ClassId) (sz : Nat) (y : Nat) (yr : Nat) (al : Nat) (fs_y : List Value) (f_yr : Nat → Int32) (f_al : Nat → Int32) (h_y_rooms : fs_y[12]? = some (.ref yr)) (h_y_bank : fs_y[35]? = some (.int 0)) (h_y_all : fs_y[45]? = some (.ref al)) (h_yr_at0 : f_yr 0 = 0) : Met l yX9_goDie wsX9_goDie ({ frames := 1, cells := 0, slots := 0, locals := 20 }) (va_Pc [.ref y, .int 0] (kPre D g [(y, .inr (9, fs_y)), (yr, .inl (g 1, 2, .inl f_yr)), (al, .inl (g 1, 39, .inl f_al))] sz)) (kQv D g (fun (u : va_W) => ∃ (fe_al : Nat → Int32), u = [(y, .inr (9, fs_y)), (yr, .inl (g 1, 2, .inl f_yr)), (al, .inl (g 1, 39, .inl fe_al))]) (va_A [(y, .inr (9, fs_y)), (yr, .inl (g 1, 2, .inl f_yr)), (al, .inl (g 1, 39, .inl f_al))] sz)) 0 0 (va_A [(y, .inr (9, fs_y)), (yr, .inl (g 1, 2, .inl f_yr)), (al, .inl (g 1, 39, .inl f_al))] sz) := by
  refine k_head (cc := cX9_goDie) (maxL := 3) (ret := none) (by decide) rfl (Nat.le_of_ble_eq_true rfl) ?_
  intro p e s m below meth c ls A hx hb hr hlocks hml hown hin hts hA hP hK hD hS hl
  have hown : s.vm.findClass RX9 = some m.cls := hown
  have hl : lv_has ls 3 [(0, .ref y), (1, .int 0)] := hl
  refine lv_iconst (v := 0) hx hb dX9_goDie_0 (by decide) ?_
  refine lv_istore_n (lv' := [(2, .int 0), (0, .ref y), (1, .int 0)]) hx hb dX9_goDie_1 rfl hl (by decide) rfl (fun ls hl => ?_)
  refine lv_iload_n hx hb dX9_goDie_2 rfl (lv_at hl 0 rfl) ?_
  refine lv_aload_n hx hb dX9_goDie_3 rfl (lv_at hl 1 rfl) ?_
  refine k_goi (wr := [(al, .inl (g 1, 39, .inl f_al))]) hP hD hS hA [0, 1] [2] rfl rfl (by decide) (by decide) (va_runV (As := []) (rest := [.int 0]) ⟨hx, hb, hml, hown, hts⟩ (m_chambers l D g _ y yr fs_y f_yr h_y_rooms h_y_bank h_yr_at0) (cwV 0 hts gX9_goDie_X9_chambers rfl rfl rfl (by decide +kernel) ⟨Nat.le_of_ble_eq_true rfl, Nat.le_of_ble_eq_true rfl⟩) (k_preV hK (hP.sub [0, 1] rfl) (hD.sub [0, 1] (by decide) rfl) 9 0 rfl rfl) rfl rfl hl.1 rfl (lv_room (Nat.le_of_ble_eq_true rfl)) dX9_goDie_4 ⟨(Nat.le_of_ble_eq_true rfl), (Nat.le_of_ble_eq_true rfl)⟩) (fun r_1 u_2 H locs hw hP hD hS => ?_)
  rcases hw with ⟨rfl, rfl⟩
  have hP := hP.sub (ws' := [(y, .inr (9, fs_y)), (yr, .inl (g 1, 2, .inl f_yr)), (al, .inl (g 1, 39, .inl f_al))]) [1, 2, 0] rfl
  have hD := hD.sub (ws' := [(y, .inr (9, fs_y)), (yr, .inl (g 1, 2, .inl f_yr)), (al, .inl (g 1, 39, .inl f_al))]) [1, 2, 0] (by decide) rfl
  refine lv_icmp_ge (tgt := 31) hx hb dX9_goDie_7 (by decide) (fun _ => ?_) (fun c9 => absurd (by first | decide | rfl) c9)
  refine lv_aload_n hx hb dX9_goDie_31 rfl (lv_at hl 1 rfl) ?_
  refine va_get (D := D) (ci := 9) (v := .ref al) (C := RX9) (T := TX9) (N := 67) hx hb hts iX9_goDie_X9 hown hK hP 0 rfl rfl 45 (by decide) (hts (.fieldLink RX9 94 "CatLeasesModel" "all" "[I") (List.mem_of_getElem? (i := 1) rfl)) (fun _ h9 => h9) h_y_all dX9_goDie_32 ?_
  refine lv_bipush (v := 36) hx hb dX9_goDie_35 (by decide) ?_
  refine lv_dup2_11 hx hb dX9_goDie_37 rfl rfl ?_
  refine va_iald hx hb hK hP 2 1 rfl rfl (k_in (i := 36) (n := 39) (by decide)) dX9_goDie_38 ?_
  refine k_top (v := (f_al 36)) rfl ?_
  refine lv_iload_n hx hb dX9_goDie_39 rfl (lv_at hl 2 rfl) ?_
  refine lv_iconst (v := (-1)) hx hb dX9_goDie_40 (by decide) ?_
  refine lv_ixor hx hb dX9_goDie_41 ?_
  refine k_top (v := (-1)) (by decide) ?_
  refine lv_iand hx hb dX9_goDie_42 ?_
  refine va_iast hx hb hK hP hD hS 2 1 rfl rfl (k_in (i := 36) (n := 39) (by decide)) dX9_goDie_43 (fun H locs hP hD hS => ?_)
  have hP : va_P D vwCl [(y, .inr (9, fs_y)), (yr, .inl (g 1, 2, .inl f_yr)), (al, .inl (g 1, 39, .inl (upd f_al 36 ((f_al 36) &&& (-1)))))] H := hP
  have hD : va_D A [(y, .inr (9, fs_y)), (yr, .inl (g 1, 2, .inl f_yr)), (al, .inl (g 1, 39, .inl (upd f_al 36 ((f_al 36) &&& (-1)))))] := hD
  exact k_vret hx hb hr hlocks hK hP hD hS ⟨(upd f_al 36 ((f_al 36) &&& (-1))), rfl⟩ dX9_goDie_44
set_option maxHeartbeats 4000000 in
set_option maxRecDepth 100000 in
theorem m_goInEarnest (l : Launch) (D : va_G) (g : Nat → ClassId) (sz : Nat) (y : Nat) (yt : Nat) (yc : Nat) (yr : Nat) (al : Nat) (fs_y : List Value) (f_yt : Nat → Int32) (f_yc : Nat → Int32) (f_yr : Nat → Int32) (f_al : Nat → Int32) (h_y_cats : fs_y[11]? = some (.ref yc)) (h_y_rooms : fs_y[12]? = some (.ref yr)) (h_y_tenants : fs_y[13]? = some (.ref yt)) (h_y_bank : fs_y[35]? = some (.int 0)) (h_y_all : fs_y[45]? = some (.ref al)) (h_yt_at0 : f_yt 0 = 0) (h_yc_at0 : f_yc 0 = 0) (h_yr_at0 : f_yr 0 = 0) : Met l yX9_goInEarnest wsX9_goInEarnest ({ frames := 3, cells := 0, slots := 0, locals := 64 }) (va_Pc [.ref y] (kPre D g [(y, .inr (9, fs_y)), (yt, .inl (g 1, 2, .inl f_yt)), (yc, .inl (g 1, 2, .inl f_yc)), (yr, .inl (g 1, 2, .inl f_yr)), (al, .inl (g 1, 39, .inl f_al))] sz)) (kQi D g (fun (r : Int32) (u : va_W) => ∃ (f_8 : Nat → Int32), 0 = r ∧ u = [(y, .inr (9, fs_y)), (yt, .inl (g 1, 2, .inl f_yt)), (yc, .inl (g 1, 2, .inl f_yc)), (yr, .inl (g 1, 2, .inl f_yr)), (al, .inl (g 1, 39, .inl f_8))]) (va_A [(y, .inr (9, fs_y)), (yt, .inl (g 1, 2, .inl f_yt)), (yc, .inl (g 1, 2, .inl f_yc)), (yr, .inl (g 1, 2, .inl f_yr)), (al, .inl (g 1, 39, .inl f_al))] sz)) 0 0 (va_A [(y, .inr (9, fs_y)), (yt, .inl (g 1, 2, .inl f_yt)), (yc, .inl (g 1, 2, .inl f_yc)), (yr, .inl (g 1, 2, .inl f_yr)), (al, .inl (g 1, 39, .inl f_al))] sz) := by
  refine k_head (cc := cX9_goInEarnest) (maxL := 4) (ret := (some .int)) (by decide) rfl (Nat.le_of_ble_eq_true rfl) ?_
  intro p e s m below meth c ls A hx hb hr hlocks hml hown hin hts hA hP hK hD hS hl
  have hown : s.vm.findClass RX9 = some m.cls := hown
  have hl : lv_has ls 4 [(0, .ref y)] := hl
  refine lv_aload_n hx hb dX9_goInEarnest_0 rfl (lv_at hl 0 rfl) ?_
  refine k_goi (wr := [(yc, .inl (g 1, 2, .inl f_yc)), (yr, .inl (g 1, 2, .inl f_yr))]) hP hD hS hA [0, 1, 4] [2, 3] rfl rfl (by decide) (by decide) (va_runV (As := []) (rest := []) ⟨hx, hb, hml, hown, hts⟩ (m_goQuarter l D g _ y yt al fs_y f_yt f_al h_y_tenants h_y_bank h_y_all h_yt_at0) (cwV 0 hts gX9_goInEarnest_X9_goQuarter rfl rfl rfl (by decide +kernel) ⟨Nat.le_of_ble_eq_true rfl, Nat.le_of_ble_eq_true rfl⟩) (k_preV hK (hP.sub [0, 1, 4] rfl) (hD.sub [0, 1, 4] (by decide) rfl) 9 0 rfl rfl) rfl rfl hl.1 rfl (lv_room (Nat.le_of_ble_eq_true rfl)) dX9_goInEarnest_1 ⟨(Nat.le_of_ble_eq_true rfl), (Nat.le_of_ble_eq_true rfl)⟩) (fun r_1 u_2 H locs hw hP hD hS => ?_)
  rcases hw with ⟨f_3, rfl, rfl⟩
  have hP := hP.sub (ws' := [(y, .inr (9, fs_y)), (yt, .inl (g 1, 2, .inl f_yt)), (yc, .inl (g 1, 2, .inl f_yc)), (yr, .inl (g 1, 2, .inl f_yr)), (al, .inl (g 1, 39, .inl f_3))]) [2, 3, 0, 1, 4] rfl
  have hD := hD.sub (ws' := [(y, .inr (9, fs_y)), (yt, .inl (g 1, 2, .inl f_yt)), (yc, .inl (g 1, 2, .inl f_yc)), (yr, .inl (g 1, 2, .inl f_yr)), (al, .inl (g 1, 39, .inl f_3))]) [2, 3, 0, 1, 4] (by decide) rfl
  refine lv_istore_n (lv' := [(1, .int 0), (0, .ref y)]) hx hb dX9_goInEarnest_4 rfl hl (by decide) rfl (fun ls hl => ?_)
  refine lv_iconst (v := 0) hx hb dX9_goInEarnest_5 (by decide) ?_
  refine lv_istore_n (lv' := [(2, .int 0), (1, .int 0), (0, .ref y)]) hx hb dX9_goInEarnest_6 rfl hl (by decide) rfl (fun ls hl => ?_)
  refine lv_iconst (v := 0) hx hb dX9_goInEarnest_7 (by decide) ?_
  refine lv_istore_n (lv' := [(3, .int 0), (2, .int 0), (1, .int 0), (0, .ref y)]) hx hb dX9_goInEarnest_8 rfl hl (by decide) rfl (fun ls hl => ?_)
  refine lv_iload_n hx hb dX9_goInEarnest_9 rfl (lv_at hl 0 rfl) ?_
  refine lv_aload_n hx hb dX9_goInEarnest_10 rfl (lv_at hl 3 rfl) ?_
  refine k_goi (wr := [(yt, .inl (g 1, 2, .inl f_yt)), (yr, .inl (g 1, 2, .inl f_yr)), (al, .inl (g 1, 39, .inl f_3))]) hP hD hS hA [0, 2] [1, 3, 4] rfl rfl (by decide) (by decide) (va_runV (As := []) (rest := [.int 0]) ⟨hx, hb, hml, hown, hts⟩ (m_cattery l D g _ y yc fs_y f_yc h_y_cats h_y_bank h_yc_at0) (cwV 0 hts gX9_goInEarnest_X9_cattery rfl rfl rfl (by decide +kernel) ⟨Nat.le_of_ble_eq_true rfl, Nat.le_of_ble_eq_true rfl⟩) (k_preV hK (hP.sub [0, 2] rfl) (hD.sub [0, 2] (by decide) rfl) 9 0 rfl rfl) rfl rfl hl.1 rfl (lv_room (Nat.le_of_ble_eq_true rfl)) dX9_goInEarnest_11 ⟨(Nat.le_of_ble_eq_true rfl), (Nat.le_of_ble_eq_true rfl)⟩) (fun r_4 u_5 H locs hw hP hD hS => ?_)
  rcases hw with ⟨rfl, rfl⟩
  have hP := hP.sub (ws' := [(y, .inr (9, fs_y)), (yt, .inl (g 1, 2, .inl f_yt)), (yc, .inl (g 1, 2, .inl f_yc)), (yr, .inl (g 1, 2, .inl f_yr)), (al, .inl (g 1, 39, .inl f_3))]) [3, 0, 4, 1, 2] rfl
  have hD := hD.sub (ws' := [(y, .inr (9, fs_y)), (yt, .inl (g 1, 2, .inl f_yt)), (yc, .inl (g 1, 2, .inl f_yc)), (yr, .inl (g 1, 2, .inl f_yr)), (al, .inl (g 1, 39, .inl f_3))]) [3, 0, 4, 1, 2] (by decide) rfl
  refine lv_icmp_ge (tgt := 87) hx hb dX9_goInEarnest_14 (by decide) (fun _ => ?_) (fun c9 => absurd (by first | decide | rfl) c9)
  refine lv_aload_n hx hb dX9_goInEarnest_87 rfl (lv_at hl 3 rfl) ?_
  refine lv_iload_n hx hb dX9_goInEarnest_88 rfl (lv_at hl 1 rfl) ?_
  refine k_gov (wr := [(yt, .inl (g 1, 2, .inl f_yt)), (yc, .inl (g 1, 2, .inl f_yc))]) hP hD hS hA [0, 3, 4] [1, 2] rfl rfl (by decide) (by decide) (va_runV (As := [.int 0]) (rest := []) ⟨hx, hb, hml, hown, hts⟩ (m_goDie l D g _ y yr al fs_y f_yr f_3 h_y_rooms h_y_bank h_y_all h_yr_at0) (cwV 1 hts gX9_goInEarnest_X9_goDie rfl rfl rfl (by decide +kernel) ⟨Nat.le_of_ble_eq_true rfl, Nat.le_of_ble_eq_true rfl⟩) (k_preV hK (hP.sub [0, 3, 4] rfl) (hD.sub [0, 3, 4] (by decide) rfl) 9 0 rfl rfl) rfl rfl hl.1 rfl (lv_room (Nat.le_of_ble_eq_true rfl)) dX9_goInEarnest_89 ⟨(Nat.le_of_ble_eq_true rfl), (Nat.le_of_ble_eq_true rfl)⟩) (fun u_7 H locs hw hP hD hS => ?_)
  rcases hw with ⟨f_8, rfl⟩
  have hP := hP.sub (ws' := [(y, .inr (9, fs_y)), (yt, .inl (g 1, 2, .inl f_yt)), (yc, .inl (g 1, 2, .inl f_yc)), (yr, .inl (g 1, 2, .inl f_yr)), (al, .inl (g 1, 39, .inl f_8))]) [2, 0, 1, 3, 4] rfl
  have hD := hD.sub (ws' := [(y, .inr (9, fs_y)), (yt, .inl (g 1, 2, .inl f_yt)), (yc, .inl (g 1, 2, .inl f_yc)), (yr, .inl (g 1, 2, .inl f_yr)), (al, .inl (g 1, 39, .inl f_8))]) [2, 0, 1, 3, 4] (by decide) rfl
  refine lv_iload_n hx hb dX9_goInEarnest_92 rfl (lv_at hl 2 rfl) ?_
  exact k_iret hx hb hr hlocks hK hP hD hS ⟨f_8, rfl, rfl⟩ dX9_goInEarnest_93
set_option maxHeartbeats 4000000 in
set_option maxRecDepth 100000 in
theorem m_quarter (l : Launch) (D : va_G) (g : Nat → ClassId) (sz : Nat) (y : Nat) (yt : Nat) (yc : Nat) (yr : Nat) (al : Nat) (wa : Nat) (fs_y : List Value) (v_y_undone : Value) (f_yt : Nat → Int32) (f_yc : Nat → Int32) (f_yr : Nat → Int32) (f_al : Nat → Int32) (f_wa : Nat → Int32) (h_y_cats : fs_y[11]? = some (.ref yc)) (h_y_rooms : fs_y[12]? = some (.ref yr)) (h_y_tenants : fs_y[13]? = some (.ref yt)) (h_y_bank : fs_y[35]? = some (.int 0)) (h_y_all : fs_y[45]? = some (.ref al)) (h_y_was : fs_y[49]? = some (.ref wa)) (h_y_acts : fs_y[50]? = some (.int 0)) (h_y_undone : fs_y[51]? = some (v_y_undone)) (h_yt_at0 : f_yt 0 = 0) (h_yc_at0 : f_yc 0 = 0) (h_yr_at0 : f_yr 0 = 0) (h_al_at37 : f_al 37 = 0) : Met l yX9_quarter wsX9_quarter ({ frames := 4, cells := 0, slots := 0, locals := 87 }) (va_Pc [.ref y] (kPre D g [(y, .inr (9, fs_y)), (yt, .inl (g 1, 2, .inl f_yt)), (yc, .inl (g 1, 2, .inl f_yc)), (yr, .inl (g 1, 2, .inl f_yr)), (al, .inl (g 1, 39, .inl f_al)), (wa, .inl (g 1, 1599, .inl f_wa))] sz)) (kQi D g (fun (r : Int32) (u : va_W) => 0 = r) (va_A [(y, .inr (9, fs_y)), (yt, .inl (g 1, 2, .inl f_yt)), (yc, .inl (g 1, 2, .inl f_yc)), (yr, .inl (g 1, 2, .inl f_yr)), (al, .inl (g 1, 39, .inl f_al)), (wa, .inl (g 1, 1599, .inl f_wa))] sz)) 0 0 (va_A [(y, .inr (9, fs_y)), (yt, .inl (g 1, 2, .inl f_yt)), (yc, .inl (g 1, 2, .inl f_yc)), (yr, .inl (g 1, 2, .inl f_yr)), (al, .inl (g 1, 39, .inl f_al)), (wa, .inl (g 1, 1599, .inl f_wa))] sz) := by
  refine k_head (cc := cX9_quarter) (maxL := 1) (ret := (some .int)) (by decide) rfl (Nat.le_of_ble_eq_true rfl) ?_
  intro p e s m below meth c ls A hx hb hr hlocks hml hown hin hts hA hP hK hD hS hl
  have hown : s.vm.findClass RX9 = some m.cls := hown
  have hl : lv_has ls 1 [(0, .ref y)] := hl
  refine lv_aload_n hx hb dX9_quarter_0 rfl (lv_at hl 0 rfl) ?_
  refine va_get (D := D) (ci := 9) (v := .ref al) (C := RX9) (T := TX9) (N := 67) hx hb hts iX9_quarter_X9 hown hK hP 0 rfl rfl 45 (by decide) (hts (.fieldLink RX9 94 "CatLeasesModel" "all" "[I") (List.mem_of_getElem? (i := 1) rfl)) (fun _ h9 => h9) h_y_all dX9_quarter_1 ?_
  refine lv_bipush (v := 37) hx hb dX9_quarter_4 (by decide) ?_
  refine va_iald hx hb hK hP 4 1 rfl rfl (k_in (i := 37) (n := 39) (by decide)) dX9_quarter_6 ?_
  refine k_top (v := 0) h_al_at37 ?_
  refine lv_sipush (v := 999) hx hb dX9_quarter_7 (by decide) ?_
  refine lv_icmp_ne (tgt := 15) hx hb dX9_quarter_10 (by decide) (fun _ => ?_) (fun c9 => absurd c9 (by first | decide | simp))
  refine lv_aload_n hx hb dX9_quarter_15 rfl (lv_at hl 0 rfl) ?_
  refine k_gov (wr := [(yt, .inl (g 1, 2, .inl f_yt)), (yc, .inl (g 1, 2, .inl f_yc)), (yr, .inl (g 1, 2, .inl f_yr))]) hP hD hS hA [0, 5, 4] [1, 2, 3] rfl rfl (by decide) (by decide) (va_runV (As := []) (rest := []) ⟨hx, hb, hml, hown, hts⟩ (m_keepAct l D g _ y wa al fs_y (v_y_undone) f_wa f_al h_y_all h_y_was h_y_acts h_y_undone) (cwV 0 hts gX9_quarter_X9_keepAct rfl rfl rfl (by decide +kernel) ⟨Nat.le_of_ble_eq_true rfl, Nat.le_of_ble_eq_true rfl⟩) (k_preV hK (hP.sub [0, 5, 4] rfl) (hD.sub [0, 5, 4] (by decide) rfl) 9 0 rfl rfl) rfl rfl hl.1 rfl (lv_room (Nat.le_of_ble_eq_true rfl)) dX9_quarter_16 ⟨(Nat.le_of_ble_eq_true rfl), (Nat.le_of_ble_eq_true rfl)⟩) (fun u_2 H locs hw hP hD hS => ?_)
  rcases hw with ⟨f_3, rfl⟩
  have hP := hP.sub (ws' := [(y, .inr (9, ((fs_y.set 50 (.int 1)).set 51 (.int 0)))), (yt, .inl (g 1, 2, .inl f_yt)), (yc, .inl (g 1, 2, .inl f_yc)), (yr, .inl (g 1, 2, .inl f_yr)), (al, .inl (g 1, 39, .inl f_al)), (wa, .inl (g 1, 1599, .inl f_3))]) [3, 0, 1, 2, 5, 4] rfl
  have hD := hD.sub (ws' := [(y, .inr (9, ((fs_y.set 50 (.int 1)).set 51 (.int 0)))), (yt, .inl (g 1, 2, .inl f_yt)), (yc, .inl (g 1, 2, .inl f_yc)), (yr, .inl (g 1, 2, .inl f_yr)), (al, .inl (g 1, 39, .inl f_al)), (wa, .inl (g 1, 1599, .inl f_3))]) [3, 0, 1, 2, 5, 4] (by decide) rfl
  refine lv_aload_n hx hb dX9_quarter_19 rfl (lv_at hl 0 rfl) ?_
  refine k_goi (wr := [(wa, .inl (g 1, 1599, .inl f_3))]) hP hD hS hA [0, 1, 2, 3, 4] [5] rfl rfl (by decide) (by decide) (va_runV (As := []) (rest := []) ⟨hx, hb, hml, hown, hts⟩ (m_goInEarnest l D g _ y yt yc yr al ((fs_y.set 50 (.int 1)).set 51 (.int 0)) f_yt f_yc f_yr f_al (k_sn (by decide) (k_sn (by decide) h_y_cats)) (k_sn (by decide) (k_sn (by decide) h_y_rooms)) (k_sn (by decide) (k_sn (by decide) h_y_tenants)) (k_sn (by decide) (k_sn (by decide) h_y_bank)) (k_sn (by decide) (k_sn (by decide) h_y_all)) h_yt_at0 h_yc_at0 h_yr_at0) (cwV 0 hts gX9_quarter_X9_goInEarnest rfl rfl rfl (by decide +kernel) ⟨Nat.le_of_ble_eq_true rfl, Nat.le_of_ble_eq_true rfl⟩) (k_preV hK (hP.sub [0, 1, 2, 3, 4] rfl) (hD.sub [0, 1, 2, 3, 4] (by decide) rfl) 9 0 rfl rfl) rfl rfl hl.1 rfl (lv_room (Nat.le_of_ble_eq_true rfl)) dX9_quarter_20 ⟨(Nat.le_of_ble_eq_true rfl), (Nat.le_of_ble_eq_true rfl)⟩) (fun r_4 u_5 H locs hw hP hD hS => ?_)
  rcases hw with ⟨f_6, rfl, rfl⟩
  have hP := hP.sub (ws' := [(y, .inr (9, ((fs_y.set 50 (.int 1)).set 51 (.int 0)))), (yt, .inl (g 1, 2, .inl f_yt)), (yc, .inl (g 1, 2, .inl f_yc)), (yr, .inl (g 1, 2, .inl f_yr)), (al, .inl (g 1, 39, .inl f_6)), (wa, .inl (g 1, 1599, .inl f_3))]) [1, 2, 3, 4, 5, 0] rfl
  have hD := hD.sub (ws' := [(y, .inr (9, ((fs_y.set 50 (.int 1)).set 51 (.int 0)))), (yt, .inl (g 1, 2, .inl f_yt)), (yc, .inl (g 1, 2, .inl f_yc)), (yr, .inl (g 1, 2, .inl f_yr)), (al, .inl (g 1, 39, .inl f_6)), (wa, .inl (g 1, 1599, .inl f_3))]) [1, 2, 3, 4, 5, 0] (by decide) rfl
  exact k_iret hx hb hr hlocks hK hP hD hS rfl dX9_quarter_23
set_option maxHeartbeats 4000000 in
set_option maxRecDepth 100000 in
theorem m_keepNow (l : Launch) (D : va_G) (g : Nat → ClassId) (sz : Nat) (y : Nat) (al : Nat) (ke : Nat) (fs_y : List Value) (f_al : Nat → Int32) (f_ke : Nat → Int32) (h_y_all : fs_y[45]? = some (.ref al)) (h_y_kept : fs_y[52]? = some (.ref ke)) : Met l yX9_keepNow wsX9_keepNow ({ frames := 0, cells := 0, slots := 0, locals := 0 }) (va_Pc [.ref y] (kPre D g [(y, .inr (9, fs_y)), (al, .inl (g 1, 39, .inl f_al)), (ke, .inl (g 1, 39, .inl f_ke))] sz)) (kQv D g (fun (u : va_W) => ∃ (fe_ke : Nat → Int32), u = [(y, .inr (9, fs_y)), (al, .inl (g 1, 39, .inl f_al)), (ke, .inl (g 1, 39, .inl fe_ke))]) (va_A [(y, .inr (9, fs_y)), (al, .inl (g 1, 39, .inl f_al)), (ke, .inl (g 1, 39, .inl f_ke))] sz)) 0 0 (va_A [(y, .inr (9, fs_y)), (al, .inl (g 1, 39, .inl f_al)), (ke, .inl (g 1, 39, .inl f_ke))] sz) := by
  refine k_headQ (cc := cX9_keepNow) (maxL := 2) (ret := none) (by decide) rfl (Nat.le_of_ble_eq_true rfl) ?_
  intro p e s m below meth c ls A Q ar hQ hx hb hr hlocks hml hown hin hts hA hP hK hD hS hl
  have hown : s.vm.findClass RX9 = some m.cls := hown
  have hl : lv_has ls 2 [(0, .ref y)] := hl
  refine lv_iconst (v := 0) hx hb dX9_keepNow_0 (by decide) ?_
  refine lv_istore_n (lv' := [(1, .int 0), (0, .ref y)]) hx hb dX9_keepNow_1 rfl hl (by decide) rfl (fun ls hl => ?_)
  have hloop_6 : ∀ (n_2 i_1 : Nat) (f_3 : Nat → Int32), i_1 ≤ 39 → 39 < i_1 + n_2 → ∀ (H : Heap) (locs : List Loc) (ls : Array Slot), va_P D vwCl [(y, .inr (9, fs_y)), (al, .inl (g 1, 39, .inl f_al)), (ke, .inl (g 1, 39, .inl f_3))] H → va_D A [(y, .inr (9, fs_y)), (al, .inl (g 1, 39, .inl f_al)), (ke, .inl (g 1, 39, .inl f_3))] → va_S A s.heap H locs → lv_has ls 2 [(1, .int (nI i_1)), (0, .ref y)] → W p l e (headSpec wsX9_keepNow ({ frames := 0, cells := 0, slots := 0, locals := 0 })).room s m ar below meth c H locs 0 0 Q (F0 m 2 ls []) := by
    intro n_2
    induction n_2 with
    | zero =>
      intro i_1 f_3 h_4 h_5
      exact absurd h_5 (by omega)
    | succ n_2 ih =>
      intro i_1 f_3 h_4 h_5  H locs ls hP hD hS hl
      refine lv_iload_n hx hb dX9_keepNow_2 rfl (lv_at hl 0 rfl) ?_
      refine lv_bipush (v := 39) hx hb dX9_keepNow_3 (by decide) ?_
      refine lv_icmp_ge (tgt := 26) hx hb dX9_keepNow_5 (by decide) (fun c_7 => ?_) (fun c_7 => ?_)
      · have h_8 := k_ge1 (N := 39) rfl h_4 (by first | decide | omega) c_7
        subst h_8
        rw [hQ]
        exact k_vret hx hb hr hlocks hK hP hD hS ⟨f_3, rfl⟩ dX9_keepNow_26
      · have h_8 : i_1 < 39 := k_ge2 (N := 39) rfl h_4 (by first | decide | omega) c_7
        refine lv_aload_n hx hb dX9_keepNow_8 rfl (lv_at hl 1 rfl) ?_
        refine va_get (D := D) (ci := 9) (v := .ref ke) (C := RX9) (T := TX9) (N := 67) hx hb hts iX9_keepNow_X9 hown hK hP 0 rfl rfl 52 (by decide) (hts (.fieldLink RX9 109 "CatLeasesModel" "kept" "[I") (List.mem_of_getElem? (i := 1) rfl)) (fun _ h9 => h9) h_y_kept dX9_keepNow_9 ?_
        refine lv_iload_n hx hb dX9_keepNow_12 rfl (lv_at hl 0 rfl) ?_
        refine lv_aload_n hx hb dX9_keepNow_13 rfl (lv_at hl 1 rfl) ?_
        refine va_get (D := D) (ci := 9) (v := .ref al) (C := RX9) (T := TX9) (N := 67) hx hb hts iX9_keepNow_X9 hown hK hP 0 rfl rfl 45 (by decide) (hts (.fieldLink RX9 94 "CatLeasesModel" "all" "[I") (List.mem_of_getElem? (i := 2) rfl)) (fun _ h9 => h9) h_y_all dX9_keepNow_14 ?_
        refine lv_iload_n hx hb dX9_keepNow_17 rfl (lv_at hl 0 rfl) ?_
        refine va_iald hx hb hK hP 1 1 rfl rfl (vp_in_nI (n := i_1) (N := 39) (by omega) (by decide)) dX9_keepNow_18 ?_
        refine k_top (v := (f_al i_1)) (by rw [nI_clamp (n := i_1) (by omega)]) ?_
        refine va_iast hx hb hK hP hD hS 2 1 rfl rfl (vp_in_nI (n := i_1) (N := 39) (by omega) (by decide)) dX9_keepNow_19 (fun H locs hP hD hS => ?_)
        rw [nI_clamp (n := i_1) (by omega)] at hP hD
        have hP : va_P D vwCl [(y, .inr (9, fs_y)), (al, .inl (g 1, 39, .inl f_al)), (ke, .inl (g 1, 39, .inl (upd f_3 i_1 (f_al i_1))))] H := hP
        have hD : va_D A [(y, .inr (9, fs_y)), (al, .inl (g 1, 39, .inl f_al)), (ke, .inl (g 1, 39, .inl (upd f_3 i_1 (f_al i_1))))] := hD
        refine lv_iinc (v := nI (i_1 + 1)) (lv' := [(1, .int (nI (i_1 + 1))), (0, .ref y)]) hx hb dX9_keepNow_20 hl (k := 0) rfl (k_inc i_1) (by decide) rfl (fun ls hl => ?_)
        refine lv_goto (tgt := 2) hx hb dX9_keepNow_23 (by decide) ?_
        exact ih (i_1 + 1) (upd f_3 i_1 (f_al i_1)) (by omega) (by omega)  _ _ _ hP hD hS (lv_sub hl [0, 1] rfl)
  exact hloop_6 (39 + 1) 0 f_ke (by omega) (by omega)  _ _ _ hP hD hS hl
set_option maxHeartbeats 4000000 in
set_option maxRecDepth 100000 in
theorem m_bringBack (l : Launch) (D : va_G) (g : Nat → ClassId) (sz : Nat) (y : Nat) (al : Nat) (ke : Nat) (fs_y : List Value) (f_al : Nat → Int32) (f_ke : Nat → Int32) (h_y_all : fs_y[45]? = some (.ref al)) (h_y_kept : fs_y[52]? = some (.ref ke)) : Met l yX9_bringBack wsX9_bringBack ({ frames := 0, cells := 0, slots := 0, locals := 0 }) (va_Pc [.ref y] (kPre D g [(y, .inr (9, fs_y)), (al, .inl (g 1, 39, .inl f_al)), (ke, .inl (g 1, 39, .inl f_ke))] sz)) (kQv D g (fun (u : va_W) => ∃ (fe_al : Nat → Int32), u = [(y, .inr (9, fs_y)), (al, .inl (g 1, 39, .inl fe_al)), (ke, .inl (g 1, 39, .inl f_ke))]) (va_A [(y, .inr (9, fs_y)), (al, .inl (g 1, 39, .inl f_al)), (ke, .inl (g 1, 39, .inl f_ke))] sz)) 0 0 (va_A [(y, .inr (9, fs_y)), (al, .inl (g 1, 39, .inl f_al)), (ke, .inl (g 1, 39, .inl f_ke))] sz) := by
  refine k_headQ (cc := cX9_bringBack) (maxL := 2) (ret := none) (by decide) rfl (Nat.le_of_ble_eq_true rfl) ?_
  intro p e s m below meth c ls A Q ar hQ hx hb hr hlocks hml hown hin hts hA hP hK hD hS hl
  have hown : s.vm.findClass RX9 = some m.cls := hown
  have hl : lv_has ls 2 [(0, .ref y)] := hl
  refine lv_iconst (v := 0) hx hb dX9_bringBack_0 (by decide) ?_
  refine lv_istore_n (lv' := [(1, .int 0), (0, .ref y)]) hx hb dX9_bringBack_1 rfl hl (by decide) rfl (fun ls hl => ?_)
  have hloop_6 : ∀ (n_2 i_1 : Nat) (f_3 : Nat → Int32), i_1 ≤ 39 → 39 < i_1 + n_2 → ∀ (H : Heap) (locs : List Loc) (ls : Array Slot), va_P D vwCl [(y, .inr (9, fs_y)), (al, .inl (g 1, 39, .inl f_3)), (ke, .inl (g 1, 39, .inl f_ke))] H → va_D A [(y, .inr (9, fs_y)), (al, .inl (g 1, 39, .inl f_3)), (ke, .inl (g 1, 39, .inl f_ke))] → va_S A s.heap H locs → lv_has ls 2 [(1, .int (nI i_1)), (0, .ref y)] → W p l e (headSpec wsX9_bringBack ({ frames := 0, cells := 0, slots := 0, locals := 0 })).room s m ar below meth c H locs 0 0 Q (F0 m 2 ls []) := by
    intro n_2
    induction n_2 with
    | zero =>
      intro i_1 f_3 h_4 h_5
      exact absurd h_5 (by omega)
    | succ n_2 ih =>
      intro i_1 f_3 h_4 h_5  H locs ls hP hD hS hl
      refine lv_iload_n hx hb dX9_bringBack_2 rfl (lv_at hl 0 rfl) ?_
      refine lv_bipush (v := 39) hx hb dX9_bringBack_3 (by decide) ?_
      refine lv_icmp_ge (tgt := 26) hx hb dX9_bringBack_5 (by decide) (fun c_7 => ?_) (fun c_7 => ?_)
      · have h_8 := k_ge1 (N := 39) rfl h_4 (by first | decide | omega) c_7
        subst h_8
        rw [hQ]
        exact k_vret hx hb hr hlocks hK hP hD hS ⟨f_3, rfl⟩ dX9_bringBack_26
      · have h_8 : i_1 < 39 := k_ge2 (N := 39) rfl h_4 (by first | decide | omega) c_7
        refine lv_aload_n hx hb dX9_bringBack_8 rfl (lv_at hl 1 rfl) ?_
        refine va_get (D := D) (ci := 9) (v := .ref al) (C := RX9) (T := TX9) (N := 67) hx hb hts iX9_bringBack_X9 hown hK hP 0 rfl rfl 45 (by decide) (hts (.fieldLink RX9 94 "CatLeasesModel" "all" "[I") (List.mem_of_getElem? (i := 1) rfl)) (fun _ h9 => h9) h_y_all dX9_bringBack_9 ?_
        refine lv_iload_n hx hb dX9_bringBack_12 rfl (lv_at hl 0 rfl) ?_
        refine lv_aload_n hx hb dX9_bringBack_13 rfl (lv_at hl 1 rfl) ?_
        refine va_get (D := D) (ci := 9) (v := .ref ke) (C := RX9) (T := TX9) (N := 67) hx hb hts iX9_bringBack_X9 hown hK hP 0 rfl rfl 52 (by decide) (hts (.fieldLink RX9 109 "CatLeasesModel" "kept" "[I") (List.mem_of_getElem? (i := 2) rfl)) (fun _ h9 => h9) h_y_kept dX9_bringBack_14 ?_
        refine lv_iload_n hx hb dX9_bringBack_17 rfl (lv_at hl 0 rfl) ?_
        refine va_iald hx hb hK hP 2 1 rfl rfl (vp_in_nI (n := i_1) (N := 39) (by omega) (by decide)) dX9_bringBack_18 ?_
        refine k_top (v := (f_ke i_1)) (by rw [nI_clamp (n := i_1) (by omega)]) ?_
        refine va_iast hx hb hK hP hD hS 1 1 rfl rfl (vp_in_nI (n := i_1) (N := 39) (by omega) (by decide)) dX9_bringBack_19 (fun H locs hP hD hS => ?_)
        rw [nI_clamp (n := i_1) (by omega)] at hP hD
        have hP : va_P D vwCl [(y, .inr (9, fs_y)), (al, .inl (g 1, 39, .inl (upd f_3 i_1 (f_ke i_1)))), (ke, .inl (g 1, 39, .inl f_ke))] H := hP
        have hD : va_D A [(y, .inr (9, fs_y)), (al, .inl (g 1, 39, .inl (upd f_3 i_1 (f_ke i_1)))), (ke, .inl (g 1, 39, .inl f_ke))] := hD
        refine lv_iinc (v := nI (i_1 + 1)) (lv' := [(1, .int (nI (i_1 + 1))), (0, .ref y)]) hx hb dX9_bringBack_20 hl (k := 0) rfl (k_inc i_1) (by decide) rfl (fun ls hl => ?_)
        refine lv_goto (tgt := 2) hx hb dX9_bringBack_23 (by decide) ?_
        exact ih (i_1 + 1) (upd f_3 i_1 (f_ke i_1)) (by omega) (by omega)  _ _ _ hP hD hS (lv_sub hl [0, 1] rfl)
  exact hloop_6 (39 + 1) 0 f_al (by omega) (by omega)  _ _ _ hP hD hS hl
set_option maxHeartbeats 4000000 in
set_option maxRecDepth 100000 in
theorem m_isAhead (l : Launch) (D : va_G) (g : Nat → ClassId) (sz : Nat) (p0 : Int32) : Met l yX9_isAhead wsX9_isAhead ({ frames := 0, cells := 0, slots := 0, locals := 0 }) (va_Pc [.int p0] (kPre D g [] sz)) (kQi D g (fun (r : Int32) (u : va_W) => ((p0 < 0) ∧ 0 = r ∧ u = []) ∨ ((¬ p0 < 0) ∧ (60 < p0) ∧ 0 = r ∧ u = []) ∨ ((¬ p0 < 0) ∧ (¬ 60 < p0) ∧ 1 = r ∧ u = [])) (va_A [] sz)) 0 0 (va_A [] sz) := by
  refine k_head (cc := cX9_isAhead) (maxL := 1) (ret := (some .boolean)) (by decide) rfl (Nat.le_of_ble_eq_true rfl) ?_
  intro p e s m below meth c ls A hx hb hr hlocks hml hown hin hts hA hP hK hD hS hl
  have hown : s.vm.findClass RX9 = some m.cls := hown
  have hl : lv_has ls 1 [(0, .int p0)] := hl
  refine lv_iload_n hx hb dX9_isAhead_0 rfl (lv_at hl 0 rfl) ?_
  refine lv_if_lt (tgt := 14) hx hb dX9_isAhead_1 (by decide) (fun c_1 => ?_) (fun c_1 => ?_)
  · refine lv_iconst (v := 0) hx hb dX9_isAhead_14 (by decide) ?_
    exact k_zret hx hb hr hlocks rfl hK hP hD hS (Or.inl ⟨c_1, rfl, rfl⟩) dX9_isAhead_15
  · refine lv_iload_n hx hb dX9_isAhead_4 rfl (lv_at hl 0 rfl) ?_
    refine lv_bipush (v := 60) hx hb dX9_isAhead_5 (by decide) ?_
    refine lv_icmp_gt (tgt := 14) hx hb dX9_isAhead_7 (by decide) (fun c_2 => ?_) (fun c_2 => ?_)
    · refine lv_iconst (v := 0) hx hb dX9_isAhead_14 (by decide) ?_
      exact k_zret hx hb hr hlocks rfl hK hP hD hS (Or.inr (Or.inl ⟨c_1, c_2, rfl, rfl⟩)) dX9_isAhead_15
    · refine lv_iconst (v := 1) hx hb dX9_isAhead_10 (by decide) ?_
      refine lv_goto (tgt := 15) hx hb dX9_isAhead_11 (by decide) ?_
      exact k_zret hx hb hr hlocks rfl hK hP hD hS (Or.inr (Or.inr ⟨c_1, c_2, rfl, rfl⟩)) dX9_isAhead_15
set_option maxHeartbeats 4000000 in
set_option maxRecDepth 100000 in
theorem m_outAfter (l : Launch) (D : va_G) (g : Nat → ClassId) (sz : Nat) (y : Nat) (yt : Nat) (al : Nat) (ke : Nat) (kN : Nat) (fs_y : List Value) (f_yt : Nat → Int32) (f_al : Nat → Int32) (f_ke : Nat → Int32) (h_y_tenants : fs_y[13]? = some (.ref yt)) (h_y_bank : fs_y[35]? = some (.int 0)) (h_y_all : fs_y[45]? = some (.ref al)) (h_y_kept : fs_y[52]? = some (.ref ke)) (hkN : kN ≤ 60) (h_yt_at0 : f_yt 0 = 0) : Met l yX9_outAfter wsX9_outAfter ({ frames := 3, cells := 0, slots := 0, locals := 64 }) (va_Pc [.ref y, .int (nI kN)] (kPre D g [(y, .inr (9, fs_y)), (yt, .inl (g 1, 2, .inl f_yt)), (al, .inl (g 1, 39, .inl f_al)), (ke, .inl (g 1, 39, .inl f_ke))] sz)) (kQi D g (fun (r : Int32) (u : va_W) => ∃ (fe_al : Nat → Int32) (fe_ke : Nat → Int32), 0 = r ∧ u = [(y, .inr (9, fs_y)), (yt, .inl (g 1, 2, .inl f_yt)), (al, .inl (g 1, 39, .inl fe_al)), (ke, .inl (g 1, 39, .inl fe_ke))]) (va_A [(y, .inr (9, fs_y)), (yt, .inl (g 1, 2, .inl f_yt)), (al, .inl (g 1, 39, .inl f_al)), (ke, .inl (g 1, 39, .inl f_ke))] sz)) 0 0 (va_A [(y, .inr (9, fs_y)), (yt, .inl (g 1, 2, .inl f_yt)), (al, .inl (g 1, 39, .inl f_al)), (ke, .inl (g 1, 39, .inl f_ke))] sz) := by
  refine k_headQ (cc := cX9_outAfter) (maxL := 4) (ret := (some .int)) (by decide) rfl (Nat.le_of_ble_eq_true rfl) ?_
  intro p e s m below meth c ls A Q ar hQ hx hb hr hlocks hml hown hin hts hA hP hK hD hS hl
  have hown : s.vm.findClass RX9 = some m.cls := hown
  have hl : lv_has ls 4 [(0, .ref y), (1, .int (nI kN))] := hl
  refine lv_iconst (v := 0) hx hb dX9_outAfter_0 (by decide) ?_
  refine lv_istore_n (lv' := [(2, .int 0), (0, .ref y), (1, .int (nI kN))]) hx hb dX9_outAfter_1 rfl hl (by decide) rfl (fun ls hl => ?_)
  have hloop_6 : ∀ (n_2 i_1 : Nat) (f_3 : Nat → Int32), i_1 ≤ kN → kN < i_1 + n_2 → ∀ (H : Heap) (locs : List Loc) (ls : Array Slot), va_P D vwCl [(y, .inr (9, fs_y)), (yt, .inl (g 1, 2, .inl f_yt)), (al, .inl (g 1, 39, .inl f_3)), (ke, .inl (g 1, 39, .inl f_ke))] H → va_D A [(y, .inr (9, fs_y)), (yt, .inl (g 1, 2, .inl f_yt)), (al, .inl (g 1, 39, .inl f_3)), (ke, .inl (g 1, 39, .inl f_ke))] → va_S A s.heap H locs → lv_has ls 4 [(2, .int (nI i_1)), (0, .ref y), (1, .int (nI kN))] → W p l e (headSpec wsX9_outAfter ({ frames := 3, cells := 0, slots := 0, locals := 64 })).room s m ar below meth c H locs 0 0 Q (F0 m 2 ls []) := by
    intro n_2
    induction n_2 with
    | zero =>
      intro i_1 f_3 h_4 h_5
      exact absurd h_5 (by omega)
    | succ n_2 ih =>
      intro i_1 f_3 h_4 h_5  H locs ls hP hD hS hl
      refine lv_iload_n hx hb dX9_outAfter_2 rfl (lv_at hl 0 rfl) ?_
      refine lv_iload_n hx hb dX9_outAfter_3 rfl (lv_at hl 2 rfl) ?_
      refine lv_icmp_ge (tgt := 18) hx hb dX9_outAfter_4 (by decide) (fun c_7 => ?_) (fun c_7 => ?_)
      · have h_8 := (k_ge1 (N := kN) rfl h_4 (by first | decide | omega) c_7).symm
        subst h_8
        refine lv_iconst (v := 0) hx hb dX9_outAfter_18 (by decide) ?_
        refine lv_istore_n (lv' := [(2, .int 0), (0, .ref y), (1, .int (nI kN))]) hx hb dX9_outAfter_19 rfl hl (by decide) rfl (fun ls hl => ?_)
        refine lv_iconst (v := 0) hx hb dX9_outAfter_20 (by decide) ?_
        refine lv_istore_n (lv' := [(3, .int 0), (2, .int 0), (0, .ref y), (1, .int (nI kN))]) hx hb dX9_outAfter_21 rfl hl (by decide) rfl (fun ls hl => ?_)
        refine lv_iload_n hx hb dX9_outAfter_22 rfl (lv_at hl 0 rfl) ?_
        refine lv_aload_n hx hb dX9_outAfter_23 rfl (lv_at hl 2 rfl) ?_
        refine k_goi (wr := [(al, .inl (g 1, 39, .inl f_3)), (ke, .inl (g 1, 39, .inl f_ke))]) hP hD hS hA [0, 1] [2, 3] rfl rfl (by decide) (by decide) (va_runV (As := []) (rest := [.int 0]) ⟨hx, hb, hml, hown, hts⟩ (m_many l D g _ y yt fs_y f_yt h_y_tenants h_y_bank h_yt_at0) (cwV 0 hts gX9_outAfter_X9_many rfl rfl rfl (by decide +kernel) ⟨Nat.le_of_ble_eq_true rfl, Nat.le_of_ble_eq_true rfl⟩) (k_preV hK (hP.sub [0, 1] rfl) (hD.sub [0, 1] (by decide) rfl) 9 0 rfl rfl) rfl rfl hl.1 rfl (lv_room (Nat.le_of_ble_eq_true rfl)) dX9_outAfter_24 ⟨(Nat.le_of_ble_eq_true rfl), (Nat.le_of_ble_eq_true rfl)⟩) (fun r_9 u_10 H locs hw hP hD hS => ?_)
        rcases hw with ⟨rfl, rfl⟩
        have hP := hP.sub (ws' := [(y, .inr (9, fs_y)), (yt, .inl (g 1, 2, .inl f_yt)), (al, .inl (g 1, 39, .inl f_3)), (ke, .inl (g 1, 39, .inl f_ke))]) [2, 3, 0, 1] rfl
        have hD := hD.sub (ws' := [(y, .inr (9, fs_y)), (yt, .inl (g 1, 2, .inl f_yt)), (al, .inl (g 1, 39, .inl f_3)), (ke, .inl (g 1, 39, .inl f_ke))]) [2, 3, 0, 1] (by decide) rfl
        refine lv_icmp_ge (tgt := 52) hx hb dX9_outAfter_27 (by decide) (fun _ => ?_) (fun c9 => absurd (by first | decide | rfl) c9)
        refine lv_aload_n hx hb dX9_outAfter_52 rfl (lv_at hl 2 rfl) ?_
        refine k_gov (wr := [(yt, .inl (g 1, 2, .inl f_yt))]) hP hD hS hA [0, 2, 3] [1] rfl rfl (by decide) (by decide) (va_runV (As := []) (rest := []) ⟨hx, hb, hml, hown, hts⟩ (m_bringBack l D g _ y al ke fs_y f_3 f_ke h_y_all h_y_kept) (cwV 0 hts gX9_outAfter_X9_bringBack rfl rfl rfl (by decide +kernel) ⟨Nat.le_of_ble_eq_true rfl, Nat.le_of_ble_eq_true rfl⟩) (k_preV hK (hP.sub [0, 2, 3] rfl) (hD.sub [0, 2, 3] (by decide) rfl) 9 0 rfl rfl) rfl rfl hl.1 rfl (lv_room (Nat.le_of_ble_eq_true rfl)) dX9_outAfter_53 ⟨(Nat.le_of_ble_eq_true rfl), (Nat.le_of_ble_eq_true rfl)⟩) (fun u_12 H locs hw hP hD hS => ?_)
        rcases hw with ⟨f_13, rfl⟩
        have hP := hP.sub (ws' := [(y, .inr (9, fs_y)), (yt, .inl (g 1, 2, .inl f_yt)), (al, .inl (g 1, 39, .inl f_13)), (ke, .inl (g 1, 39, .inl f_ke))]) [1, 0, 2, 3] rfl
        have hD := hD.sub (ws' := [(y, .inr (9, fs_y)), (yt, .inl (g 1, 2, .inl f_yt)), (al, .inl (g 1, 39, .inl f_13)), (ke, .inl (g 1, 39, .inl f_ke))]) [1, 0, 2, 3] (by decide) rfl
        refine lv_iload_n hx hb dX9_outAfter_56 rfl (lv_at hl 1 rfl) ?_
        rw [hQ]
        exact k_iret hx hb hr hlocks hK hP hD hS ⟨f_13, f_ke, rfl, rfl⟩ dX9_outAfter_57
      · have h_8 : i_1 < kN := k_ge2 (N := kN) rfl h_4 (by first | decide | omega) c_7
        refine lv_aload_n hx hb dX9_outAfter_7 rfl (lv_at hl 1 rfl) ?_
        refine k_goi (wr := [(ke, .inl (g 1, 39, .inl f_ke))]) hP hD hS hA [0, 1, 2] [3] rfl rfl (by decide) (by decide) (va_runV (As := []) (rest := []) ⟨hx, hb, hml, hown, hts⟩ (m_goQuarter l D g _ y yt al fs_y f_yt f_3 h_y_tenants h_y_bank h_y_all h_yt_at0) (cwV 0 hts gX9_outAfter_X9_goQuarter rfl rfl rfl (by decide +kernel) ⟨Nat.le_of_ble_eq_true rfl, Nat.le_of_ble_eq_true rfl⟩) (k_preV hK (hP.sub [0, 1, 2] rfl) (hD.sub [0, 1, 2] (by decide) rfl) 9 0 rfl rfl) rfl rfl hl.1 rfl (lv_room (Nat.le_of_ble_eq_true rfl)) dX9_outAfter_8 ⟨(Nat.le_of_ble_eq_true rfl), (Nat.le_of_ble_eq_true rfl)⟩) (fun r_14 u_15 H locs hw hP hD hS => ?_)
        rcases hw with ⟨f_16, rfl, rfl⟩
        have hP := hP.sub (ws' := [(y, .inr (9, fs_y)), (yt, .inl (g 1, 2, .inl f_yt)), (al, .inl (g 1, 39, .inl f_16)), (ke, .inl (g 1, 39, .inl f_ke))]) [1, 2, 3, 0] rfl
        have hD := hD.sub (ws' := [(y, .inr (9, fs_y)), (yt, .inl (g 1, 2, .inl f_yt)), (al, .inl (g 1, 39, .inl f_16)), (ke, .inl (g 1, 39, .inl f_ke))]) [1, 2, 3, 0] (by decide) rfl
        refine lv_istore_n (lv' := [(3, .int 0), (2, .int (nI i_1)), (0, .ref y), (1, .int (nI kN))]) hx hb dX9_outAfter_11 rfl hl (by decide) rfl (fun ls hl => ?_)
        refine lv_iinc (v := nI (i_1 + 1)) (lv' := [(2, .int (nI (i_1 + 1))), (3, .int 0), (0, .ref y), (1, .int (nI kN))]) hx hb dX9_outAfter_12 hl (k := 1) rfl (k_inc i_1) (by decide) rfl (fun ls hl => ?_)
        refine lv_goto (tgt := 2) hx hb dX9_outAfter_15 (by decide) ?_
        exact ih (i_1 + 1) f_16 (by omega) (by omega)  _ _ _ hP hD hS (lv_sub hl [0, 2, 3] rfl)
  exact hloop_6 (kN + 1) 0 f_al (by omega) (by omega)  _ _ _ hP hD hS hl
set_option maxHeartbeats 4000000 in
set_option maxRecDepth 100000 in
theorem m_housed (l : Launch) (D : va_G) (g : Nat → ClassId) (sz : Nat) (y : Nat) (p0 : Int32) (yt : Nat) (al : Nat) (ke : Nat) (fs_y : List Value) (f_yt : Nat → Int32) (f_al : Nat → Int32) (f_ke : Nat → Int32) (h_y_tenants : fs_y[13]? = some (.ref yt)) (h_y_bank : fs_y[35]? = some (.int 0)) (h_y_all : fs_y[45]? = some (.ref al)) (h_y_kept : fs_y[52]? = some (.ref ke)) (h_yt_at0 : f_yt 0 = 0) : Met l yX9_housed wsX9_housed ({ frames := 4, cells := 0, slots := 0, locals := 87 }) (va_Pc [.ref y, .int p0] (kPre D g [(y, .inr (9, fs_y)), (yt, .inl (g 1, 2, .inl f_yt)), (al, .inl (g 1, 39, .inl f_al)), (ke, .inl (g 1, 39, .inl f_ke))] sz)) (kQi D g (fun (r : Int32) (u : va_W) => ((p0 < 0) ∧ (-1) = r) ∨ ((¬ p0 < 0) ∧ (60 < p0) ∧ (-1) = r) ∨ ((¬ p0 < 0) ∧ (¬ 60 < p0) ∧ 0 = r)) (va_A [(y, .inr (9, fs_y)), (yt, .inl (g 1, 2, .inl f_yt)), (al, .inl (g 1, 39, .inl f_al)), (ke, .inl (g 1, 39, .inl f_ke))] sz)) 0 0 (va_A [(y, .inr (9, fs_y)), (yt, .inl (g 1, 2, .inl f_yt)), (al, .inl (g 1, 39, .inl f_al)), (ke, .inl (g 1, 39, .inl f_ke))] sz) := by
  refine k_headQ (cc := cX9_housed) (maxL := 2) (ret := (some .int)) (by decide) rfl (Nat.le_of_ble_eq_true rfl) ?_
  intro p e s m below meth c ls A Q ar hQ hx hb hr hlocks hml hown hin hts hA hP hK hD hS hl
  have hown : s.vm.findClass RX9 = some m.cls := hown
  have hl : lv_has ls 2 [(0, .ref y), (1, .int p0)] := hl
  refine lv_iload_n hx hb dX9_housed_0 rfl (lv_at hl 1 rfl) ?_
  refine k_goi (wr := [(y, .inr (9, fs_y)), (yt, .inl (g 1, 2, .inl f_yt)), (al, .inl (g 1, 39, .inl f_al)), (ke, .inl (g 1, 39, .inl f_ke))]) hP hD hS hA [] [0, 1, 2, 3] rfl rfl (by decide) (by decide) (va_runS (As := [.int p0]) (rest := []) ⟨hx, hb, hml, hown, hts⟩ (m_isAhead l D g _ p0) (va_cwS 1 hts gX9_housed_X9_isAhead rfl rfl rfl (by decide +kernel) ⟨Nat.le_of_ble_eq_true rfl, Nat.le_of_ble_eq_true rfl⟩) (k_preS hK (hP.sub [] rfl) (hD.sub [] (by decide) rfl)) rfl rfl hl.1 rfl (lv_room (Nat.le_of_ble_eq_true rfl)) dX9_housed_1 ⟨(Nat.le_of_ble_eq_true rfl), (Nat.le_of_ble_eq_true rfl)⟩) (fun r_1 u_2 H locs hw hP hD hS => ?_)
  rcases hw with ⟨c_3, rfl, rfl⟩ | ⟨c_4, c_5, rfl, rfl⟩ | ⟨c_6, c_7, rfl, rfl⟩
  · have hP := hP.sub (ws' := [(y, .inr (9, fs_y)), (yt, .inl (g 1, 2, .inl f_yt)), (al, .inl (g 1, 39, .inl f_al)), (ke, .inl (g 1, 39, .inl f_ke))]) [0, 1, 2, 3] rfl
    have hD := hD.sub (ws' := [(y, .inr (9, fs_y)), (yt, .inl (g 1, 2, .inl f_yt)), (al, .inl (g 1, 39, .inl f_al)), (ke, .inl (g 1, 39, .inl f_ke))]) [0, 1, 2, 3] (by decide) rfl
    refine lv_if_ne (tgt := 9) hx hb dX9_housed_4 (by decide) (fun c9 => absurd (by first | decide | rfl) c9) (fun _ => ?_)
    refine lv_iconst (v := (-1)) hx hb dX9_housed_7 (by decide) ?_
    rw [hQ]
    exact k_iret hx hb hr hlocks hK hP hD hS (Or.inl ⟨c_3, rfl⟩) dX9_housed_8
  · have hP := hP.sub (ws' := [(y, .inr (9, fs_y)), (yt, .inl (g 1, 2, .inl f_yt)), (al, .inl (g 1, 39, .inl f_al)), (ke, .inl (g 1, 39, .inl f_ke))]) [0, 1, 2, 3] rfl
    have hD := hD.sub (ws' := [(y, .inr (9, fs_y)), (yt, .inl (g 1, 2, .inl f_yt)), (al, .inl (g 1, 39, .inl f_al)), (ke, .inl (g 1, 39, .inl f_ke))]) [0, 1, 2, 3] (by decide) rfl
    refine lv_if_ne (tgt := 9) hx hb dX9_housed_4 (by decide) (fun c9 => absurd (by first | decide | rfl) c9) (fun _ => ?_)
    refine lv_iconst (v := (-1)) hx hb dX9_housed_7 (by decide) ?_
    rw [hQ]
    exact k_iret hx hb hr hlocks hK hP hD hS (Or.inr (Or.inl ⟨c_4, c_5, rfl⟩)) dX9_housed_8
  · have hP := hP.sub (ws' := [(y, .inr (9, fs_y)), (yt, .inl (g 1, 2, .inl f_yt)), (al, .inl (g 1, 39, .inl f_al)), (ke, .inl (g 1, 39, .inl f_ke))]) [0, 1, 2, 3] rfl
    have hD := hD.sub (ws' := [(y, .inr (9, fs_y)), (yt, .inl (g 1, 2, .inl f_yt)), (al, .inl (g 1, 39, .inl f_al)), (ke, .inl (g 1, 39, .inl f_ke))]) [0, 1, 2, 3] (by decide) rfl
    refine lv_if_ne (tgt := 9) hx hb dX9_housed_4 (by decide) (fun _ => ?_) (fun c9 => absurd c9 (by first | decide | simp))
    refine lv_aload_n hx hb dX9_housed_9 rfl (lv_at hl 0 rfl) ?_
    have hsq : ¬ p0 < 0 ∧ p0 ≤ 60 := by have k0 : (0 : Int32).toInt = 0 := (by decide); have k60 : (60 : Int32).toInt = 60 := (by decide); have zc_6 := c_6; have zc_7 := c_7; simp only [Int32.lt_iff_toInt_lt, Int32.le_iff_toInt_le, ← Int32.toInt_inj] at zc_6 zc_7 ⊢; omega
    obtain ⟨jN, hjN, ej⟩ := nI_of2 (n := 60) (by decide) hsq.1 hsq.2
    subst ej
    refine k_gov (wr := [(yt, .inl (g 1, 2, .inl f_yt))]) hP hD hS hA [0, 2, 3] [1] rfl rfl (by decide) (by decide) (va_runV (As := []) (rest := []) ⟨hx, hb, hml, hown, hts⟩ (m_keepNow l D g _ y al ke fs_y f_al f_ke h_y_all h_y_kept) (cwV 0 hts gX9_housed_X9_keepNow rfl rfl rfl (by decide +kernel) ⟨Nat.le_of_ble_eq_true rfl, Nat.le_of_ble_eq_true rfl⟩) (k_preV hK (hP.sub [0, 2, 3] rfl) (hD.sub [0, 2, 3] (by decide) rfl) 9 0 rfl rfl) rfl rfl hl.1 rfl (lv_room (Nat.le_of_ble_eq_true rfl)) dX9_housed_10 ⟨(Nat.le_of_ble_eq_true rfl), (Nat.le_of_ble_eq_true rfl)⟩) (fun u_9 H locs hw hP hD hS => ?_)
    rcases hw with ⟨f_10, rfl⟩
    have hP := hP.sub (ws' := [(y, .inr (9, fs_y)), (yt, .inl (g 1, 2, .inl f_yt)), (al, .inl (g 1, 39, .inl f_al)), (ke, .inl (g 1, 39, .inl f_10))]) [1, 0, 2, 3] rfl
    have hD := hD.sub (ws' := [(y, .inr (9, fs_y)), (yt, .inl (g 1, 2, .inl f_yt)), (al, .inl (g 1, 39, .inl f_al)), (ke, .inl (g 1, 39, .inl f_10))]) [1, 0, 2, 3] (by decide) rfl
    refine lv_aload_n hx hb dX9_housed_13 rfl (lv_at hl 0 rfl) ?_
    refine k_goi (wr := [(al, .inl (g 1, 39, .inl f_al)), (ke, .inl (g 1, 39, .inl f_10))]) hP hD hS hA [0, 1] [2, 3] rfl rfl (by decide) (by decide) (va_runV (As := []) (rest := []) ⟨hx, hb, hml, hown, hts⟩ (m_many l D g _ y yt fs_y f_yt h_y_tenants h_y_bank h_yt_at0) (cwV 0 hts gX9_housed_X9_many rfl rfl rfl (by decide +kernel) ⟨Nat.le_of_ble_eq_true rfl, Nat.le_of_ble_eq_true rfl⟩) (k_preV hK (hP.sub [0, 1] rfl) (hD.sub [0, 1] (by decide) rfl) 9 0 rfl rfl) rfl rfl hl.1 rfl (lv_room (Nat.le_of_ble_eq_true rfl)) dX9_housed_14 ⟨(Nat.le_of_ble_eq_true rfl), (Nat.le_of_ble_eq_true rfl)⟩) (fun r_11 u_12 H locs hw hP hD hS => ?_)
    rcases hw with ⟨rfl, rfl⟩
    have hP := hP.sub (ws' := [(y, .inr (9, fs_y)), (yt, .inl (g 1, 2, .inl f_yt)), (al, .inl (g 1, 39, .inl f_al)), (ke, .inl (g 1, 39, .inl f_10))]) [2, 3, 0, 1] rfl
    have hD := hD.sub (ws' := [(y, .inr (9, fs_y)), (yt, .inl (g 1, 2, .inl f_yt)), (al, .inl (g 1, 39, .inl f_al)), (ke, .inl (g 1, 39, .inl f_10))]) [2, 3, 0, 1] (by decide) rfl
    refine lv_aload_n hx hb dX9_housed_17 rfl (lv_at hl 0 rfl) ?_
    refine lv_iload_n hx hb dX9_housed_18 rfl (lv_at hl 1 rfl) ?_
    refine k_goi (wr := []) hP hD hS hA [0, 1, 2, 3] [] rfl rfl (by decide) (by decide) (va_runV (As := [.int (nI jN)]) (rest := [.int 0]) ⟨hx, hb, hml, hown, hts⟩ (m_outAfter l D g _ y yt al ke jN fs_y f_yt f_al f_10 h_y_tenants h_y_bank h_y_all h_y_kept hjN h_yt_at0) (cwV 1 hts gX9_housed_X9_outAfter rfl rfl rfl (by decide +kernel) ⟨Nat.le_of_ble_eq_true rfl, Nat.le_of_ble_eq_true rfl⟩) (k_preV hK (hP.sub [0, 1, 2, 3] rfl) (hD.sub [0, 1, 2, 3] (by decide) rfl) 9 0 rfl rfl) rfl rfl hl.1 rfl (lv_room (Nat.le_of_ble_eq_true rfl)) dX9_housed_19 ⟨(Nat.le_of_ble_eq_true rfl), (Nat.le_of_ble_eq_true rfl)⟩) (fun r_13 u_14 H locs hw hP hD hS => ?_)
    rcases hw with ⟨f_15, f_16, rfl, rfl⟩
    have hP := hP.sub (ws' := [(y, .inr (9, fs_y)), (yt, .inl (g 1, 2, .inl f_yt)), (al, .inl (g 1, 39, .inl f_15)), (ke, .inl (g 1, 39, .inl f_16))]) [0, 1, 2, 3] rfl
    have hD := hD.sub (ws' := [(y, .inr (9, fs_y)), (yt, .inl (g 1, 2, .inl f_yt)), (al, .inl (g 1, 39, .inl f_15)), (ke, .inl (g 1, 39, .inl f_16))]) [0, 1, 2, 3] (by decide) rfl
    refine lv_isub hx hb dX9_housed_22 ?_
    refine k_top (v := 0) (by decide) ?_
    rw [hQ]
    exact k_iret hx hb hr hlocks hK hP hD hS (Or.inr (Or.inr ⟨c_6, c_7, rfl⟩)) dX9_housed_23
set_option maxHeartbeats 4000000 in
set_option maxRecDepth 100000 in
theorem m_image (l : Launch) (D : va_G) (g : Nat → ClassId) (sz : Nat) (y : Nat) (p0 : Int32) (al : Nat) (ba : Nat) (ib : Nat) (fs_y : List Value) (f_al : Nat → Int32) (f_ba : Nat → Int32) (f_ib : Nat → Int32) (h_y_all : fs_y[45]? = some (.ref al)) (h_y_boxAll : fs_y[65]? = some (.ref ba)) (h_y_isBoxed : fs_y[66]? = some (.ref ib)) (h_al_at37 : f_al 37 = 0) : Met l yX9_image wsX9_image ({ frames := 1, cells := 0, slots := 0, locals := 22 }) (va_Pc [.ref y, .int p0] (kPre D g [(y, .inr (9, fs_y)), (al, .inl (g 1, 39, .inl f_al)), (ba, .inl (g 1, 117, .inl f_ba)), (ib, .inl (g 3, 3, .inl f_ib))] sz)) (kQi D g (fun (r : Int32) (u : va_W) => ((p0 < 0) ∧ (-1) = r) ∨ ((¬ p0 < 0) ∧ (2 < p0) ∧ (-1) = r) ∨ ((¬ p0 < 0) ∧ (¬ 2 < p0) ∧ (p0 = 0) ∧ 0 = r) ∨ ((¬ p0 < 0) ∧ (¬ 2 < p0) ∧ (p0 = 1) ∧ 0 = r) ∨ ((¬ p0 < 0) ∧ (¬ 2 < p0) ∧ (p0 = 2) ∧ 0 = r)) (va_A [(y, .inr (9, fs_y)), (al, .inl (g 1, 39, .inl f_al)), (ba, .inl (g 1, 117, .inl f_ba)), (ib, .inl (g 3, 3, .inl f_ib))] sz)) 0 0 (va_A [(y, .inr (9, fs_y)), (al, .inl (g 1, 39, .inl f_al)), (ba, .inl (g 1, 117, .inl f_ba)), (ib, .inl (g 3, 3, .inl f_ib))] sz) := by
  refine k_headQ (cc := cX9_image) (maxL := 3) (ret := (some .int)) (by decide) rfl (Nat.le_of_ble_eq_true rfl) ?_
  intro p e s m below meth c ls A Q ar hQ hx hb hr hlocks hml hown hin hts hA hP hK hD hS hl
  have hown : s.vm.findClass RX9 = some m.cls := hown
  have hl : lv_has ls 3 [(0, .ref y), (1, .int p0)] := hl
  refine lv_iload_n hx hb dX9_image_0 rfl (lv_at hl 1 rfl) ?_
  refine lv_iconst (v := 0) hx hb dX9_image_1 (by decide) ?_
  refine lv_iconst (v := 2) hx hb dX9_image_2 (by decide) ?_
  refine k_goi (wr := [(y, .inr (9, fs_y)), (al, .inl (g 1, 39, .inl f_al)), (ba, .inl (g 1, 117, .inl f_ba)), (ib, .inl (g 3, 3, .inl f_ib))]) hP hD hS hA [] [0, 1, 2, 3] rfl rfl (by decide) (by decide) (va_runS (As := [.int p0, .int 0, .int 2]) (rest := []) ⟨hx, hb, hml, hown, hts⟩ (m_isIn l D g _ p0 0 2) (va_cwS 3 hts gX9_image_X9_isIn rfl rfl rfl (by decide +kernel) ⟨Nat.le_of_ble_eq_true rfl, Nat.le_of_ble_eq_true rfl⟩) (k_preS hK (hP.sub [] rfl) (hD.sub [] (by decide) rfl)) rfl rfl hl.1 rfl (lv_room (Nat.le_of_ble_eq_true rfl)) dX9_image_3 ⟨(Nat.le_of_ble_eq_true rfl), (Nat.le_of_ble_eq_true rfl)⟩) (fun r_1 u_2 H locs hw hP hD hS => ?_)
  rcases hw with ⟨c_3, rfl, rfl⟩ | ⟨c_4, c_5, rfl, rfl⟩ | ⟨c_6, c_7, rfl, rfl⟩
  · have hP := hP.sub (ws' := [(y, .inr (9, fs_y)), (al, .inl (g 1, 39, .inl f_al)), (ba, .inl (g 1, 117, .inl f_ba)), (ib, .inl (g 3, 3, .inl f_ib))]) [0, 1, 2, 3] rfl
    have hD := hD.sub (ws' := [(y, .inr (9, fs_y)), (al, .inl (g 1, 39, .inl f_al)), (ba, .inl (g 1, 117, .inl f_ba)), (ib, .inl (g 3, 3, .inl f_ib))]) [0, 1, 2, 3] (by decide) rfl
    refine lv_if_ne (tgt := 11) hx hb dX9_image_6 (by decide) (fun c9 => absurd (by first | decide | rfl) c9) (fun _ => ?_)
    refine lv_iconst (v := (-1)) hx hb dX9_image_9 (by decide) ?_
    rw [hQ]
    exact k_iret hx hb hr hlocks hK hP hD hS (Or.inl ⟨c_3, rfl⟩) dX9_image_10
  · have hP := hP.sub (ws' := [(y, .inr (9, fs_y)), (al, .inl (g 1, 39, .inl f_al)), (ba, .inl (g 1, 117, .inl f_ba)), (ib, .inl (g 3, 3, .inl f_ib))]) [0, 1, 2, 3] rfl
    have hD := hD.sub (ws' := [(y, .inr (9, fs_y)), (al, .inl (g 1, 39, .inl f_al)), (ba, .inl (g 1, 117, .inl f_ba)), (ib, .inl (g 3, 3, .inl f_ib))]) [0, 1, 2, 3] (by decide) rfl
    refine lv_if_ne (tgt := 11) hx hb dX9_image_6 (by decide) (fun c9 => absurd (by first | decide | rfl) c9) (fun _ => ?_)
    refine lv_iconst (v := (-1)) hx hb dX9_image_9 (by decide) ?_
    rw [hQ]
    exact k_iret hx hb hr hlocks hK hP hD hS (Or.inr (Or.inl ⟨c_4, c_5, rfl⟩)) dX9_image_10
  · have hP := hP.sub (ws' := [(y, .inr (9, fs_y)), (al, .inl (g 1, 39, .inl f_al)), (ba, .inl (g 1, 117, .inl f_ba)), (ib, .inl (g 3, 3, .inl f_ib))]) [0, 1, 2, 3] rfl
    have hD := hD.sub (ws' := [(y, .inr (9, fs_y)), (al, .inl (g 1, 39, .inl f_al)), (ba, .inl (g 1, 117, .inl f_ba)), (ib, .inl (g 3, 3, .inl f_ib))]) [0, 1, 2, 3] (by decide) rfl
    refine lv_if_ne (tgt := 11) hx hb dX9_image_6 (by decide) (fun _ => ?_) (fun c9 => absurd c9 (by first | decide | simp))
    have hsp : p0 = 0 ∨ p0 = 1 ∨ p0 = 2 := by have k0 : (0 : Int32).toInt = 0 := (by decide); have k1 : (1 : Int32).toInt = 1 := (by decide); have k2 : (2 : Int32).toInt = 2 := (by decide); have zc_6 := c_6; have zc_7 := c_7; simp only [Int32.lt_iff_toInt_lt, Int32.le_iff_toInt_le, ← Int32.toInt_inj] at zc_6 zc_7 ⊢; omega
    rcases hsp with rfl | rfl | rfl
    · refine lv_iconst (v := 0) hx hb dX9_image_11 (by decide) ?_
      refine lv_istore_n (lv' := [(2, .int 0), (0, .ref y), (1, .int 0)]) hx hb dX9_image_12 rfl hl (by decide) rfl (fun ls hl => ?_)
      have hloop_13 : ∀ (n_9 i_8 : Nat) (f_10 : Nat → Int32), i_8 ≤ 39 → 39 < i_8 + n_9 → ∀ (H : Heap) (locs : List Loc) (ls : Array Slot), va_P D vwCl [(y, .inr (9, fs_y)), (al, .inl (g 1, 39, .inl f_al)), (ba, .inl (g 1, 117, .inl f_10)), (ib, .inl (g 3, 3, .inl f_ib))] H → va_D A [(y, .inr (9, fs_y)), (al, .inl (g 1, 39, .inl f_al)), (ba, .inl (g 1, 117, .inl f_10)), (ib, .inl (g 3, 3, .inl f_ib))] → va_S A s.heap H locs → lv_has ls 3 [(2, .int (nI i_8)), (0, .ref y), (1, .int 0)] → W p l e (headSpec wsX9_image ({ frames := 1, cells := 0, slots := 0, locals := 22 })).room s m ar below meth c H locs 0 0 Q (F0 m 13 ls []) := by
        intro n_9
        induction n_9 with
        | zero =>
          intro i_8 f_10 h_11 h_12
          exact absurd h_12 (by omega)
        | succ n_9 ih =>
          intro i_8 f_10 h_11 h_12  H locs ls hP hD hS hl
          refine lv_iload_n hx hb dX9_image_13 rfl (lv_at hl 0 rfl) ?_
          refine lv_bipush (v := 39) hx hb dX9_image_14 (by decide) ?_
          refine lv_icmp_ge (tgt := 42) hx hb dX9_image_16 (by decide) (fun c_14 => ?_) (fun c_14 => ?_)
          · have h_15 := k_ge1 (N := 39) rfl h_11 (by first | decide | omega) c_14
            subst h_15
            refine lv_aload_n hx hb dX9_image_42 rfl (lv_at hl 1 rfl) ?_
            refine va_get (D := D) (ci := 9) (v := .ref ib) (C := RX9) (T := TX9) (N := 67) hx hb hts iX9_image_X9 hown hK hP 0 rfl rfl 66 (by decide) (hts (.fieldLink RX9 142 "CatLeasesModel" "isBoxed" "[Z") (List.mem_of_getElem? (i := 3) rfl)) (fun _ h9 => h9) h_y_isBoxed dX9_image_43 ?_
            refine lv_iload_n hx hb dX9_image_46 rfl (lv_at hl 2 rfl) ?_
            refine lv_iconst (v := 1) hx hb dX9_image_47 (by decide) ?_
            refine va_zast hx hb hK hP hD hS 3 3 rfl rfl (k_in (i := 0) (n := 3) (by decide)) dX9_image_48 (fun H locs hP hD hS => ?_)
            have hP : va_P D vwCl [(y, .inr (9, fs_y)), (al, .inl (g 1, 39, .inl f_al)), (ba, .inl (g 1, 117, .inl f_10)), (ib, .inl (g 3, 3, .inl (upd f_ib 0 1)))] H := hP
            have hD : va_D A [(y, .inr (9, fs_y)), (al, .inl (g 1, 39, .inl f_al)), (ba, .inl (g 1, 117, .inl f_10)), (ib, .inl (g 3, 3, .inl (upd f_ib 0 1)))] := hD
            refine lv_aload_n hx hb dX9_image_49 rfl (lv_at hl 1 rfl) ?_
            refine va_get (D := D) (ci := 9) (v := .ref al) (C := RX9) (T := TX9) (N := 67) hx hb hts iX9_image_X9 hown hK hP 0 rfl rfl 45 (by decide) (hts (.fieldLink RX9 94 "CatLeasesModel" "all" "[I") (List.mem_of_getElem? (i := 2) rfl)) (fun _ h9 => h9) h_y_all dX9_image_50 ?_
            refine lv_bipush (v := 37) hx hb dX9_image_53 (by decide) ?_
            refine va_iald hx hb hK hP 1 1 rfl rfl (k_in (i := 37) (n := 39) (by decide)) dX9_image_55 ?_
            refine k_top (v := 0) h_al_at37 ?_
            rw [hQ]
            exact k_iret hx hb hr hlocks hK hP hD hS (Or.inr (Or.inr (Or.inl ⟨c_6, c_7, rfl, rfl⟩))) dX9_image_56
          · have h_15 : i_8 < 39 := k_ge2 (N := 39) rfl h_11 (by first | decide | omega) c_14
            refine lv_aload_n hx hb dX9_image_19 rfl (lv_at hl 1 rfl) ?_
            refine va_get (D := D) (ci := 9) (v := .ref ba) (C := RX9) (T := TX9) (N := 67) hx hb hts iX9_image_X9 hown hK hP 0 rfl rfl 65 (by decide) (hts (.fieldLink RX9 139 "CatLeasesModel" "boxAll" "[I") (List.mem_of_getElem? (i := 1) rfl)) (fun _ h9 => h9) h_y_boxAll dX9_image_20 ?_
            refine lv_bipush (v := 39) hx hb dX9_image_23 (by decide) ?_
            refine lv_iload_n hx hb dX9_image_25 rfl (lv_at hl 2 rfl) ?_
            refine lv_imul hx hb dX9_image_26 ?_
            refine k_top (v := 0) (by decide) ?_
            refine lv_iload_n hx hb dX9_image_27 rfl (lv_at hl 0 rfl) ?_
            refine lv_iadd hx hb dX9_image_28 ?_
            refine k_top (v := nI (0 + i_8)) (nI_add 0 i_8) ?_
            refine lv_aload_n hx hb dX9_image_29 rfl (lv_at hl 1 rfl) ?_
            refine va_get (D := D) (ci := 9) (v := .ref al) (C := RX9) (T := TX9) (N := 67) hx hb hts iX9_image_X9 hown hK hP 0 rfl rfl 45 (by decide) (hts (.fieldLink RX9 94 "CatLeasesModel" "all" "[I") (List.mem_of_getElem? (i := 2) rfl)) (fun _ h9 => h9) h_y_all dX9_image_30 ?_
            refine lv_iload_n hx hb dX9_image_33 rfl (lv_at hl 0 rfl) ?_
            refine va_iald hx hb hK hP 1 1 rfl rfl (vp_in_nI (n := i_8) (N := 39) (by omega) (by decide)) dX9_image_34 ?_
            refine k_top (v := (f_al i_8)) (by rw [nI_clamp (n := i_8) (by omega)]) ?_
            refine va_iast hx hb hK hP hD hS 2 1 rfl rfl (vp_in_nI (n := (0 + i_8)) (N := 117) (by omega) (by decide)) dX9_image_35 (fun H locs hP hD hS => ?_)
            rw [nI_clamp (n := (0 + i_8)) (by omega)] at hP hD
            have hP : va_P D vwCl [(y, .inr (9, fs_y)), (al, .inl (g 1, 39, .inl f_al)), (ba, .inl (g 1, 117, .inl (upd f_10 (0 + i_8) (f_al i_8)))), (ib, .inl (g 3, 3, .inl f_ib))] H := hP
            have hD : va_D A [(y, .inr (9, fs_y)), (al, .inl (g 1, 39, .inl f_al)), (ba, .inl (g 1, 117, .inl (upd f_10 (0 + i_8) (f_al i_8)))), (ib, .inl (g 3, 3, .inl f_ib))] := hD
            refine lv_iinc (v := nI (i_8 + 1)) (lv' := [(2, .int (nI (i_8 + 1))), (0, .ref y), (1, .int 0)]) hx hb dX9_image_36 hl (k := 0) rfl (k_inc i_8) (by decide) rfl (fun ls hl => ?_)
            refine lv_goto (tgt := 13) hx hb dX9_image_39 (by decide) ?_
            exact ih (i_8 + 1) (upd f_10 (0 + i_8) (f_al i_8)) (by omega) (by omega)  _ _ _ hP hD hS (lv_sub hl [0, 1, 2] rfl)
      exact hloop_13 (39 + 1) 0 f_ba (by omega) (by omega)  _ _ _ hP hD hS hl
    · refine lv_iconst (v := 0) hx hb dX9_image_11 (by decide) ?_
      refine lv_istore_n (lv' := [(2, .int 0), (0, .ref y), (1, .int 1)]) hx hb dX9_image_12 rfl hl (by decide) rfl (fun ls hl => ?_)
      have hloop_21 : ∀ (n_17 i_16 : Nat) (f_18 : Nat → Int32), i_16 ≤ 39 → 39 < i_16 + n_17 → ∀ (H : Heap) (locs : List Loc) (ls : Array Slot), va_P D vwCl [(y, .inr (9, fs_y)), (al, .inl (g 1, 39, .inl f_al)), (ba, .inl (g 1, 117, .inl f_18)), (ib, .inl (g 3, 3, .inl f_ib))] H → va_D A [(y, .inr (9, fs_y)), (al, .inl (g 1, 39, .inl f_al)), (ba, .inl (g 1, 117, .inl f_18)), (ib, .inl (g 3, 3, .inl f_ib))] → va_S A s.heap H locs → lv_has ls 3 [(2, .int (nI i_16)), (0, .ref y), (1, .int 1)] → W p l e (headSpec wsX9_image ({ frames := 1, cells := 0, slots := 0, locals := 22 })).room s m ar below meth c H locs 0 0 Q (F0 m 13 ls []) := by
        intro n_17
        induction n_17 with
        | zero =>
          intro i_16 f_18 h_19 h_20
          exact absurd h_20 (by omega)
        | succ n_17 ih =>
          intro i_16 f_18 h_19 h_20  H locs ls hP hD hS hl
          refine lv_iload_n hx hb dX9_image_13 rfl (lv_at hl 0 rfl) ?_
          refine lv_bipush (v := 39) hx hb dX9_image_14 (by decide) ?_
          refine lv_icmp_ge (tgt := 42) hx hb dX9_image_16 (by decide) (fun c_22 => ?_) (fun c_22 => ?_)
          · have h_23 := k_ge1 (N := 39) rfl h_19 (by first | decide | omega) c_22
            subst h_23
            refine lv_aload_n hx hb dX9_image_42 rfl (lv_at hl 1 rfl) ?_
            refine va_get (D := D) (ci := 9) (v := .ref ib) (C := RX9) (T := TX9) (N := 67) hx hb hts iX9_image_X9 hown hK hP 0 rfl rfl 66 (by decide) (hts (.fieldLink RX9 142 "CatLeasesModel" "isBoxed" "[Z") (List.mem_of_getElem? (i := 3) rfl)) (fun _ h9 => h9) h_y_isBoxed dX9_image_43 ?_
            refine lv_iload_n hx hb dX9_image_46 rfl (lv_at hl 2 rfl) ?_
            refine lv_iconst (v := 1) hx hb dX9_image_47 (by decide) ?_
            refine va_zast hx hb hK hP hD hS 3 3 rfl rfl (k_in (i := 1) (n := 3) (by decide)) dX9_image_48 (fun H locs hP hD hS => ?_)
            have hP : va_P D vwCl [(y, .inr (9, fs_y)), (al, .inl (g 1, 39, .inl f_al)), (ba, .inl (g 1, 117, .inl f_18)), (ib, .inl (g 3, 3, .inl (upd f_ib 1 1)))] H := hP
            have hD : va_D A [(y, .inr (9, fs_y)), (al, .inl (g 1, 39, .inl f_al)), (ba, .inl (g 1, 117, .inl f_18)), (ib, .inl (g 3, 3, .inl (upd f_ib 1 1)))] := hD
            refine lv_aload_n hx hb dX9_image_49 rfl (lv_at hl 1 rfl) ?_
            refine va_get (D := D) (ci := 9) (v := .ref al) (C := RX9) (T := TX9) (N := 67) hx hb hts iX9_image_X9 hown hK hP 0 rfl rfl 45 (by decide) (hts (.fieldLink RX9 94 "CatLeasesModel" "all" "[I") (List.mem_of_getElem? (i := 2) rfl)) (fun _ h9 => h9) h_y_all dX9_image_50 ?_
            refine lv_bipush (v := 37) hx hb dX9_image_53 (by decide) ?_
            refine va_iald hx hb hK hP 1 1 rfl rfl (k_in (i := 37) (n := 39) (by decide)) dX9_image_55 ?_
            refine k_top (v := 0) h_al_at37 ?_
            rw [hQ]
            exact k_iret hx hb hr hlocks hK hP hD hS (Or.inr (Or.inr (Or.inr (Or.inl ⟨c_6, c_7, rfl, rfl⟩)))) dX9_image_56
          · have h_23 : i_16 < 39 := k_ge2 (N := 39) rfl h_19 (by first | decide | omega) c_22
            refine lv_aload_n hx hb dX9_image_19 rfl (lv_at hl 1 rfl) ?_
            refine va_get (D := D) (ci := 9) (v := .ref ba) (C := RX9) (T := TX9) (N := 67) hx hb hts iX9_image_X9 hown hK hP 0 rfl rfl 65 (by decide) (hts (.fieldLink RX9 139 "CatLeasesModel" "boxAll" "[I") (List.mem_of_getElem? (i := 1) rfl)) (fun _ h9 => h9) h_y_boxAll dX9_image_20 ?_
            refine lv_bipush (v := 39) hx hb dX9_image_23 (by decide) ?_
            refine lv_iload_n hx hb dX9_image_25 rfl (lv_at hl 2 rfl) ?_
            refine lv_imul hx hb dX9_image_26 ?_
            refine k_top (v := 39) (by decide) ?_
            refine lv_iload_n hx hb dX9_image_27 rfl (lv_at hl 0 rfl) ?_
            refine lv_iadd hx hb dX9_image_28 ?_
            refine k_top (v := nI (39 + i_16)) (nI_add 39 i_16) ?_
            refine lv_aload_n hx hb dX9_image_29 rfl (lv_at hl 1 rfl) ?_
            refine va_get (D := D) (ci := 9) (v := .ref al) (C := RX9) (T := TX9) (N := 67) hx hb hts iX9_image_X9 hown hK hP 0 rfl rfl 45 (by decide) (hts (.fieldLink RX9 94 "CatLeasesModel" "all" "[I") (List.mem_of_getElem? (i := 2) rfl)) (fun _ h9 => h9) h_y_all dX9_image_30 ?_
            refine lv_iload_n hx hb dX9_image_33 rfl (lv_at hl 0 rfl) ?_
            refine va_iald hx hb hK hP 1 1 rfl rfl (vp_in_nI (n := i_16) (N := 39) (by omega) (by decide)) dX9_image_34 ?_
            refine k_top (v := (f_al i_16)) (by rw [nI_clamp (n := i_16) (by omega)]) ?_
            refine va_iast hx hb hK hP hD hS 2 1 rfl rfl (vp_in_nI (n := (39 + i_16)) (N := 117) (by omega) (by decide)) dX9_image_35 (fun H locs hP hD hS => ?_)
            rw [nI_clamp (n := (39 + i_16)) (by omega)] at hP hD
            have hP : va_P D vwCl [(y, .inr (9, fs_y)), (al, .inl (g 1, 39, .inl f_al)), (ba, .inl (g 1, 117, .inl (upd f_18 (39 + i_16) (f_al i_16)))), (ib, .inl (g 3, 3, .inl f_ib))] H := hP
            have hD : va_D A [(y, .inr (9, fs_y)), (al, .inl (g 1, 39, .inl f_al)), (ba, .inl (g 1, 117, .inl (upd f_18 (39 + i_16) (f_al i_16)))), (ib, .inl (g 3, 3, .inl f_ib))] := hD
            refine lv_iinc (v := nI (i_16 + 1)) (lv' := [(2, .int (nI (i_16 + 1))), (0, .ref y), (1, .int 1)]) hx hb dX9_image_36 hl (k := 0) rfl (k_inc i_16) (by decide) rfl (fun ls hl => ?_)
            refine lv_goto (tgt := 13) hx hb dX9_image_39 (by decide) ?_
            exact ih (i_16 + 1) (upd f_18 (39 + i_16) (f_al i_16)) (by omega) (by omega)  _ _ _ hP hD hS (lv_sub hl [0, 1, 2] rfl)
      exact hloop_21 (39 + 1) 0 f_ba (by omega) (by omega)  _ _ _ hP hD hS hl
    · refine lv_iconst (v := 0) hx hb dX9_image_11 (by decide) ?_
      refine lv_istore_n (lv' := [(2, .int 0), (0, .ref y), (1, .int 2)]) hx hb dX9_image_12 rfl hl (by decide) rfl (fun ls hl => ?_)
      have hloop_29 : ∀ (n_25 i_24 : Nat) (f_26 : Nat → Int32), i_24 ≤ 39 → 39 < i_24 + n_25 → ∀ (H : Heap) (locs : List Loc) (ls : Array Slot), va_P D vwCl [(y, .inr (9, fs_y)), (al, .inl (g 1, 39, .inl f_al)), (ba, .inl (g 1, 117, .inl f_26)), (ib, .inl (g 3, 3, .inl f_ib))] H → va_D A [(y, .inr (9, fs_y)), (al, .inl (g 1, 39, .inl f_al)), (ba, .inl (g 1, 117, .inl f_26)), (ib, .inl (g 3, 3, .inl f_ib))] → va_S A s.heap H locs → lv_has ls 3 [(2, .int (nI i_24)), (0, .ref y), (1, .int 2)] → W p l e (headSpec wsX9_image ({ frames := 1, cells := 0, slots := 0, locals := 22 })).room s m ar below meth c H locs 0 0 Q (F0 m 13 ls []) := by
        intro n_25
        induction n_25 with
        | zero =>
          intro i_24 f_26 h_27 h_28
          exact absurd h_28 (by omega)
        | succ n_25 ih =>
          intro i_24 f_26 h_27 h_28  H locs ls hP hD hS hl
          refine lv_iload_n hx hb dX9_image_13 rfl (lv_at hl 0 rfl) ?_
          refine lv_bipush (v := 39) hx hb dX9_image_14 (by decide) ?_
          refine lv_icmp_ge (tgt := 42) hx hb dX9_image_16 (by decide) (fun c_30 => ?_) (fun c_30 => ?_)
          · have h_31 := k_ge1 (N := 39) rfl h_27 (by first | decide | omega) c_30
            subst h_31
            refine lv_aload_n hx hb dX9_image_42 rfl (lv_at hl 1 rfl) ?_
            refine va_get (D := D) (ci := 9) (v := .ref ib) (C := RX9) (T := TX9) (N := 67) hx hb hts iX9_image_X9 hown hK hP 0 rfl rfl 66 (by decide) (hts (.fieldLink RX9 142 "CatLeasesModel" "isBoxed" "[Z") (List.mem_of_getElem? (i := 3) rfl)) (fun _ h9 => h9) h_y_isBoxed dX9_image_43 ?_
            refine lv_iload_n hx hb dX9_image_46 rfl (lv_at hl 2 rfl) ?_
            refine lv_iconst (v := 1) hx hb dX9_image_47 (by decide) ?_
            refine va_zast hx hb hK hP hD hS 3 3 rfl rfl (k_in (i := 2) (n := 3) (by decide)) dX9_image_48 (fun H locs hP hD hS => ?_)
            have hP : va_P D vwCl [(y, .inr (9, fs_y)), (al, .inl (g 1, 39, .inl f_al)), (ba, .inl (g 1, 117, .inl f_26)), (ib, .inl (g 3, 3, .inl (upd f_ib 2 1)))] H := hP
            have hD : va_D A [(y, .inr (9, fs_y)), (al, .inl (g 1, 39, .inl f_al)), (ba, .inl (g 1, 117, .inl f_26)), (ib, .inl (g 3, 3, .inl (upd f_ib 2 1)))] := hD
            refine lv_aload_n hx hb dX9_image_49 rfl (lv_at hl 1 rfl) ?_
            refine va_get (D := D) (ci := 9) (v := .ref al) (C := RX9) (T := TX9) (N := 67) hx hb hts iX9_image_X9 hown hK hP 0 rfl rfl 45 (by decide) (hts (.fieldLink RX9 94 "CatLeasesModel" "all" "[I") (List.mem_of_getElem? (i := 2) rfl)) (fun _ h9 => h9) h_y_all dX9_image_50 ?_
            refine lv_bipush (v := 37) hx hb dX9_image_53 (by decide) ?_
            refine va_iald hx hb hK hP 1 1 rfl rfl (k_in (i := 37) (n := 39) (by decide)) dX9_image_55 ?_
            refine k_top (v := 0) h_al_at37 ?_
            rw [hQ]
            exact k_iret hx hb hr hlocks hK hP hD hS (Or.inr (Or.inr (Or.inr (Or.inr ⟨c_6, c_7, rfl, rfl⟩)))) dX9_image_56
          · have h_31 : i_24 < 39 := k_ge2 (N := 39) rfl h_27 (by first | decide | omega) c_30
            refine lv_aload_n hx hb dX9_image_19 rfl (lv_at hl 1 rfl) ?_
            refine va_get (D := D) (ci := 9) (v := .ref ba) (C := RX9) (T := TX9) (N := 67) hx hb hts iX9_image_X9 hown hK hP 0 rfl rfl 65 (by decide) (hts (.fieldLink RX9 139 "CatLeasesModel" "boxAll" "[I") (List.mem_of_getElem? (i := 1) rfl)) (fun _ h9 => h9) h_y_boxAll dX9_image_20 ?_
            refine lv_bipush (v := 39) hx hb dX9_image_23 (by decide) ?_
            refine lv_iload_n hx hb dX9_image_25 rfl (lv_at hl 2 rfl) ?_
            refine lv_imul hx hb dX9_image_26 ?_
            refine k_top (v := 78) (by decide) ?_
            refine lv_iload_n hx hb dX9_image_27 rfl (lv_at hl 0 rfl) ?_
            refine lv_iadd hx hb dX9_image_28 ?_
            refine k_top (v := nI (78 + i_24)) (nI_add 78 i_24) ?_
            refine lv_aload_n hx hb dX9_image_29 rfl (lv_at hl 1 rfl) ?_
            refine va_get (D := D) (ci := 9) (v := .ref al) (C := RX9) (T := TX9) (N := 67) hx hb hts iX9_image_X9 hown hK hP 0 rfl rfl 45 (by decide) (hts (.fieldLink RX9 94 "CatLeasesModel" "all" "[I") (List.mem_of_getElem? (i := 2) rfl)) (fun _ h9 => h9) h_y_all dX9_image_30 ?_
            refine lv_iload_n hx hb dX9_image_33 rfl (lv_at hl 0 rfl) ?_
            refine va_iald hx hb hK hP 1 1 rfl rfl (vp_in_nI (n := i_24) (N := 39) (by omega) (by decide)) dX9_image_34 ?_
            refine k_top (v := (f_al i_24)) (by rw [nI_clamp (n := i_24) (by omega)]) ?_
            refine va_iast hx hb hK hP hD hS 2 1 rfl rfl (vp_in_nI (n := (78 + i_24)) (N := 117) (by omega) (by decide)) dX9_image_35 (fun H locs hP hD hS => ?_)
            rw [nI_clamp (n := (78 + i_24)) (by omega)] at hP hD
            have hP : va_P D vwCl [(y, .inr (9, fs_y)), (al, .inl (g 1, 39, .inl f_al)), (ba, .inl (g 1, 117, .inl (upd f_26 (78 + i_24) (f_al i_24)))), (ib, .inl (g 3, 3, .inl f_ib))] H := hP
            have hD : va_D A [(y, .inr (9, fs_y)), (al, .inl (g 1, 39, .inl f_al)), (ba, .inl (g 1, 117, .inl (upd f_26 (78 + i_24) (f_al i_24)))), (ib, .inl (g 3, 3, .inl f_ib))] := hD
            refine lv_iinc (v := nI (i_24 + 1)) (lv' := [(2, .int (nI (i_24 + 1))), (0, .ref y), (1, .int 2)]) hx hb dX9_image_36 hl (k := 0) rfl (k_inc i_24) (by decide) rfl (fun ls hl => ?_)
            refine lv_goto (tgt := 13) hx hb dX9_image_39 (by decide) ?_
            exact ih (i_24 + 1) (upd f_26 (78 + i_24) (f_al i_24)) (by omega) (by omega)  _ _ _ hP hD hS (lv_sub hl [0, 1, 2] rfl)
      exact hloop_29 (39 + 1) 0 f_ba (by omega) (by omega)  _ _ _ hP hD hS hl
set_option maxHeartbeats 4000000 in
set_option maxRecDepth 100000 in
theorem m_back (l : Launch) (D : va_G) (g : Nat → ClassId) (sz : Nat) (y : Nat) (p0 : Int32) (ib : Nat) (fs_y : List Value) (f_ib : Nat → Int32) (h_y_isBoxed : fs_y[66]? = some (.ref ib)) (h_ib_at0 : f_ib 0 = 0) (h_ib_at1 : f_ib 1 = 0) (h_ib_at2 : f_ib 2 = 0) : Met l yX9_back wsX9_back ({ frames := 1, cells := 0, slots := 0, locals := 22 }) (va_Pc [.ref y, .int p0] (kPre D g [(y, .inr (9, fs_y)), (ib, .inl (g 3, 3, .inl f_ib))] sz)) (kQi D g (fun (r : Int32) (u : va_W) => (-1) = r) (va_A [(y, .inr (9, fs_y)), (ib, .inl (g 3, 3, .inl f_ib))] sz)) 0 0 (va_A [(y, .inr (9, fs_y)), (ib, .inl (g 3, 3, .inl f_ib))] sz) := by
  refine k_headQ (cc := cX9_back) (maxL := 3) (ret := (some .int)) (by decide) rfl (Nat.le_of_ble_eq_true rfl) ?_
  intro p e s m below meth c ls A Q ar hQ hx hb hr hlocks hml hown hin hts hA hP hK hD hS hl
  have hown : s.vm.findClass RX9 = some m.cls := hown
  have hl : lv_has ls 3 [(0, .ref y), (1, .int p0)] := hl
  refine lv_iload_n hx hb dX9_back_0 rfl (lv_at hl 1 rfl) ?_
  refine lv_iconst (v := 0) hx hb dX9_back_1 (by decide) ?_
  refine lv_iconst (v := 2) hx hb dX9_back_2 (by decide) ?_
  refine k_goi (wr := [(y, .inr (9, fs_y)), (ib, .inl (g 3, 3, .inl f_ib))]) hP hD hS hA [] [0, 1] rfl rfl (by decide) (by decide) (va_runS (As := [.int p0, .int 0, .int 2]) (rest := []) ⟨hx, hb, hml, hown, hts⟩ (m_isIn l D g _ p0 0 2) (va_cwS 3 hts gX9_back_X9_isIn rfl rfl rfl (by decide +kernel) ⟨Nat.le_of_ble_eq_true rfl, Nat.le_of_ble_eq_true rfl⟩) (k_preS hK (hP.sub [] rfl) (hD.sub [] (by decide) rfl)) rfl rfl hl.1 rfl (lv_room (Nat.le_of_ble_eq_true rfl)) dX9_back_3 ⟨(Nat.le_of_ble_eq_true rfl), (Nat.le_of_ble_eq_true rfl)⟩) (fun r_1 u_2 H locs hw hP hD hS => ?_)
  rcases hw with ⟨c_3, rfl, rfl⟩ | ⟨c_4, c_5, rfl, rfl⟩ | ⟨c_6, c_7, rfl, rfl⟩
  · have hP := hP.sub (ws' := [(y, .inr (9, fs_y)), (ib, .inl (g 3, 3, .inl f_ib))]) [0, 1] rfl
    have hD := hD.sub (ws' := [(y, .inr (9, fs_y)), (ib, .inl (g 3, 3, .inl f_ib))]) [0, 1] (by decide) rfl
    refine lv_if_eq (tgt := 18) hx hb dX9_back_6 (by decide) (fun _ => ?_) (fun c9 => absurd (by first | decide | rfl) c9)
    refine lv_iconst (v := (-1)) hx hb dX9_back_18 (by decide) ?_
    rw [hQ]
    exact k_iret hx hb hr hlocks hK hP hD hS rfl dX9_back_19
  · have hP := hP.sub (ws' := [(y, .inr (9, fs_y)), (ib, .inl (g 3, 3, .inl f_ib))]) [0, 1] rfl
    have hD := hD.sub (ws' := [(y, .inr (9, fs_y)), (ib, .inl (g 3, 3, .inl f_ib))]) [0, 1] (by decide) rfl
    refine lv_if_eq (tgt := 18) hx hb dX9_back_6 (by decide) (fun _ => ?_) (fun c9 => absurd (by first | decide | rfl) c9)
    refine lv_iconst (v := (-1)) hx hb dX9_back_18 (by decide) ?_
    rw [hQ]
    exact k_iret hx hb hr hlocks hK hP hD hS rfl dX9_back_19
  · have hP := hP.sub (ws' := [(y, .inr (9, fs_y)), (ib, .inl (g 3, 3, .inl f_ib))]) [0, 1] rfl
    have hD := hD.sub (ws' := [(y, .inr (9, fs_y)), (ib, .inl (g 3, 3, .inl f_ib))]) [0, 1] (by decide) rfl
    refine lv_if_eq (tgt := 18) hx hb dX9_back_6 (by decide) (fun c9 => absurd c9 (by first | decide | simp)) (fun _ => ?_)
    have hsp : p0 = 0 ∨ p0 = 1 ∨ p0 = 2 := by have k0 : (0 : Int32).toInt = 0 := (by decide); have k1 : (1 : Int32).toInt = 1 := (by decide); have k2 : (2 : Int32).toInt = 2 := (by decide); have zc_6 := c_6; have zc_7 := c_7; simp only [Int32.lt_iff_toInt_lt, Int32.le_iff_toInt_le, ← Int32.toInt_inj] at zc_6 zc_7 ⊢; omega
    rcases hsp with rfl | rfl | rfl
    · refine lv_aload_n hx hb dX9_back_9 rfl (lv_at hl 0 rfl) ?_
      refine va_get (D := D) (ci := 9) (v := .ref ib) (C := RX9) (T := TX9) (N := 67) hx hb hts iX9_back_X9 hown hK hP 0 rfl rfl 66 (by decide) (hts (.fieldLink RX9 142 "CatLeasesModel" "isBoxed" "[Z") (List.mem_of_getElem? (i := 1) rfl)) (fun _ h9 => h9) h_y_isBoxed dX9_back_10 ?_
      refine lv_iload_n hx hb dX9_back_13 rfl (lv_at hl 1 rfl) ?_
      refine va_zald hx hb hK hP 1 3 rfl rfl (k_in (i := 0) (n := 3) (by decide)) dX9_back_14 ?_
      refine k_top (v := 0) h_ib_at0 ?_
      refine lv_if_ne (tgt := 20) hx hb dX9_back_15 (by decide) (fun c9 => absurd (by first | decide | rfl) c9) (fun _ => ?_)
      refine lv_iconst (v := (-1)) hx hb dX9_back_18 (by decide) ?_
      rw [hQ]
      exact k_iret hx hb hr hlocks hK hP hD hS rfl dX9_back_19
    · refine lv_aload_n hx hb dX9_back_9 rfl (lv_at hl 0 rfl) ?_
      refine va_get (D := D) (ci := 9) (v := .ref ib) (C := RX9) (T := TX9) (N := 67) hx hb hts iX9_back_X9 hown hK hP 0 rfl rfl 66 (by decide) (hts (.fieldLink RX9 142 "CatLeasesModel" "isBoxed" "[Z") (List.mem_of_getElem? (i := 1) rfl)) (fun _ h9 => h9) h_y_isBoxed dX9_back_10 ?_
      refine lv_iload_n hx hb dX9_back_13 rfl (lv_at hl 1 rfl) ?_
      refine va_zald hx hb hK hP 1 3 rfl rfl (k_in (i := 1) (n := 3) (by decide)) dX9_back_14 ?_
      refine k_top (v := 0) h_ib_at1 ?_
      refine lv_if_ne (tgt := 20) hx hb dX9_back_15 (by decide) (fun c9 => absurd (by first | decide | rfl) c9) (fun _ => ?_)
      refine lv_iconst (v := (-1)) hx hb dX9_back_18 (by decide) ?_
      rw [hQ]
      exact k_iret hx hb hr hlocks hK hP hD hS rfl dX9_back_19
    · refine lv_aload_n hx hb dX9_back_9 rfl (lv_at hl 0 rfl) ?_
      refine va_get (D := D) (ci := 9) (v := .ref ib) (C := RX9) (T := TX9) (N := 67) hx hb hts iX9_back_X9 hown hK hP 0 rfl rfl 66 (by decide) (hts (.fieldLink RX9 142 "CatLeasesModel" "isBoxed" "[Z") (List.mem_of_getElem? (i := 1) rfl)) (fun _ h9 => h9) h_y_isBoxed dX9_back_10 ?_
      refine lv_iload_n hx hb dX9_back_13 rfl (lv_at hl 1 rfl) ?_
      refine va_zald hx hb hK hP 1 3 rfl rfl (k_in (i := 2) (n := 3) (by decide)) dX9_back_14 ?_
      refine k_top (v := 0) h_ib_at2 ?_
      refine lv_if_ne (tgt := 20) hx hb dX9_back_15 (by decide) (fun c9 => absurd (by first | decide | rfl) c9) (fun _ => ?_)
      refine lv_iconst (v := (-1)) hx hb dX9_back_18 (by decide) ?_
      rw [hQ]
      exact k_iret hx hb hr hlocks hK hP hD hS rfl dX9_back_19
set_option maxHeartbeats 4000000 in
set_option maxRecDepth 100000 in
theorem m_feed (l : Launch) (D : va_G) (g : Nat → ClassId) (sz : Nat) (y : Nat) (p0 : Int32) (p1 : Int32) (p2 : Int32) (p3 : Int32) (p4 : Int32) (tp : Nat) (fs_y : List Value) (f_tp : Nat → Int32) (h_y_tape : fs_y[0]? = some (.ref tp)) (h_y_taped : fs_y[2]? = some (.int 0)) : Met l yX9_feed wsX9_feed ({ frames := 0, cells := 0, slots := 0, locals := 0 }) (va_Pc [.ref y, .int p0, .int p1, .int p2, .int p3, .int p4] (kPre D g [(y, .inr (9, fs_y)), (tp, .inl (g 0, 1620, .inl f_tp))] sz)) (kQi D g (fun (r : Int32) (u : va_W) => 20 = r) (va_A [(y, .inr (9, fs_y)), (tp, .inl (g 0, 1620, .inl f_tp))] sz)) 0 0 (va_A [(y, .inr (9, fs_y)), (tp, .inl (g 0, 1620, .inl f_tp))] sz) := by
  refine k_headQ (cc := cX9_feed) (maxL := 8) (ret := (some .int)) (by decide) rfl (Nat.le_of_ble_eq_true rfl) ?_
  intro p e s m below meth c ls A Q ar hQ hx hb hr hlocks hml hown hin hts hA hP hK hD hS hl
  have hown : s.vm.findClass RX9 = some m.cls := hown
  have hl : lv_has ls 8 [(0, .ref y), (1, .int p0), (2, .int p1), (3, .int p2), (4, .int p3), (5, .int p4)] := hl
  refine lv_aload_n hx hb dX9_feed_0 rfl (lv_at hl 0 rfl) ?_
  refine va_get (D := D) (ci := 9) (v := .int 0) (C := RX9) (T := TX9) (N := 67) hx hb hts iX9_feed_X9 hown hK hP 0 rfl rfl 2 (by decide) (hts (.fieldLink RX9 265 "CatLeasesModel" "taped" "I") (List.mem_of_getElem? (i := 1) rfl)) (fun _ h9 => h9) h_y_taped dX9_feed_1 ?_
  refine lv_bipush (v := 20) hx hb dX9_feed_4 (by decide) ?_
  refine lv_iadd hx hb dX9_feed_6 ?_
  refine k_top (v := 20) (by decide) ?_
  refine lv_sipush (v := 1600) hx hb dX9_feed_7 (by decide) ?_
  refine lv_icmp_le (tgt := 15) hx hb dX9_feed_10 (by decide) (fun _ => ?_) (fun c9 => absurd (by first | decide | rfl) c9)
  refine lv_iconst (v := 0) hx hb dX9_feed_15 (by decide) ?_
  refine lv_istore (lv' := [(6, .int 0), (0, .ref y), (1, .int p0), (2, .int p1), (3, .int p2), (4, .int p3), (5, .int p4)]) hx hb dX9_feed_16 hl (by decide) rfl (fun ls hl => ?_)
  have hloop_6 : ∀ (n_2 i_1 : Nat) (f_3 : Nat → Int32), i_1 ≤ 20 → 20 < i_1 + n_2 → ∀ (H : Heap) (locs : List Loc) (ls : Array Slot), va_P D vwCl [(y, .inr (9, fs_y)), (tp, .inl (g 0, 1620, .inl f_3))] H → va_D A [(y, .inr (9, fs_y)), (tp, .inl (g 0, 1620, .inl f_3))] → va_S A s.heap H locs → lv_has ls 8 [(6, .int (nI i_1)), (0, .ref y), (1, .int p0), (2, .int p1), (3, .int p2), (4, .int p3), (5, .int p4)] → W p l e (headSpec wsX9_feed ({ frames := 0, cells := 0, slots := 0, locals := 0 })).room s m ar below meth c H locs 0 0 Q (F0 m 18 ls []) := by
    intro n_2
    induction n_2 with
    | zero =>
      intro i_1 f_3 h_4 h_5
      exact absurd h_5 (by omega)
    | succ n_2 ih =>
      intro i_1 f_3 h_4 h_5  H locs ls hP hD hS hl
      refine lv_iload hx hb dX9_feed_18 (lv_at hl 0 rfl) ?_
      refine lv_bipush (v := 20) hx hb dX9_feed_20 (by decide) ?_
      refine lv_icmp_ge (tgt := 105) hx hb dX9_feed_22 (by decide) (fun c_7 => ?_) (fun c_7 => ?_)
      · have h_8 := k_ge1 (N := 20) rfl h_4 (by first | decide | omega) c_7
        subst h_8
        refine lv_aload_n hx hb dX9_feed_105 rfl (lv_at hl 1 rfl) ?_
        refine lv_dup hx hb dX9_feed_106 rfl ?_
        refine va_get (D := D) (ci := 9) (v := .int 0) (C := RX9) (T := TX9) (N := 67) hx hb hts iX9_feed_X9 hown hK hP 0 rfl rfl 2 (by decide) (hts (.fieldLink RX9 265 "CatLeasesModel" "taped" "I") (List.mem_of_getElem? (i := 1) rfl)) (fun _ h9 => h9) h_y_taped dX9_feed_107 ?_
        refine lv_bipush (v := 20) hx hb dX9_feed_110 (by decide) ?_
        refine lv_iadd hx hb dX9_feed_112 ?_
        refine k_top (v := 20) (by decide) ?_
        refine va_put (D := D) (ci := 9) (v := .int 20) (ty := .int) (C := RX9) (T := TX9) (N := 67) hx hb hts iX9_feed_X9 tyX9 tyX9_ok nmX9 hown hK hP hD hS 0 rfl rfl 2 (by decide) (hts (.fieldLink RX9 265 "CatLeasesModel" "taped" "I") (List.mem_of_getElem? (i := 1) rfl)) (fun _ h9 => h9) rfl (by decide +kernel) rfl rfl ((k_len h_y_taped)) dX9_feed_113 (fun H locs hP hD hS => ?_)
        have hP : va_P D vwCl [(y, .inr (9, (fs_y.set 2 (.int 20)))), (tp, .inl (g 0, 1620, .inl f_3))] H := hP
        have hD : va_D A [(y, .inr (9, (fs_y.set 2 (.int 20)))), (tp, .inl (g 0, 1620, .inl f_3))] := hD
        refine lv_aload_n hx hb dX9_feed_116 rfl (lv_at hl 1 rfl) ?_
        refine va_get (D := D) (ci := 9) (v := .int 20) (C := RX9) (T := TX9) (N := 67) hx hb hts iX9_feed_X9 hown hK hP 0 rfl rfl 2 (by decide) (hts (.fieldLink RX9 265 "CatLeasesModel" "taped" "I") (List.mem_of_getElem? (i := 1) rfl)) (fun _ h9 => h9) (k_ss h_y_taped) dX9_feed_117 ?_
        rw [hQ]
        exact k_iret hx hb hr hlocks hK hP hD hS rfl dX9_feed_120
      · have h_8 : i_1 < 20 := k_ge2 (N := 20) rfl h_4 (by first | decide | omega) c_7
        refine lv_iload hx hb dX9_feed_25 (lv_at hl 0 rfl) ?_
        refine lv_iconst (v := 4) hx hb dX9_feed_27 (by decide) ?_
        refine lv_icmp_ge (tgt := 35) hx hb dX9_feed_28 (by decide) (fun c_9 => ?_) (fun c_9 => ?_)
        · refine lv_iload hx hb dX9_feed_35 (lv_at hl 0 rfl) ?_
          refine lv_bipush (v := 8) hx hb dX9_feed_37 (by decide) ?_
          refine lv_icmp_ge (tgt := 46) hx hb dX9_feed_39 (by decide) (fun c_10 => ?_) (fun c_10 => ?_)
          · refine lv_iload hx hb dX9_feed_46 (lv_at hl 0 rfl) ?_
            refine lv_bipush (v := 12) hx hb dX9_feed_48 (by decide) ?_
            refine lv_icmp_ge (tgt := 57) hx hb dX9_feed_50 (by decide) (fun c_11 => ?_) (fun c_11 => ?_)
            · refine lv_iload hx hb dX9_feed_57 (lv_at hl 0 rfl) ?_
              refine lv_bipush (v := 16) hx hb dX9_feed_59 (by decide) ?_
              refine lv_icmp_ge (tgt := 69) hx hb dX9_feed_61 (by decide) (fun c_12 => ?_) (fun c_12 => ?_)
              · refine lv_iload hx hb dX9_feed_69 (lv_at hl 6 rfl) ?_
                refine lv_istore (lv' := [(7, .int p4), (6, .int (nI i_1)), (0, .ref y), (1, .int p0), (2, .int p1), (3, .int p2), (4, .int p3), (5, .int p4)]) hx hb dX9_feed_71 hl (by decide) rfl (fun ls hl => ?_)
                refine lv_aload_n hx hb dX9_feed_73 rfl (lv_at hl 2 rfl) ?_
                refine va_get (D := D) (ci := 9) (v := .ref tp) (C := RX9) (T := TX9) (N := 67) hx hb hts iX9_feed_X9 hown hK hP 0 rfl rfl 0 (by decide) (hts (.fieldLink RX9 7 "CatLeasesModel" "tape" "[B") (List.mem_of_getElem? (i := 2) rfl)) (fun _ h9 => h9) h_y_tape dX9_feed_74 ?_
                refine lv_aload_n hx hb dX9_feed_77 rfl (lv_at hl 2 rfl) ?_
                refine va_get (D := D) (ci := 9) (v := .int 0) (C := RX9) (T := TX9) (N := 67) hx hb hts iX9_feed_X9 hown hK hP 0 rfl rfl 2 (by decide) (hts (.fieldLink RX9 265 "CatLeasesModel" "taped" "I") (List.mem_of_getElem? (i := 1) rfl)) (fun _ h9 => h9) h_y_taped dX9_feed_78 ?_
                refine lv_iload hx hb dX9_feed_81 (lv_at hl 1 rfl) ?_
                refine lv_iadd hx hb dX9_feed_83 ?_
                refine k_top (v := nI (0 + i_1)) (nI_add 0 i_1) ?_
                refine lv_iload hx hb dX9_feed_84 (lv_at hl 0 rfl) ?_
                refine lv_bipush (v := 24) hx hb dX9_feed_86 (by decide) ?_
                refine lv_bipush (v := 8) hx hb dX9_feed_88 (by decide) ?_
                refine lv_iload hx hb dX9_feed_90 (lv_at hl 1 rfl) ?_
                refine lv_iconst (v := 3) hx hb dX9_feed_92 (by decide) ?_
                refine lv_iand hx hb dX9_feed_93 ?_
                refine lv_imul hx hb dX9_feed_94 ?_
                refine lv_isub hx hb dX9_feed_95 ?_
                refine lv_ishr hx hb dX9_feed_96 ?_
                refine lv_i2b hx hb dX9_feed_97 rfl ?_
                refine va_bast hx hb hK hP hD hS 1 0 rfl rfl (vp_in_nI (n := (0 + i_1)) (N := 1620) (by omega) (by decide)) dX9_feed_98 (fun H locs hP hD hS => ?_)
                rw [nI_clamp (n := (0 + i_1)) (by omega)] at hP hD
                have hP : va_P D vwCl [(y, .inr (9, fs_y)), (tp, .inl (g 0, 1620, .inl (upd f_3 (0 + i_1) (vp_nar .byte ((p4 >>> ((24 - (8 * ((nI i_1) &&& 3))) &&& 31)).toInt8.toInt32)))))] H := hP
                have hD : va_D A [(y, .inr (9, fs_y)), (tp, .inl (g 0, 1620, .inl (upd f_3 (0 + i_1) (vp_nar .byte ((p4 >>> ((24 - (8 * ((nI i_1) &&& 3))) &&& 31)).toInt8.toInt32)))))] := hD
                refine lv_iinc (v := nI (i_1 + 1)) (lv' := [(6, .int (nI (i_1 + 1))), (7, .int p4), (0, .ref y), (1, .int p0), (2, .int p1), (3, .int p2), (4, .int p3), (5, .int p4)]) hx hb dX9_feed_99 hl (k := 1) rfl (k_inc i_1) (by decide) rfl (fun ls hl => ?_)
                refine lv_goto (tgt := 18) hx hb dX9_feed_102 (by decide) ?_
                exact ih (i_1 + 1) (upd f_3 (0 + i_1) (vp_nar .byte ((p4 >>> ((24 - (8 * ((nI i_1) &&& 3))) &&& 31)).toInt8.toInt32))) (by omega) (by omega)  _ _ _ hP hD hS (lv_sub hl [0, 2, 3, 4, 5, 6, 7] rfl)
              · refine lv_iload hx hb dX9_feed_64 (lv_at hl 5 rfl) ?_
                refine lv_goto (tgt := 71) hx hb dX9_feed_66 (by decide) ?_
                refine lv_istore (lv' := [(7, .int p3), (6, .int (nI i_1)), (0, .ref y), (1, .int p0), (2, .int p1), (3, .int p2), (4, .int p3), (5, .int p4)]) hx hb dX9_feed_71 hl (by decide) rfl (fun ls hl => ?_)
                refine lv_aload_n hx hb dX9_feed_73 rfl (lv_at hl 2 rfl) ?_
                refine va_get (D := D) (ci := 9) (v := .ref tp) (C := RX9) (T := TX9) (N := 67) hx hb hts iX9_feed_X9 hown hK hP 0 rfl rfl 0 (by decide) (hts (.fieldLink RX9 7 "CatLeasesModel" "tape" "[B") (List.mem_of_getElem? (i := 2) rfl)) (fun _ h9 => h9) h_y_tape dX9_feed_74 ?_
                refine lv_aload_n hx hb dX9_feed_77 rfl (lv_at hl 2 rfl) ?_
                refine va_get (D := D) (ci := 9) (v := .int 0) (C := RX9) (T := TX9) (N := 67) hx hb hts iX9_feed_X9 hown hK hP 0 rfl rfl 2 (by decide) (hts (.fieldLink RX9 265 "CatLeasesModel" "taped" "I") (List.mem_of_getElem? (i := 1) rfl)) (fun _ h9 => h9) h_y_taped dX9_feed_78 ?_
                refine lv_iload hx hb dX9_feed_81 (lv_at hl 1 rfl) ?_
                refine lv_iadd hx hb dX9_feed_83 ?_
                refine k_top (v := nI (0 + i_1)) (nI_add 0 i_1) ?_
                refine lv_iload hx hb dX9_feed_84 (lv_at hl 0 rfl) ?_
                refine lv_bipush (v := 24) hx hb dX9_feed_86 (by decide) ?_
                refine lv_bipush (v := 8) hx hb dX9_feed_88 (by decide) ?_
                refine lv_iload hx hb dX9_feed_90 (lv_at hl 1 rfl) ?_
                refine lv_iconst (v := 3) hx hb dX9_feed_92 (by decide) ?_
                refine lv_iand hx hb dX9_feed_93 ?_
                refine lv_imul hx hb dX9_feed_94 ?_
                refine lv_isub hx hb dX9_feed_95 ?_
                refine lv_ishr hx hb dX9_feed_96 ?_
                refine lv_i2b hx hb dX9_feed_97 rfl ?_
                refine va_bast hx hb hK hP hD hS 1 0 rfl rfl (vp_in_nI (n := (0 + i_1)) (N := 1620) (by omega) (by decide)) dX9_feed_98 (fun H locs hP hD hS => ?_)
                rw [nI_clamp (n := (0 + i_1)) (by omega)] at hP hD
                have hP : va_P D vwCl [(y, .inr (9, fs_y)), (tp, .inl (g 0, 1620, .inl (upd f_3 (0 + i_1) (vp_nar .byte ((p3 >>> ((24 - (8 * ((nI i_1) &&& 3))) &&& 31)).toInt8.toInt32)))))] H := hP
                have hD : va_D A [(y, .inr (9, fs_y)), (tp, .inl (g 0, 1620, .inl (upd f_3 (0 + i_1) (vp_nar .byte ((p3 >>> ((24 - (8 * ((nI i_1) &&& 3))) &&& 31)).toInt8.toInt32)))))] := hD
                refine lv_iinc (v := nI (i_1 + 1)) (lv' := [(6, .int (nI (i_1 + 1))), (7, .int p3), (0, .ref y), (1, .int p0), (2, .int p1), (3, .int p2), (4, .int p3), (5, .int p4)]) hx hb dX9_feed_99 hl (k := 1) rfl (k_inc i_1) (by decide) rfl (fun ls hl => ?_)
                refine lv_goto (tgt := 18) hx hb dX9_feed_102 (by decide) ?_
                exact ih (i_1 + 1) (upd f_3 (0 + i_1) (vp_nar .byte ((p3 >>> ((24 - (8 * ((nI i_1) &&& 3))) &&& 31)).toInt8.toInt32))) (by omega) (by omega)  _ _ _ hP hD hS (lv_sub hl [0, 2, 3, 4, 5, 6, 7] rfl)
            · refine lv_iload_n hx hb dX9_feed_53 rfl (lv_at hl 4 rfl) ?_
              refine lv_goto (tgt := 71) hx hb dX9_feed_54 (by decide) ?_
              refine lv_istore (lv' := [(7, .int p2), (6, .int (nI i_1)), (0, .ref y), (1, .int p0), (2, .int p1), (3, .int p2), (4, .int p3), (5, .int p4)]) hx hb dX9_feed_71 hl (by decide) rfl (fun ls hl => ?_)
              refine lv_aload_n hx hb dX9_feed_73 rfl (lv_at hl 2 rfl) ?_
              refine va_get (D := D) (ci := 9) (v := .ref tp) (C := RX9) (T := TX9) (N := 67) hx hb hts iX9_feed_X9 hown hK hP 0 rfl rfl 0 (by decide) (hts (.fieldLink RX9 7 "CatLeasesModel" "tape" "[B") (List.mem_of_getElem? (i := 2) rfl)) (fun _ h9 => h9) h_y_tape dX9_feed_74 ?_
              refine lv_aload_n hx hb dX9_feed_77 rfl (lv_at hl 2 rfl) ?_
              refine va_get (D := D) (ci := 9) (v := .int 0) (C := RX9) (T := TX9) (N := 67) hx hb hts iX9_feed_X9 hown hK hP 0 rfl rfl 2 (by decide) (hts (.fieldLink RX9 265 "CatLeasesModel" "taped" "I") (List.mem_of_getElem? (i := 1) rfl)) (fun _ h9 => h9) h_y_taped dX9_feed_78 ?_
              refine lv_iload hx hb dX9_feed_81 (lv_at hl 1 rfl) ?_
              refine lv_iadd hx hb dX9_feed_83 ?_
              refine k_top (v := nI (0 + i_1)) (nI_add 0 i_1) ?_
              refine lv_iload hx hb dX9_feed_84 (lv_at hl 0 rfl) ?_
              refine lv_bipush (v := 24) hx hb dX9_feed_86 (by decide) ?_
              refine lv_bipush (v := 8) hx hb dX9_feed_88 (by decide) ?_
              refine lv_iload hx hb dX9_feed_90 (lv_at hl 1 rfl) ?_
              refine lv_iconst (v := 3) hx hb dX9_feed_92 (by decide) ?_
              refine lv_iand hx hb dX9_feed_93 ?_
              refine lv_imul hx hb dX9_feed_94 ?_
              refine lv_isub hx hb dX9_feed_95 ?_
              refine lv_ishr hx hb dX9_feed_96 ?_
              refine lv_i2b hx hb dX9_feed_97 rfl ?_
              refine va_bast hx hb hK hP hD hS 1 0 rfl rfl (vp_in_nI (n := (0 + i_1)) (N := 1620) (by omega) (by decide)) dX9_feed_98 (fun H locs hP hD hS => ?_)
              rw [nI_clamp (n := (0 + i_1)) (by omega)] at hP hD
              have hP : va_P D vwCl [(y, .inr (9, fs_y)), (tp, .inl (g 0, 1620, .inl (upd f_3 (0 + i_1) (vp_nar .byte ((p2 >>> ((24 - (8 * ((nI i_1) &&& 3))) &&& 31)).toInt8.toInt32)))))] H := hP
              have hD : va_D A [(y, .inr (9, fs_y)), (tp, .inl (g 0, 1620, .inl (upd f_3 (0 + i_1) (vp_nar .byte ((p2 >>> ((24 - (8 * ((nI i_1) &&& 3))) &&& 31)).toInt8.toInt32)))))] := hD
              refine lv_iinc (v := nI (i_1 + 1)) (lv' := [(6, .int (nI (i_1 + 1))), (7, .int p2), (0, .ref y), (1, .int p0), (2, .int p1), (3, .int p2), (4, .int p3), (5, .int p4)]) hx hb dX9_feed_99 hl (k := 1) rfl (k_inc i_1) (by decide) rfl (fun ls hl => ?_)
              refine lv_goto (tgt := 18) hx hb dX9_feed_102 (by decide) ?_
              exact ih (i_1 + 1) (upd f_3 (0 + i_1) (vp_nar .byte ((p2 >>> ((24 - (8 * ((nI i_1) &&& 3))) &&& 31)).toInt8.toInt32))) (by omega) (by omega)  _ _ _ hP hD hS (lv_sub hl [0, 2, 3, 4, 5, 6, 7] rfl)
          · refine lv_iload_n hx hb dX9_feed_42 rfl (lv_at hl 3 rfl) ?_
            refine lv_goto (tgt := 71) hx hb dX9_feed_43 (by decide) ?_
            refine lv_istore (lv' := [(7, .int p1), (6, .int (nI i_1)), (0, .ref y), (1, .int p0), (2, .int p1), (3, .int p2), (4, .int p3), (5, .int p4)]) hx hb dX9_feed_71 hl (by decide) rfl (fun ls hl => ?_)
            refine lv_aload_n hx hb dX9_feed_73 rfl (lv_at hl 2 rfl) ?_
            refine va_get (D := D) (ci := 9) (v := .ref tp) (C := RX9) (T := TX9) (N := 67) hx hb hts iX9_feed_X9 hown hK hP 0 rfl rfl 0 (by decide) (hts (.fieldLink RX9 7 "CatLeasesModel" "tape" "[B") (List.mem_of_getElem? (i := 2) rfl)) (fun _ h9 => h9) h_y_tape dX9_feed_74 ?_
            refine lv_aload_n hx hb dX9_feed_77 rfl (lv_at hl 2 rfl) ?_
            refine va_get (D := D) (ci := 9) (v := .int 0) (C := RX9) (T := TX9) (N := 67) hx hb hts iX9_feed_X9 hown hK hP 0 rfl rfl 2 (by decide) (hts (.fieldLink RX9 265 "CatLeasesModel" "taped" "I") (List.mem_of_getElem? (i := 1) rfl)) (fun _ h9 => h9) h_y_taped dX9_feed_78 ?_
            refine lv_iload hx hb dX9_feed_81 (lv_at hl 1 rfl) ?_
            refine lv_iadd hx hb dX9_feed_83 ?_
            refine k_top (v := nI (0 + i_1)) (nI_add 0 i_1) ?_
            refine lv_iload hx hb dX9_feed_84 (lv_at hl 0 rfl) ?_
            refine lv_bipush (v := 24) hx hb dX9_feed_86 (by decide) ?_
            refine lv_bipush (v := 8) hx hb dX9_feed_88 (by decide) ?_
            refine lv_iload hx hb dX9_feed_90 (lv_at hl 1 rfl) ?_
            refine lv_iconst (v := 3) hx hb dX9_feed_92 (by decide) ?_
            refine lv_iand hx hb dX9_feed_93 ?_
            refine lv_imul hx hb dX9_feed_94 ?_
            refine lv_isub hx hb dX9_feed_95 ?_
            refine lv_ishr hx hb dX9_feed_96 ?_
            refine lv_i2b hx hb dX9_feed_97 rfl ?_
            refine va_bast hx hb hK hP hD hS 1 0 rfl rfl (vp_in_nI (n := (0 + i_1)) (N := 1620) (by omega) (by decide)) dX9_feed_98 (fun H locs hP hD hS => ?_)
            rw [nI_clamp (n := (0 + i_1)) (by omega)] at hP hD
            have hP : va_P D vwCl [(y, .inr (9, fs_y)), (tp, .inl (g 0, 1620, .inl (upd f_3 (0 + i_1) (vp_nar .byte ((p1 >>> ((24 - (8 * ((nI i_1) &&& 3))) &&& 31)).toInt8.toInt32)))))] H := hP
            have hD : va_D A [(y, .inr (9, fs_y)), (tp, .inl (g 0, 1620, .inl (upd f_3 (0 + i_1) (vp_nar .byte ((p1 >>> ((24 - (8 * ((nI i_1) &&& 3))) &&& 31)).toInt8.toInt32)))))] := hD
            refine lv_iinc (v := nI (i_1 + 1)) (lv' := [(6, .int (nI (i_1 + 1))), (7, .int p1), (0, .ref y), (1, .int p0), (2, .int p1), (3, .int p2), (4, .int p3), (5, .int p4)]) hx hb dX9_feed_99 hl (k := 1) rfl (k_inc i_1) (by decide) rfl (fun ls hl => ?_)
            refine lv_goto (tgt := 18) hx hb dX9_feed_102 (by decide) ?_
            exact ih (i_1 + 1) (upd f_3 (0 + i_1) (vp_nar .byte ((p1 >>> ((24 - (8 * ((nI i_1) &&& 3))) &&& 31)).toInt8.toInt32))) (by omega) (by omega)  _ _ _ hP hD hS (lv_sub hl [0, 2, 3, 4, 5, 6, 7] rfl)
        · refine lv_iload_n hx hb dX9_feed_31 rfl (lv_at hl 2 rfl) ?_
          refine lv_goto (tgt := 71) hx hb dX9_feed_32 (by decide) ?_
          refine lv_istore (lv' := [(7, .int p0), (6, .int (nI i_1)), (0, .ref y), (1, .int p0), (2, .int p1), (3, .int p2), (4, .int p3), (5, .int p4)]) hx hb dX9_feed_71 hl (by decide) rfl (fun ls hl => ?_)
          refine lv_aload_n hx hb dX9_feed_73 rfl (lv_at hl 2 rfl) ?_
          refine va_get (D := D) (ci := 9) (v := .ref tp) (C := RX9) (T := TX9) (N := 67) hx hb hts iX9_feed_X9 hown hK hP 0 rfl rfl 0 (by decide) (hts (.fieldLink RX9 7 "CatLeasesModel" "tape" "[B") (List.mem_of_getElem? (i := 2) rfl)) (fun _ h9 => h9) h_y_tape dX9_feed_74 ?_
          refine lv_aload_n hx hb dX9_feed_77 rfl (lv_at hl 2 rfl) ?_
          refine va_get (D := D) (ci := 9) (v := .int 0) (C := RX9) (T := TX9) (N := 67) hx hb hts iX9_feed_X9 hown hK hP 0 rfl rfl 2 (by decide) (hts (.fieldLink RX9 265 "CatLeasesModel" "taped" "I") (List.mem_of_getElem? (i := 1) rfl)) (fun _ h9 => h9) h_y_taped dX9_feed_78 ?_
          refine lv_iload hx hb dX9_feed_81 (lv_at hl 1 rfl) ?_
          refine lv_iadd hx hb dX9_feed_83 ?_
          refine k_top (v := nI (0 + i_1)) (nI_add 0 i_1) ?_
          refine lv_iload hx hb dX9_feed_84 (lv_at hl 0 rfl) ?_
          refine lv_bipush (v := 24) hx hb dX9_feed_86 (by decide) ?_
          refine lv_bipush (v := 8) hx hb dX9_feed_88 (by decide) ?_
          refine lv_iload hx hb dX9_feed_90 (lv_at hl 1 rfl) ?_
          refine lv_iconst (v := 3) hx hb dX9_feed_92 (by decide) ?_
          refine lv_iand hx hb dX9_feed_93 ?_
          refine lv_imul hx hb dX9_feed_94 ?_
          refine lv_isub hx hb dX9_feed_95 ?_
          refine lv_ishr hx hb dX9_feed_96 ?_
          refine lv_i2b hx hb dX9_feed_97 rfl ?_
          refine va_bast hx hb hK hP hD hS 1 0 rfl rfl (vp_in_nI (n := (0 + i_1)) (N := 1620) (by omega) (by decide)) dX9_feed_98 (fun H locs hP hD hS => ?_)
          rw [nI_clamp (n := (0 + i_1)) (by omega)] at hP hD
          have hP : va_P D vwCl [(y, .inr (9, fs_y)), (tp, .inl (g 0, 1620, .inl (upd f_3 (0 + i_1) (vp_nar .byte ((p0 >>> ((24 - (8 * ((nI i_1) &&& 3))) &&& 31)).toInt8.toInt32)))))] H := hP
          have hD : va_D A [(y, .inr (9, fs_y)), (tp, .inl (g 0, 1620, .inl (upd f_3 (0 + i_1) (vp_nar .byte ((p0 >>> ((24 - (8 * ((nI i_1) &&& 3))) &&& 31)).toInt8.toInt32)))))] := hD
          refine lv_iinc (v := nI (i_1 + 1)) (lv' := [(6, .int (nI (i_1 + 1))), (7, .int p0), (0, .ref y), (1, .int p0), (2, .int p1), (3, .int p2), (4, .int p3), (5, .int p4)]) hx hb dX9_feed_99 hl (k := 1) rfl (k_inc i_1) (by decide) rfl (fun ls hl => ?_)
          refine lv_goto (tgt := 18) hx hb dX9_feed_102 (by decide) ?_
          exact ih (i_1 + 1) (upd f_3 (0 + i_1) (vp_nar .byte ((p0 >>> ((24 - (8 * ((nI i_1) &&& 3))) &&& 31)).toInt8.toInt32))) (by omega) (by omega)  _ _ _ hP hD hS (lv_sub hl [0, 2, 3, 4, 5, 6, 7] rfl)
  exact hloop_6 (20 + 1) 0 f_tp (by omega) (by omega)  _ _ _ hP hD hS hl
set_option maxHeartbeats 4000000 in
set_option maxRecDepth 100000 in
theorem m_sign (l : Launch) (D : va_G) (g : Nat → ClassId) (sz : Nat) (y : Nat) (fs_y : List Value) (h_y_size : fs_y[3]? = some (.int 0)) : Met l yX9_sign wsX9_sign ({ frames := 0, cells := 0, slots := 0, locals := 0 }) (va_Pc [.ref y, .int 0] (kPre D g [(y, .inr (9, fs_y))] sz)) (kQi D g (fun (r : Int32) (u : va_W) => 0 = r ∧ u = [(y, .inr (9, fs_y))]) (va_A [(y, .inr (9, fs_y))] sz)) 0 0 (va_A [(y, .inr (9, fs_y))] sz) := by
  refine k_head (cc := cX9_sign) (maxL := 2) (ret := (some .int)) (by decide) rfl (Nat.le_of_ble_eq_true rfl) ?_
  intro p e s m below meth c ls A hx hb hr hlocks hml hown hin hts hA hP hK hD hS hl
  have hown : s.vm.findClass RX9 = some m.cls := hown
  have hl : lv_has ls 2 [(0, .ref y), (1, .int 0)] := hl
  refine lv_iload_n hx hb dX9_sign_0 rfl (lv_at hl 1 rfl) ?_
  refine lv_aload_n hx hb dX9_sign_1 rfl (lv_at hl 0 rfl) ?_
  refine va_get (D := D) (ci := 9) (v := .int 0) (C := RX9) (T := TX9) (N := 67) hx hb hts iX9_sign_X9 hown hK hP 0 rfl rfl 3 (by decide) (hts (.fieldLink RX9 152 "CatLeasesModel" "size" "I") (List.mem_of_getElem? (i := 1) rfl)) (fun _ h9 => h9) h_y_size dX9_sign_2 ?_
  refine lv_icmp_ge (tgt := 21) hx hb dX9_sign_5 (by decide) (fun _ => ?_) (fun c9 => absurd (by first | decide | rfl) c9)
  refine lv_iconst (v := 0) hx hb dX9_sign_21 (by decide) ?_
  exact k_iret hx hb hr hlocks hK hP hD hS ⟨rfl, rfl⟩ dX9_sign_22
set_option maxHeartbeats 4000000 in
set_option maxRecDepth 100000 in
theorem m_goOn (l : Launch) (D : va_G) (g : Nat → ClassId) (sz : Nat) (y : Nat) (fs_y : List Value) (v_y_at : Value) (v_y_token : Value) (h_y_size : fs_y[3]? = some (.int 0)) (h_y_at : fs_y[6]? = some (v_y_at)) (h_y_end : fs_y[7]? = some (.int 0)) (h_y_token : fs_y[8]? = some (v_y_token)) : Met l yX9_goOn wsX9_goOn ({ frames := 1, cells := 0, slots := 0, locals := 21 }) (va_Pc [.ref y] (kPre D g [(y, .inr (9, fs_y))] sz)) (kQv D g (fun (u : va_W) => u = [(y, .inr (9, (((((fs_y.set 6 (.int 0)).set 7 (.int 1)).set 8 (.int 0)).set 6 (.int 0)).set 7 (.int 0))))]) (va_A [(y, .inr (9, fs_y))] sz)) 0 0 (va_A [(y, .inr (9, fs_y))] sz) := by
  refine k_head (cc := cX9_goOn) (maxL := 3) (ret := none) (by decide) rfl (Nat.le_of_ble_eq_true rfl) ?_
  intro p e s m below meth c ls A hx hb hr hlocks hml hown hin hts hA hP hK hD hS hl
  have hown : s.vm.findClass RX9 = some m.cls := hown
  have hl : lv_has ls 3 [(0, .ref y)] := hl
  refine lv_aload_n hx hb dX9_goOn_0 rfl (lv_at hl 0 rfl) ?_
  refine lv_aload_n hx hb dX9_goOn_1 rfl (lv_at hl 0 rfl) ?_
  refine va_get (D := D) (ci := 9) (v := .int 0) (C := RX9) (T := TX9) (N := 67) hx hb hts iX9_goOn_X9 hown hK hP 0 rfl rfl 7 (by decide) (hts (.fieldLink RX9 196 "CatLeasesModel" "end" "I") (List.mem_of_getElem? (i := 1) rfl)) (fun _ h9 => h9) h_y_end dX9_goOn_2 ?_
  refine va_put (D := D) (ci := 9) (v := .int 0) (ty := .int) (C := RX9) (T := TX9) (N := 67) hx hb hts iX9_goOn_X9 tyX9 tyX9_ok nmX9 hown hK hP hD hS 0 rfl rfl 6 (by decide) (hts (.fieldLink RX9 199 "CatLeasesModel" "at" "I") (List.mem_of_getElem? (i := 2) rfl)) (fun _ h9 => h9) rfl (by decide +kernel) rfl rfl ((k_len h_y_at)) dX9_goOn_5 (fun H locs hP hD hS => ?_)
  have hP : va_P D vwCl [(y, .inr (9, (fs_y.set 6 (.int 0))))] H := hP
  have hD : va_D A [(y, .inr (9, (fs_y.set 6 (.int 0))))] := hD
  refine lv_aload_n hx hb dX9_goOn_8 rfl (lv_at hl 0 rfl) ?_
  refine va_get (D := D) (ci := 9) (v := .int 0) (C := RX9) (T := TX9) (N := 67) hx hb hts iX9_goOn_X9 hown hK hP 0 rfl rfl 6 (by decide) (hts (.fieldLink RX9 199 "CatLeasesModel" "at" "I") (List.mem_of_getElem? (i := 2) rfl)) (fun _ h9 => h9) (k_ss h_y_at) dX9_goOn_9 ?_
  refine lv_aload_n hx hb dX9_goOn_12 rfl (lv_at hl 0 rfl) ?_
  refine va_get (D := D) (ci := 9) (v := .int 0) (C := RX9) (T := TX9) (N := 67) hx hb hts iX9_goOn_X9 hown hK hP 0 rfl rfl 3 (by decide) (hts (.fieldLink RX9 152 "CatLeasesModel" "size" "I") (List.mem_of_getElem? (i := 3) rfl)) (fun _ h9 => h9) (k_sn (by decide) h_y_size) dX9_goOn_13 ?_
  refine lv_icmp_ge (tgt := 58) hx hb dX9_goOn_16 (by decide) (fun _ => ?_) (fun c9 => absurd (by first | decide | rfl) c9)
  refine lv_aload_n hx hb dX9_goOn_58 rfl (lv_at hl 0 rfl) ?_
  refine lv_aload_n hx hb dX9_goOn_59 rfl (lv_at hl 0 rfl) ?_
  refine va_get (D := D) (ci := 9) (v := .int 0) (C := RX9) (T := TX9) (N := 67) hx hb hts iX9_goOn_X9 hown hK hP 0 rfl rfl 6 (by decide) (hts (.fieldLink RX9 199 "CatLeasesModel" "at" "I") (List.mem_of_getElem? (i := 2) rfl)) (fun _ h9 => h9) (k_ss h_y_at) dX9_goOn_60 ?_
  refine k_goi (wr := []) hP hD hS hA [0] [] rfl rfl (by decide) (by decide) (va_runV (As := [.int 0]) (rest := []) ⟨hx, hb, hml, hown, hts⟩ (m_sign l D g _ y (fs_y.set 6 (.int 0)) (k_sn (by decide) h_y_size)) (cwV 1 hts gX9_goOn_X9_sign rfl rfl rfl (by decide +kernel) ⟨Nat.le_of_ble_eq_true rfl, Nat.le_of_ble_eq_true rfl⟩) (k_preV hK (hP.sub [0] rfl) (hD.sub [0] (by decide) rfl) 9 0 rfl rfl) rfl rfl hl.1 rfl (lv_room (Nat.le_of_ble_eq_true rfl)) dX9_goOn_63 ⟨(Nat.le_of_ble_eq_true rfl), (Nat.le_of_ble_eq_true rfl)⟩) (fun r_1 u_2 H locs hw hP hD hS => ?_)
  rcases hw with ⟨rfl, rfl⟩
  have hP := hP.sub (ws' := [(y, .inr (9, (fs_y.set 6 (.int 0))))]) [0] rfl
  have hD := hD.sub (ws' := [(y, .inr (9, (fs_y.set 6 (.int 0))))]) [0] (by decide) rfl
  refine lv_istore_n (lv' := [(1, .int 0), (0, .ref y)]) hx hb dX9_goOn_66 rfl hl (by decide) rfl (fun ls hl => ?_)
  refine lv_aload_n hx hb dX9_goOn_67 rfl (lv_at hl 1 rfl) ?_
  refine lv_aload_n hx hb dX9_goOn_68 rfl (lv_at hl 1 rfl) ?_
  refine va_get (D := D) (ci := 9) (v := .int 0) (C := RX9) (T := TX9) (N := 67) hx hb hts iX9_goOn_X9 hown hK hP 0 rfl rfl 6 (by decide) (hts (.fieldLink RX9 199 "CatLeasesModel" "at" "I") (List.mem_of_getElem? (i := 2) rfl)) (fun _ h9 => h9) (k_ss h_y_at) dX9_goOn_69 ?_
  refine lv_iconst (v := 1) hx hb dX9_goOn_72 (by decide) ?_
  refine lv_iadd hx hb dX9_goOn_73 ?_
  refine k_top (v := 1) (by decide) ?_
  refine va_put (D := D) (ci := 9) (v := .int 1) (ty := .int) (C := RX9) (T := TX9) (N := 67) hx hb hts iX9_goOn_X9 tyX9 tyX9_ok nmX9 hown hK hP hD hS 0 rfl rfl 7 (by decide) (hts (.fieldLink RX9 196 "CatLeasesModel" "end" "I") (List.mem_of_getElem? (i := 1) rfl)) (fun _ h9 => h9) rfl (by decide +kernel) rfl rfl ((k_len (k_sn (by decide) h_y_end))) dX9_goOn_74 (fun H locs hP hD hS => ?_)
  have hP : va_P D vwCl [(y, .inr (9, ((fs_y.set 6 (.int 0)).set 7 (.int 1))))] H := hP
  have hD : va_D A [(y, .inr (9, ((fs_y.set 6 (.int 0)).set 7 (.int 1))))] := hD
  refine lv_aload_n hx hb dX9_goOn_77 rfl (lv_at hl 1 rfl) ?_
  refine va_get (D := D) (ci := 9) (v := .int 0) (C := RX9) (T := TX9) (N := 67) hx hb hts iX9_goOn_X9 hown hK hP 0 rfl rfl 6 (by decide) (hts (.fieldLink RX9 199 "CatLeasesModel" "at" "I") (List.mem_of_getElem? (i := 2) rfl)) (fun _ h9 => h9) (k_sn (by decide) (k_ss h_y_at)) dX9_goOn_78 ?_
  refine lv_aload_n hx hb dX9_goOn_81 rfl (lv_at hl 1 rfl) ?_
  refine va_get (D := D) (ci := 9) (v := .int 0) (C := RX9) (T := TX9) (N := 67) hx hb hts iX9_goOn_X9 hown hK hP 0 rfl rfl 3 (by decide) (hts (.fieldLink RX9 152 "CatLeasesModel" "size" "I") (List.mem_of_getElem? (i := 3) rfl)) (fun _ h9 => h9) (k_sn (by decide) (k_sn (by decide) h_y_size)) dX9_goOn_82 ?_
  refine lv_icmp_lt (tgt := 112) hx hb dX9_goOn_85 (by decide) (fun c9 => absurd c9 (by first | decide | simp)) (fun _ => ?_)
  refine lv_aload_n hx hb dX9_goOn_88 rfl (lv_at hl 1 rfl) ?_
  refine lv_iconst (v := 0) hx hb dX9_goOn_89 (by decide) ?_
  refine va_put (D := D) (ci := 9) (v := .int 0) (ty := .int) (C := RX9) (T := TX9) (N := 67) hx hb hts iX9_goOn_X9 tyX9 tyX9_ok nmX9 hown hK hP hD hS 0 rfl rfl 8 (by decide) (hts (.fieldLink RX9 206 "CatLeasesModel" "token" "I") (List.mem_of_getElem? (i := 4) rfl)) (fun _ h9 => h9) rfl (by decide +kernel) rfl rfl ((k_len (k_sn (by decide) (k_sn (by decide) h_y_token)))) dX9_goOn_90 (fun H locs hP hD hS => ?_)
  have hP : va_P D vwCl [(y, .inr (9, (((fs_y.set 6 (.int 0)).set 7 (.int 1)).set 8 (.int 0))))] H := hP
  have hD : va_D A [(y, .inr (9, (((fs_y.set 6 (.int 0)).set 7 (.int 1)).set 8 (.int 0))))] := hD
  refine lv_aload_n hx hb dX9_goOn_93 rfl (lv_at hl 1 rfl) ?_
  refine lv_aload_n hx hb dX9_goOn_94 rfl (lv_at hl 1 rfl) ?_
  refine va_get (D := D) (ci := 9) (v := .int 0) (C := RX9) (T := TX9) (N := 67) hx hb hts iX9_goOn_X9 hown hK hP 0 rfl rfl 3 (by decide) (hts (.fieldLink RX9 152 "CatLeasesModel" "size" "I") (List.mem_of_getElem? (i := 3) rfl)) (fun _ h9 => h9) (k_sn (by decide) (k_sn (by decide) (k_sn (by decide) h_y_size))) dX9_goOn_95 ?_
  refine va_put (D := D) (ci := 9) (v := .int 0) (ty := .int) (C := RX9) (T := TX9) (N := 67) hx hb hts iX9_goOn_X9 tyX9 tyX9_ok nmX9 hown hK hP hD hS 0 rfl rfl 6 (by decide) (hts (.fieldLink RX9 199 "CatLeasesModel" "at" "I") (List.mem_of_getElem? (i := 2) rfl)) (fun _ h9 => h9) rfl (by decide +kernel) rfl rfl ((k_len (k_sn (by decide) (k_sn (by decide) (k_ss h_y_at))))) dX9_goOn_98 (fun H locs hP hD hS => ?_)
  have hP : va_P D vwCl [(y, .inr (9, ((((fs_y.set 6 (.int 0)).set 7 (.int 1)).set 8 (.int 0)).set 6 (.int 0))))] H := hP
  have hD : va_D A [(y, .inr (9, ((((fs_y.set 6 (.int 0)).set 7 (.int 1)).set 8 (.int 0)).set 6 (.int 0))))] := hD
  refine lv_aload_n hx hb dX9_goOn_101 rfl (lv_at hl 1 rfl) ?_
  refine lv_aload_n hx hb dX9_goOn_102 rfl (lv_at hl 1 rfl) ?_
  refine va_get (D := D) (ci := 9) (v := .int 0) (C := RX9) (T := TX9) (N := 67) hx hb hts iX9_goOn_X9 hown hK hP 0 rfl rfl 3 (by decide) (hts (.fieldLink RX9 152 "CatLeasesModel" "size" "I") (List.mem_of_getElem? (i := 3) rfl)) (fun _ h9 => h9) (k_sn (by decide) (k_sn (by decide) (k_sn (by decide) (k_sn (by decide) h_y_size)))) dX9_goOn_103 ?_
  refine va_put (D := D) (ci := 9) (v := .int 0) (ty := .int) (C := RX9) (T := TX9) (N := 67) hx hb hts iX9_goOn_X9 tyX9 tyX9_ok nmX9 hown hK hP hD hS 0 rfl rfl 7 (by decide) (hts (.fieldLink RX9 196 "CatLeasesModel" "end" "I") (List.mem_of_getElem? (i := 1) rfl)) (fun _ h9 => h9) rfl (by decide +kernel) rfl rfl ((k_len (k_sn (by decide) (k_sn (by decide) (k_ss (k_sn (by decide) h_y_end)))))) dX9_goOn_106 (fun H locs hP hD hS => ?_)
  have hP : va_P D vwCl [(y, .inr (9, (((((fs_y.set 6 (.int 0)).set 7 (.int 1)).set 8 (.int 0)).set 6 (.int 0)).set 7 (.int 0))))] H := hP
  have hD : va_D A [(y, .inr (9, (((((fs_y.set 6 (.int 0)).set 7 (.int 1)).set 8 (.int 0)).set 6 (.int 0)).set 7 (.int 0))))] := hD
  refine lv_goto (tgt := 377) hx hb dX9_goOn_109 (by decide) ?_
  exact k_vret hx hb hr hlocks hK hP hD hS rfl dX9_goOn_377
set_option maxHeartbeats 4000000 in
set_option maxRecDepth 100000 in
theorem m_isGood (l : Launch) (D : va_G) (g : Nat → ClassId) (sz : Nat) (y : Nat) (fs_y : List Value) (h_y_faultKind : fs_y[4]? = some (.int 0)) : Met l yX9_isGood wsX9_isGood ({ frames := 0, cells := 0, slots := 0, locals := 0 }) (va_Pc [.ref y] (kPre D g [(y, .inr (9, fs_y))] sz)) (kQi D g (fun (r : Int32) (u : va_W) => 1 = r ∧ u = [(y, .inr (9, fs_y))]) (va_A [(y, .inr (9, fs_y))] sz)) 0 0 (va_A [(y, .inr (9, fs_y))] sz) := by
  refine k_head (cc := cX9_isGood) (maxL := 1) (ret := (some .boolean)) (by decide) rfl (Nat.le_of_ble_eq_true rfl) ?_
  intro p e s m below meth c ls A hx hb hr hlocks hml hown hin hts hA hP hK hD hS hl
  have hown : s.vm.findClass RX9 = some m.cls := hown
  have hl : lv_has ls 1 [(0, .ref y)] := hl
  refine lv_aload_n hx hb dX9_isGood_0 rfl (lv_at hl 0 rfl) ?_
  refine va_get (D := D) (ci := 9) (v := .int 0) (C := RX9) (T := TX9) (N := 67) hx hb hts iX9_isGood_X9 hown hK hP 0 rfl rfl 4 (by decide) (hts (.fieldLink RX9 155 "CatLeasesModel" "faultKind" "I") (List.mem_of_getElem? (i := 1) rfl)) (fun _ h9 => h9) h_y_faultKind dX9_isGood_1 ?_
  refine lv_if_ne (tgt := 11) hx hb dX9_isGood_4 (by decide) (fun c9 => absurd (by first | decide | rfl) c9) (fun _ => ?_)
  refine lv_iconst (v := 1) hx hb dX9_isGood_7 (by decide) ?_
  refine lv_goto (tgt := 12) hx hb dX9_isGood_8 (by decide) ?_
  exact k_zret hx hb hr hlocks rfl hK hP hD hS ⟨rfl, rfl⟩ dX9_isGood_12
set_option maxHeartbeats 4000000 in
set_option maxRecDepth 100000 in
theorem m_mews (l : Launch) (D : va_G) (g : Nat → ClassId) (sz : Nat) (y : Nat) (yca : Nat) (yro : Nat) (yte : Nat) (yun : Nat) (ydi : Nat) (ydr : Nat) (yto : Nat) (al : Nat) (ib : Nat) (fs_y : List Value) (v_y_size : Value) (v_y_faultKind : Value) (v_y_faultPlace : Value) (v_y_at : Value) (v_y_end : Value) (v_y_token : Value) (v_y_rb : Value) (v_y_codes : Value) (v_y_acts : Value) (v_y_undone : Value) (v_y_laid : Value) (v_y_seens : Value) (f_yca : Nat → Int32) (f_yro : Nat → Int32) (f_yte : Nat → Int32) (f_yun : Nat → Int32) (f_ydi : Nat → Int32) (f_ydr : Nat → Int32) (f_yto : Nat → Int32) (f_al : Nat → Int32) (f_ib : Nat → Int32) (h_y_taped : fs_y[2]? = some (.int 0)) (h_y_size : fs_y[3]? = some (v_y_size)) (h_y_faultKind : fs_y[4]? = some (v_y_faultKind)) (h_y_faultPlace : fs_y[5]? = some (v_y_faultPlace)) (h_y_at : fs_y[6]? = some (v_y_at)) (h_y_end : fs_y[7]? = some (v_y_end)) (h_y_token : fs_y[8]? = some (v_y_token)) (h_y_cats : fs_y[11]? = some (.ref yca)) (h_y_rooms : fs_y[12]? = some (.ref yro)) (h_y_tenants : fs_y[13]? = some (.ref yte)) (h_y_units : fs_y[14]? = some (.ref yun)) (h_y_dies : fs_y[15]? = some (.ref ydi)) (h_y_draw : fs_y[16]? = some (.ref ydr)) (h_y_told : fs_y[17]? = some (.ref yto)) (h_y_bank : fs_y[35]? = some (.int 0)) (h_y_rb : fs_y[36]? = some (v_y_rb)) (h_y_codes : fs_y[37]? = some (v_y_codes)) (h_y_all : fs_y[45]? = some (.ref al)) (h_y_acts : fs_y[50]? = some (v_y_acts)) (h_y_undone : fs_y[51]? = some (v_y_undone)) (h_y_laid : fs_y[54]? = some (v_y_laid)) (h_y_seens : fs_y[63]? = some (v_y_seens)) (h_y_isBoxed : fs_y[66]? = some (.ref ib)) : Met l yX9_mews wsX9_mews ({ frames := 3, cells := 0, slots := 0, locals := 63 }) (va_Pc [.ref y] (kPre D g [(y, .inr (9, fs_y)), (yca, .inl (g 1, 2, .inl f_yca)), (yro, .inl (g 1, 2, .inl f_yro)), (yte, .inl (g 1, 2, .inl f_yte)), (yun, .inl (g 1, 2, .inl f_yun)), (ydi, .inl (g 1, 2, .inl f_ydi)), (ydr, .inl (g 1, 2, .inl f_ydr)), (yto, .inl (g 1, 2, .inl f_yto)), (al, .inl (g 1, 39, .inl f_al)), (ib, .inl (g 3, 3, .inl f_ib))] sz)) (kQi D g (fun (r : Int32) (u : va_W) => 0 = r) (va_A [(y, .inr (9, fs_y)), (yca, .inl (g 1, 2, .inl f_yca)), (yro, .inl (g 1, 2, .inl f_yro)), (yte, .inl (g 1, 2, .inl f_yte)), (yun, .inl (g 1, 2, .inl f_yun)), (ydi, .inl (g 1, 2, .inl f_ydi)), (ydr, .inl (g 1, 2, .inl f_ydr)), (yto, .inl (g 1, 2, .inl f_yto)), (al, .inl (g 1, 39, .inl f_al)), (ib, .inl (g 3, 3, .inl f_ib))] sz)) 0 0 (va_A [(y, .inr (9, fs_y)), (yca, .inl (g 1, 2, .inl f_yca)), (yro, .inl (g 1, 2, .inl f_yro)), (yte, .inl (g 1, 2, .inl f_yte)), (yun, .inl (g 1, 2, .inl f_yun)), (ydi, .inl (g 1, 2, .inl f_ydi)), (ydr, .inl (g 1, 2, .inl f_ydr)), (yto, .inl (g 1, 2, .inl f_yto)), (al, .inl (g 1, 39, .inl f_al)), (ib, .inl (g 3, 3, .inl f_ib))] sz) := by
  refine k_head (cc := cX9_mews) (maxL := 2) (ret := (some .int)) (by decide) rfl (Nat.le_of_ble_eq_true rfl) ?_
  intro p e s m below meth c ls A hx hb hr hlocks hml hown hin hts hA hP hK hD hS hl
  have hown : s.vm.findClass RX9 = some m.cls := hown
  have hl : lv_has ls 2 [(0, .ref y)] := hl
  refine lv_aload_n hx hb dX9_mews_0 rfl (lv_at hl 0 rfl) ?_
  refine lv_iconst (v := 0) hx hb dX9_mews_1 (by decide) ?_
  refine va_put (D := D) (ci := 9) (v := .int 0) (ty := .int) (C := RX9) (T := TX9) (N := 67) hx hb hts iX9_mews_X9 tyX9 tyX9_ok nmX9 hown hK hP hD hS 0 rfl rfl 4 (by decide) (hts (.fieldLink RX9 155 "CatLeasesModel" "faultKind" "I") (List.mem_of_getElem? (i := 1) rfl)) (fun _ h9 => h9) rfl (by decide +kernel) rfl rfl ((k_len h_y_faultKind)) dX9_mews_2 (fun H locs hP hD hS => ?_)
  have hP : va_P D vwCl [(y, .inr (9, (fs_y.set 4 (.int 0)))), (yca, .inl (g 1, 2, .inl f_yca)), (yro, .inl (g 1, 2, .inl f_yro)), (yte, .inl (g 1, 2, .inl f_yte)), (yun, .inl (g 1, 2, .inl f_yun)), (ydi, .inl (g 1, 2, .inl f_ydi)), (ydr, .inl (g 1, 2, .inl f_ydr)), (yto, .inl (g 1, 2, .inl f_yto)), (al, .inl (g 1, 39, .inl f_al)), (ib, .inl (g 3, 3, .inl f_ib))] H := hP
  have hD : va_D A [(y, .inr (9, (fs_y.set 4 (.int 0)))), (yca, .inl (g 1, 2, .inl f_yca)), (yro, .inl (g 1, 2, .inl f_yro)), (yte, .inl (g 1, 2, .inl f_yte)), (yun, .inl (g 1, 2, .inl f_yun)), (ydi, .inl (g 1, 2, .inl f_ydi)), (ydr, .inl (g 1, 2, .inl f_ydr)), (yto, .inl (g 1, 2, .inl f_yto)), (al, .inl (g 1, 39, .inl f_al)), (ib, .inl (g 3, 3, .inl f_ib))] := hD
  refine lv_aload_n hx hb dX9_mews_5 rfl (lv_at hl 0 rfl) ?_
  refine lv_iconst (v := (-1)) hx hb dX9_mews_6 (by decide) ?_
  refine va_put (D := D) (ci := 9) (v := .int (-1)) (ty := .int) (C := RX9) (T := TX9) (N := 67) hx hb hts iX9_mews_X9 tyX9 tyX9_ok nmX9 hown hK hP hD hS 0 rfl rfl 5 (by decide) (hts (.fieldLink RX9 16 "CatLeasesModel" "faultPlace" "I") (List.mem_of_getElem? (i := 2) rfl)) (fun _ h9 => h9) rfl (by decide +kernel) rfl rfl ((k_len (k_sn (by decide) h_y_faultPlace))) dX9_mews_7 (fun H locs hP hD hS => ?_)
  have hP : va_P D vwCl [(y, .inr (9, ((fs_y.set 4 (.int 0)).set 5 (.int (-1))))), (yca, .inl (g 1, 2, .inl f_yca)), (yro, .inl (g 1, 2, .inl f_yro)), (yte, .inl (g 1, 2, .inl f_yte)), (yun, .inl (g 1, 2, .inl f_yun)), (ydi, .inl (g 1, 2, .inl f_ydi)), (ydr, .inl (g 1, 2, .inl f_ydr)), (yto, .inl (g 1, 2, .inl f_yto)), (al, .inl (g 1, 39, .inl f_al)), (ib, .inl (g 3, 3, .inl f_ib))] H := hP
  have hD : va_D A [(y, .inr (9, ((fs_y.set 4 (.int 0)).set 5 (.int (-1))))), (yca, .inl (g 1, 2, .inl f_yca)), (yro, .inl (g 1, 2, .inl f_yro)), (yte, .inl (g 1, 2, .inl f_yte)), (yun, .inl (g 1, 2, .inl f_yun)), (ydi, .inl (g 1, 2, .inl f_ydi)), (ydr, .inl (g 1, 2, .inl f_ydr)), (yto, .inl (g 1, 2, .inl f_yto)), (al, .inl (g 1, 39, .inl f_al)), (ib, .inl (g 3, 3, .inl f_ib))] := hD
  refine lv_aload_n hx hb dX9_mews_10 rfl (lv_at hl 0 rfl) ?_
  refine lv_aload_n hx hb dX9_mews_11 rfl (lv_at hl 0 rfl) ?_
  refine va_get (D := D) (ci := 9) (v := .int 0) (C := RX9) (T := TX9) (N := 67) hx hb hts iX9_mews_X9 hown hK hP 0 rfl rfl 2 (by decide) (hts (.fieldLink RX9 265 "CatLeasesModel" "taped" "I") (List.mem_of_getElem? (i := 3) rfl)) (fun _ h9 => h9) (k_sn (by decide) (k_sn (by decide) h_y_taped)) dX9_mews_12 ?_
  refine va_put (D := D) (ci := 9) (v := .int 0) (ty := .int) (C := RX9) (T := TX9) (N := 67) hx hb hts iX9_mews_X9 tyX9 tyX9_ok nmX9 hown hK hP hD hS 0 rfl rfl 3 (by decide) (hts (.fieldLink RX9 152 "CatLeasesModel" "size" "I") (List.mem_of_getElem? (i := 4) rfl)) (fun _ h9 => h9) rfl (by decide +kernel) rfl rfl ((k_len (k_sn (by decide) (k_sn (by decide) h_y_size)))) dX9_mews_15 (fun H locs hP hD hS => ?_)
  have hP : va_P D vwCl [(y, .inr (9, (((fs_y.set 4 (.int 0)).set 5 (.int (-1))).set 3 (.int 0)))), (yca, .inl (g 1, 2, .inl f_yca)), (yro, .inl (g 1, 2, .inl f_yro)), (yte, .inl (g 1, 2, .inl f_yte)), (yun, .inl (g 1, 2, .inl f_yun)), (ydi, .inl (g 1, 2, .inl f_ydi)), (ydr, .inl (g 1, 2, .inl f_ydr)), (yto, .inl (g 1, 2, .inl f_yto)), (al, .inl (g 1, 39, .inl f_al)), (ib, .inl (g 3, 3, .inl f_ib))] H := hP
  have hD : va_D A [(y, .inr (9, (((fs_y.set 4 (.int 0)).set 5 (.int (-1))).set 3 (.int 0)))), (yca, .inl (g 1, 2, .inl f_yca)), (yro, .inl (g 1, 2, .inl f_yro)), (yte, .inl (g 1, 2, .inl f_yte)), (yun, .inl (g 1, 2, .inl f_yun)), (ydi, .inl (g 1, 2, .inl f_ydi)), (ydr, .inl (g 1, 2, .inl f_ydr)), (yto, .inl (g 1, 2, .inl f_yto)), (al, .inl (g 1, 39, .inl f_al)), (ib, .inl (g 3, 3, .inl f_ib))] := hD
  refine lv_iconst (v := 0) hx hb dX9_mews_18 (by decide) ?_
  refine lv_istore_n (lv' := [(1, .int 0), (0, .ref y)]) hx hb dX9_mews_19 rfl hl (by decide) rfl (fun ls hl => ?_)
  refine lv_iload_n hx hb dX9_mews_20 rfl (lv_at hl 0 rfl) ?_
  refine lv_aload_n hx hb dX9_mews_21 rfl (lv_at hl 1 rfl) ?_
  refine va_get (D := D) (ci := 9) (v := .int 0) (C := RX9) (T := TX9) (N := 67) hx hb hts iX9_mews_X9 hown hK hP 0 rfl rfl 3 (by decide) (hts (.fieldLink RX9 152 "CatLeasesModel" "size" "I") (List.mem_of_getElem? (i := 4) rfl)) (fun _ h9 => h9) (k_ss (k_sn (by decide) (k_sn (by decide) h_y_size))) dX9_mews_22 ?_
  refine lv_icmp_ge (tgt := 46) hx hb dX9_mews_25 (by decide) (fun _ => ?_) (fun c9 => absurd (by first | decide | rfl) c9)
  refine lv_aload_n hx hb dX9_mews_46 rfl (lv_at hl 1 rfl) ?_
  refine lv_iconst (v := 0) hx hb dX9_mews_47 (by decide) ?_
  refine va_put (D := D) (ci := 9) (v := .int 0) (ty := .int) (C := RX9) (T := TX9) (N := 67) hx hb hts iX9_mews_X9 tyX9 tyX9_ok nmX9 hown hK hP hD hS 0 rfl rfl 2 (by decide) (hts (.fieldLink RX9 265 "CatLeasesModel" "taped" "I") (List.mem_of_getElem? (i := 3) rfl)) (fun _ h9 => h9) rfl (by decide +kernel) rfl rfl ((k_len (k_sn (by decide) (k_sn (by decide) (k_sn (by decide) h_y_taped))))) dX9_mews_48 (fun H locs hP hD hS => ?_)
  have hP : va_P D vwCl [(y, .inr (9, ((((fs_y.set 4 (.int 0)).set 5 (.int (-1))).set 3 (.int 0)).set 2 (.int 0)))), (yca, .inl (g 1, 2, .inl f_yca)), (yro, .inl (g 1, 2, .inl f_yro)), (yte, .inl (g 1, 2, .inl f_yte)), (yun, .inl (g 1, 2, .inl f_yun)), (ydi, .inl (g 1, 2, .inl f_ydi)), (ydr, .inl (g 1, 2, .inl f_ydr)), (yto, .inl (g 1, 2, .inl f_yto)), (al, .inl (g 1, 39, .inl f_al)), (ib, .inl (g 3, 3, .inl f_ib))] H := hP
  have hD : va_D A [(y, .inr (9, ((((fs_y.set 4 (.int 0)).set 5 (.int (-1))).set 3 (.int 0)).set 2 (.int 0)))), (yca, .inl (g 1, 2, .inl f_yca)), (yro, .inl (g 1, 2, .inl f_yro)), (yte, .inl (g 1, 2, .inl f_yte)), (yun, .inl (g 1, 2, .inl f_yun)), (ydi, .inl (g 1, 2, .inl f_ydi)), (ydr, .inl (g 1, 2, .inl f_ydr)), (yto, .inl (g 1, 2, .inl f_yto)), (al, .inl (g 1, 39, .inl f_al)), (ib, .inl (g 3, 3, .inl f_ib))] := hD
  refine lv_aload_n hx hb dX9_mews_51 rfl (lv_at hl 1 rfl) ?_
  refine lv_iconst (v := 0) hx hb dX9_mews_52 (by decide) ?_
  refine va_put (D := D) (ci := 9) (v := .int 0) (ty := .int) (C := RX9) (T := TX9) (N := 67) hx hb hts iX9_mews_X9 tyX9 tyX9_ok nmX9 hown hK hP hD hS 0 rfl rfl 7 (by decide) (hts (.fieldLink RX9 196 "CatLeasesModel" "end" "I") (List.mem_of_getElem? (i := 7) rfl)) (fun _ h9 => h9) rfl (by decide +kernel) rfl rfl ((k_len (k_sn (by decide) (k_sn (by decide) (k_sn (by decide) (k_sn (by decide) h_y_end)))))) dX9_mews_53 (fun H locs hP hD hS => ?_)
  have hP : va_P D vwCl [(y, .inr (9, (((((fs_y.set 4 (.int 0)).set 5 (.int (-1))).set 3 (.int 0)).set 2 (.int 0)).set 7 (.int 0)))), (yca, .inl (g 1, 2, .inl f_yca)), (yro, .inl (g 1, 2, .inl f_yro)), (yte, .inl (g 1, 2, .inl f_yte)), (yun, .inl (g 1, 2, .inl f_yun)), (ydi, .inl (g 1, 2, .inl f_ydi)), (ydr, .inl (g 1, 2, .inl f_ydr)), (yto, .inl (g 1, 2, .inl f_yto)), (al, .inl (g 1, 39, .inl f_al)), (ib, .inl (g 3, 3, .inl f_ib))] H := hP
  have hD : va_D A [(y, .inr (9, (((((fs_y.set 4 (.int 0)).set 5 (.int (-1))).set 3 (.int 0)).set 2 (.int 0)).set 7 (.int 0)))), (yca, .inl (g 1, 2, .inl f_yca)), (yro, .inl (g 1, 2, .inl f_yro)), (yte, .inl (g 1, 2, .inl f_yte)), (yun, .inl (g 1, 2, .inl f_yun)), (ydi, .inl (g 1, 2, .inl f_ydi)), (ydr, .inl (g 1, 2, .inl f_ydr)), (yto, .inl (g 1, 2, .inl f_yto)), (al, .inl (g 1, 39, .inl f_al)), (ib, .inl (g 3, 3, .inl f_ib))] := hD
  refine lv_aload_n hx hb dX9_mews_56 rfl (lv_at hl 1 rfl) ?_
  refine lv_iconst (v := 1) hx hb dX9_mews_57 (by decide) ?_
  refine lv_aload_n hx hb dX9_mews_58 rfl (lv_at hl 1 rfl) ?_
  refine va_get (D := D) (ci := 9) (v := .int 0) (C := RX9) (T := TX9) (N := 67) hx hb hts iX9_mews_X9 hown hK hP 0 rfl rfl 35 (by decide) (hts (.fieldLink RX9 268 "CatLeasesModel" "bank" "I") (List.mem_of_getElem? (i := 8) rfl)) (fun _ h9 => h9) (k_sn (by decide) (k_sn (by decide) (k_sn (by decide) (k_sn (by decide) (k_sn (by decide) h_y_bank))))) dX9_mews_59 ?_
  refine lv_isub hx hb dX9_mews_62 ?_
  refine k_top (v := 1) (by decide) ?_
  refine va_put (D := D) (ci := 9) (v := .int 1) (ty := .int) (C := RX9) (T := TX9) (N := 67) hx hb hts iX9_mews_X9 tyX9 tyX9_ok nmX9 hown hK hP hD hS 0 rfl rfl 36 (by decide) (hts (.fieldLink RX9 259 "CatLeasesModel" "rb" "I") (List.mem_of_getElem? (i := 9) rfl)) (fun _ h9 => h9) rfl (by decide +kernel) rfl rfl ((k_len (k_sn (by decide) (k_sn (by decide) (k_sn (by decide) (k_sn (by decide) (k_sn (by decide) h_y_rb))))))) dX9_mews_63 (fun H locs hP hD hS => ?_)
  have hP : va_P D vwCl [(y, .inr (9, ((((((fs_y.set 4 (.int 0)).set 5 (.int (-1))).set 3 (.int 0)).set 2 (.int 0)).set 7 (.int 0)).set 36 (.int 1)))), (yca, .inl (g 1, 2, .inl f_yca)), (yro, .inl (g 1, 2, .inl f_yro)), (yte, .inl (g 1, 2, .inl f_yte)), (yun, .inl (g 1, 2, .inl f_yun)), (ydi, .inl (g 1, 2, .inl f_ydi)), (ydr, .inl (g 1, 2, .inl f_ydr)), (yto, .inl (g 1, 2, .inl f_yto)), (al, .inl (g 1, 39, .inl f_al)), (ib, .inl (g 3, 3, .inl f_ib))] H := hP
  have hD : va_D A [(y, .inr (9, ((((((fs_y.set 4 (.int 0)).set 5 (.int (-1))).set 3 (.int 0)).set 2 (.int 0)).set 7 (.int 0)).set 36 (.int 1)))), (yca, .inl (g 1, 2, .inl f_yca)), (yro, .inl (g 1, 2, .inl f_yro)), (yte, .inl (g 1, 2, .inl f_yte)), (yun, .inl (g 1, 2, .inl f_yun)), (ydi, .inl (g 1, 2, .inl f_ydi)), (ydr, .inl (g 1, 2, .inl f_ydr)), (yto, .inl (g 1, 2, .inl f_yto)), (al, .inl (g 1, 39, .inl f_al)), (ib, .inl (g 3, 3, .inl f_ib))] := hD
  refine lv_aload_n hx hb dX9_mews_66 rfl (lv_at hl 1 rfl) ?_
  refine k_gov (wr := [(al, .inl (g 1, 39, .inl f_al)), (ib, .inl (g 3, 3, .inl f_ib))]) hP hD hS hA [0, 1, 2, 3, 4, 5, 6, 7] [8, 9] rfl rfl (by decide) (by decide) (va_runV (As := []) (rest := []) ⟨hx, hb, hml, hown, hts⟩ (m_clearBank1 l D g _ y yca yro yte yun ydi ydr yto ((((((fs_y.set 4 (.int 0)).set 5 (.int (-1))).set 3 (.int 0)).set 2 (.int 0)).set 7 (.int 0)).set 36 (.int 1)) (v_y_codes) f_yca f_yro f_yte f_yun f_ydi f_ydr f_yto (k_sn (by decide) (k_sn (by decide) (k_sn (by decide) (k_sn (by decide) (k_sn (by decide) (k_sn (by decide) h_y_cats)))))) (k_sn (by decide) (k_sn (by decide) (k_sn (by decide) (k_sn (by decide) (k_sn (by decide) (k_sn (by decide) h_y_rooms)))))) (k_sn (by decide) (k_sn (by decide) (k_sn (by decide) (k_sn (by decide) (k_sn (by decide) (k_sn (by decide) h_y_tenants)))))) (k_sn (by decide) (k_sn (by decide) (k_sn (by decide) (k_sn (by decide) (k_sn (by decide) (k_sn (by decide) h_y_units)))))) (k_sn (by decide) (k_sn (by decide) (k_sn (by decide) (k_sn (by decide) (k_sn (by decide) (k_sn (by decide) h_y_dies)))))) (k_sn (by decide) (k_sn (by decide) (k_sn (by decide) (k_sn (by decide) (k_sn (by decide) (k_sn (by decide) h_y_draw)))))) (k_sn (by decide) (k_sn (by decide) (k_sn (by decide) (k_sn (by decide) (k_sn (by decide) (k_sn (by decide) h_y_told)))))) (k_ss (k_sn (by decide) (k_sn (by decide) (k_sn (by decide) (k_sn (by decide) (k_sn (by decide) h_y_rb)))))) (k_sn (by decide) (k_sn (by decide) (k_sn (by decide) (k_sn (by decide) (k_sn (by decide) (k_sn (by decide) h_y_codes))))))) (cwV 0 hts gX9_mews_X9_clearBank rfl rfl rfl (by decide +kernel) ⟨Nat.le_of_ble_eq_true rfl, Nat.le_of_ble_eq_true rfl⟩) (k_preV hK (hP.sub [0, 1, 2, 3, 4, 5, 6, 7] rfl) (hD.sub [0, 1, 2, 3, 4, 5, 6, 7] (by decide) rfl) 9 0 rfl rfl) rfl rfl hl.1 rfl (lv_room (Nat.le_of_ble_eq_true rfl)) dX9_mews_67 ⟨(Nat.le_of_ble_eq_true rfl), (Nat.le_of_ble_eq_true rfl)⟩) (fun u_2 H locs hw hP hD hS => ?_)
  rcases hw with ⟨f_3, f_4, f_5, f_6, f_7, f_8, f_9, c_10, c_11, c_12, c_13, c_14, c_15, c_16, rfl⟩
  have hP := hP.sub (ws' := [(y, .inr (9, (((((((fs_y.set 4 (.int 0)).set 5 (.int (-1))).set 3 (.int 0)).set 2 (.int 0)).set 7 (.int 0)).set 36 (.int 1)).set 37 (.int 560)))), (yca, .inl (g 1, 2, .inl f_3)), (yro, .inl (g 1, 2, .inl f_4)), (yte, .inl (g 1, 2, .inl f_5)), (yun, .inl (g 1, 2, .inl f_6)), (ydi, .inl (g 1, 2, .inl f_7)), (ydr, .inl (g 1, 2, .inl f_8)), (yto, .inl (g 1, 2, .inl f_9)), (al, .inl (g 1, 39, .inl f_al)), (ib, .inl (g 3, 3, .inl f_ib))]) [2, 3, 4, 5, 6, 7, 8, 9, 0, 1] rfl
  have hD := hD.sub (ws' := [(y, .inr (9, (((((((fs_y.set 4 (.int 0)).set 5 (.int (-1))).set 3 (.int 0)).set 2 (.int 0)).set 7 (.int 0)).set 36 (.int 1)).set 37 (.int 560)))), (yca, .inl (g 1, 2, .inl f_3)), (yro, .inl (g 1, 2, .inl f_4)), (yte, .inl (g 1, 2, .inl f_5)), (yun, .inl (g 1, 2, .inl f_6)), (ydi, .inl (g 1, 2, .inl f_7)), (ydr, .inl (g 1, 2, .inl f_8)), (yto, .inl (g 1, 2, .inl f_9)), (al, .inl (g 1, 39, .inl f_al)), (ib, .inl (g 3, 3, .inl f_ib))]) [2, 3, 4, 5, 6, 7, 8, 9, 0, 1] (by decide) rfl
  refine lv_aload_n hx hb dX9_mews_70 rfl (lv_at hl 1 rfl) ?_
  refine k_gov (wr := [(yca, .inl (g 1, 2, .inl f_3)), (yro, .inl (g 1, 2, .inl f_4)), (yte, .inl (g 1, 2, .inl f_5)), (yun, .inl (g 1, 2, .inl f_6)), (ydi, .inl (g 1, 2, .inl f_7)), (ydr, .inl (g 1, 2, .inl f_8)), (yto, .inl (g 1, 2, .inl f_9)), (al, .inl (g 1, 39, .inl f_al)), (ib, .inl (g 3, 3, .inl f_ib))]) hP hD hS hA [0] [1, 2, 3, 4, 5, 6, 7, 8, 9] rfl rfl (by decide) (by decide) (va_runV (As := []) (rest := []) ⟨hx, hb, hml, hown, hts⟩ (m_goOn l D g _ y (((((((fs_y.set 4 (.int 0)).set 5 (.int (-1))).set 3 (.int 0)).set 2 (.int 0)).set 7 (.int 0)).set 36 (.int 1)).set 37 (.int 560)) (v_y_at) (v_y_token) (k_sn (by decide) (k_sn (by decide) (k_sn (by decide) (k_sn (by decide) (k_ss (k_sn (by decide) (k_sn (by decide) h_y_size))))))) (k_sn (by decide) (k_sn (by decide) (k_sn (by decide) (k_sn (by decide) (k_sn (by decide) (k_sn (by decide) (k_sn (by decide) h_y_at))))))) (k_sn (by decide) (k_sn (by decide) (k_ss (k_sn (by decide) (k_sn (by decide) (k_sn (by decide) (k_sn (by decide) h_y_end))))))) (k_sn (by decide) (k_sn (by decide) (k_sn (by decide) (k_sn (by decide) (k_sn (by decide) (k_sn (by decide) (k_sn (by decide) h_y_token)))))))) (cwV 0 hts gX9_mews_X9_goOn rfl rfl rfl (by decide +kernel) ⟨Nat.le_of_ble_eq_true rfl, Nat.le_of_ble_eq_true rfl⟩) (k_preV hK (hP.sub [0] rfl) (hD.sub [0] (by decide) rfl) 9 0 rfl rfl) rfl rfl hl.1 rfl (lv_room (Nat.le_of_ble_eq_true rfl)) dX9_mews_71 ⟨(Nat.le_of_ble_eq_true rfl), (Nat.le_of_ble_eq_true rfl)⟩) (fun u_18 H locs hw hP hD hS => ?_)
  rcases hw with rfl
  have hP := hP.sub (ws' := [(y, .inr (9, ((((((((((((fs_y.set 4 (.int 0)).set 5 (.int (-1))).set 3 (.int 0)).set 2 (.int 0)).set 7 (.int 0)).set 36 (.int 1)).set 37 (.int 560)).set 6 (.int 0)).set 7 (.int 1)).set 8 (.int 0)).set 6 (.int 0)).set 7 (.int 0)))), (yca, .inl (g 1, 2, .inl f_3)), (yro, .inl (g 1, 2, .inl f_4)), (yte, .inl (g 1, 2, .inl f_5)), (yun, .inl (g 1, 2, .inl f_6)), (ydi, .inl (g 1, 2, .inl f_7)), (ydr, .inl (g 1, 2, .inl f_8)), (yto, .inl (g 1, 2, .inl f_9)), (al, .inl (g 1, 39, .inl f_al)), (ib, .inl (g 3, 3, .inl f_ib))]) [9, 0, 1, 2, 3, 4, 5, 6, 7, 8] rfl
  have hD := hD.sub (ws' := [(y, .inr (9, ((((((((((((fs_y.set 4 (.int 0)).set 5 (.int (-1))).set 3 (.int 0)).set 2 (.int 0)).set 7 (.int 0)).set 36 (.int 1)).set 37 (.int 560)).set 6 (.int 0)).set 7 (.int 1)).set 8 (.int 0)).set 6 (.int 0)).set 7 (.int 0)))), (yca, .inl (g 1, 2, .inl f_3)), (yro, .inl (g 1, 2, .inl f_4)), (yte, .inl (g 1, 2, .inl f_5)), (yun, .inl (g 1, 2, .inl f_6)), (ydi, .inl (g 1, 2, .inl f_7)), (ydr, .inl (g 1, 2, .inl f_8)), (yto, .inl (g 1, 2, .inl f_9)), (al, .inl (g 1, 39, .inl f_al)), (ib, .inl (g 3, 3, .inl f_ib))]) [9, 0, 1, 2, 3, 4, 5, 6, 7, 8] (by decide) rfl
  refine lv_aload_n hx hb dX9_mews_74 rfl (lv_at hl 1 rfl) ?_
  refine k_goi (wr := [(yca, .inl (g 1, 2, .inl f_3)), (yro, .inl (g 1, 2, .inl f_4)), (yte, .inl (g 1, 2, .inl f_5)), (yun, .inl (g 1, 2, .inl f_6)), (ydi, .inl (g 1, 2, .inl f_7)), (ydr, .inl (g 1, 2, .inl f_8)), (yto, .inl (g 1, 2, .inl f_9)), (al, .inl (g 1, 39, .inl f_al)), (ib, .inl (g 3, 3, .inl f_ib))]) hP hD hS hA [0] [1, 2, 3, 4, 5, 6, 7, 8, 9] rfl rfl (by decide) (by decide) (va_runV (As := []) (rest := []) ⟨hx, hb, hml, hown, hts⟩ (m_isGood l D g _ y ((((((((((((fs_y.set 4 (.int 0)).set 5 (.int (-1))).set 3 (.int 0)).set 2 (.int 0)).set 7 (.int 0)).set 36 (.int 1)).set 37 (.int 560)).set 6 (.int 0)).set 7 (.int 1)).set 8 (.int 0)).set 6 (.int 0)).set 7 (.int 0)) (k_sn (by decide) (k_sn (by decide) (k_sn (by decide) (k_sn (by decide) (k_sn (by decide) (k_sn (by decide) (k_sn (by decide) (k_sn (by decide) (k_sn (by decide) (k_sn (by decide) (k_sn (by decide) (k_ss h_y_faultKind))))))))))))) (cwV 0 hts gX9_mews_X9_isGood rfl rfl rfl (by decide +kernel) ⟨Nat.le_of_ble_eq_true rfl, Nat.le_of_ble_eq_true rfl⟩) (k_preV hK (hP.sub [0] rfl) (hD.sub [0] (by decide) rfl) 9 0 rfl rfl) rfl rfl hl.1 rfl (lv_room (Nat.le_of_ble_eq_true rfl)) dX9_mews_75 ⟨(Nat.le_of_ble_eq_true rfl), (Nat.le_of_ble_eq_true rfl)⟩) (fun r_19 u_20 H locs hw hP hD hS => ?_)
  rcases hw with ⟨rfl, rfl⟩
  have hP := hP.sub (ws' := [(y, .inr (9, ((((((((((((fs_y.set 4 (.int 0)).set 5 (.int (-1))).set 3 (.int 0)).set 2 (.int 0)).set 7 (.int 0)).set 36 (.int 1)).set 37 (.int 560)).set 6 (.int 0)).set 7 (.int 1)).set 8 (.int 0)).set 6 (.int 0)).set 7 (.int 0)))), (yca, .inl (g 1, 2, .inl f_3)), (yro, .inl (g 1, 2, .inl f_4)), (yte, .inl (g 1, 2, .inl f_5)), (yun, .inl (g 1, 2, .inl f_6)), (ydi, .inl (g 1, 2, .inl f_7)), (ydr, .inl (g 1, 2, .inl f_8)), (yto, .inl (g 1, 2, .inl f_9)), (al, .inl (g 1, 39, .inl f_al)), (ib, .inl (g 3, 3, .inl f_ib))]) [9, 0, 1, 2, 3, 4, 5, 6, 7, 8] rfl
  have hD := hD.sub (ws' := [(y, .inr (9, ((((((((((((fs_y.set 4 (.int 0)).set 5 (.int (-1))).set 3 (.int 0)).set 2 (.int 0)).set 7 (.int 0)).set 36 (.int 1)).set 37 (.int 560)).set 6 (.int 0)).set 7 (.int 1)).set 8 (.int 0)).set 6 (.int 0)).set 7 (.int 0)))), (yca, .inl (g 1, 2, .inl f_3)), (yro, .inl (g 1, 2, .inl f_4)), (yte, .inl (g 1, 2, .inl f_5)), (yun, .inl (g 1, 2, .inl f_6)), (ydi, .inl (g 1, 2, .inl f_7)), (ydr, .inl (g 1, 2, .inl f_8)), (yto, .inl (g 1, 2, .inl f_9)), (al, .inl (g 1, 39, .inl f_al)), (ib, .inl (g 3, 3, .inl f_ib))]) [9, 0, 1, 2, 3, 4, 5, 6, 7, 8] (by decide) rfl
  refine lv_if_eq (tgt := 95) hx hb dX9_mews_78 (by decide) (fun c9 => absurd c9 (by first | decide | simp)) (fun _ => ?_)
  refine lv_aload_n hx hb dX9_mews_81 rfl (lv_at hl 1 rfl) ?_
  refine va_get (D := D) (ci := 9) (v := .int 0) (C := RX9) (T := TX9) (N := 67) hx hb hts iX9_mews_X9 hown hK hP 0 rfl rfl 8 (by decide) (hts (.fieldLink RX9 206 "CatLeasesModel" "token" "I") (List.mem_of_getElem? (i := 10) rfl)) (fun _ h9 => h9) (k_sn (by decide) (k_sn (by decide) (k_ss (k_sn (by decide) (k_sn (by decide) (k_sn (by decide) (k_sn (by decide) (k_sn (by decide) (k_sn (by decide) (k_sn (by decide) (k_sn (by decide) (k_sn (by decide) h_y_token)))))))))))) dX9_mews_82 ?_
  refine lv_if_eq (tgt := 95) hx hb dX9_mews_85 (by decide) (fun _ => ?_) (fun c9 => absurd (by first | decide | rfl) c9)
  refine lv_aload_n hx hb dX9_mews_95 rfl (lv_at hl 1 rfl) ?_
  refine k_goi (wr := [(yca, .inl (g 1, 2, .inl f_3)), (yro, .inl (g 1, 2, .inl f_4)), (yte, .inl (g 1, 2, .inl f_5)), (yun, .inl (g 1, 2, .inl f_6)), (ydi, .inl (g 1, 2, .inl f_7)), (ydr, .inl (g 1, 2, .inl f_8)), (yto, .inl (g 1, 2, .inl f_9)), (al, .inl (g 1, 39, .inl f_al)), (ib, .inl (g 3, 3, .inl f_ib))]) hP hD hS hA [0] [1, 2, 3, 4, 5, 6, 7, 8, 9] rfl rfl (by decide) (by decide) (va_runV (As := []) (rest := []) ⟨hx, hb, hml, hown, hts⟩ (m_isGood l D g _ y ((((((((((((fs_y.set 4 (.int 0)).set 5 (.int (-1))).set 3 (.int 0)).set 2 (.int 0)).set 7 (.int 0)).set 36 (.int 1)).set 37 (.int 560)).set 6 (.int 0)).set 7 (.int 1)).set 8 (.int 0)).set 6 (.int 0)).set 7 (.int 0)) (k_sn (by decide) (k_sn (by decide) (k_sn (by decide) (k_sn (by decide) (k_sn (by decide) (k_sn (by decide) (k_sn (by decide) (k_sn (by decide) (k_sn (by decide) (k_sn (by decide) (k_sn (by decide) (k_ss h_y_faultKind))))))))))))) (cwV 0 hts gX9_mews_X9_isGood rfl rfl rfl (by decide +kernel) ⟨Nat.le_of_ble_eq_true rfl, Nat.le_of_ble_eq_true rfl⟩) (k_preV hK (hP.sub [0] rfl) (hD.sub [0] (by decide) rfl) 9 0 rfl rfl) rfl rfl hl.1 rfl (lv_room (Nat.le_of_ble_eq_true rfl)) dX9_mews_96 ⟨(Nat.le_of_ble_eq_true rfl), (Nat.le_of_ble_eq_true rfl)⟩) (fun r_21 u_22 H locs hw hP hD hS => ?_)
  rcases hw with ⟨rfl, rfl⟩
  have hP := hP.sub (ws' := [(y, .inr (9, ((((((((((((fs_y.set 4 (.int 0)).set 5 (.int (-1))).set 3 (.int 0)).set 2 (.int 0)).set 7 (.int 0)).set 36 (.int 1)).set 37 (.int 560)).set 6 (.int 0)).set 7 (.int 1)).set 8 (.int 0)).set 6 (.int 0)).set 7 (.int 0)))), (yca, .inl (g 1, 2, .inl f_3)), (yro, .inl (g 1, 2, .inl f_4)), (yte, .inl (g 1, 2, .inl f_5)), (yun, .inl (g 1, 2, .inl f_6)), (ydi, .inl (g 1, 2, .inl f_7)), (ydr, .inl (g 1, 2, .inl f_8)), (yto, .inl (g 1, 2, .inl f_9)), (al, .inl (g 1, 39, .inl f_al)), (ib, .inl (g 3, 3, .inl f_ib))]) [9, 0, 1, 2, 3, 4, 5, 6, 7, 8] rfl
  have hD := hD.sub (ws' := [(y, .inr (9, ((((((((((((fs_y.set 4 (.int 0)).set 5 (.int (-1))).set 3 (.int 0)).set 2 (.int 0)).set 7 (.int 0)).set 36 (.int 1)).set 37 (.int 560)).set 6 (.int 0)).set 7 (.int 1)).set 8 (.int 0)).set 6 (.int 0)).set 7 (.int 0)))), (yca, .inl (g 1, 2, .inl f_3)), (yro, .inl (g 1, 2, .inl f_4)), (yte, .inl (g 1, 2, .inl f_5)), (yun, .inl (g 1, 2, .inl f_6)), (ydi, .inl (g 1, 2, .inl f_7)), (ydr, .inl (g 1, 2, .inl f_8)), (yto, .inl (g 1, 2, .inl f_9)), (al, .inl (g 1, 39, .inl f_al)), (ib, .inl (g 3, 3, .inl f_ib))]) [9, 0, 1, 2, 3, 4, 5, 6, 7, 8] (by decide) rfl
  refine lv_if_ne (tgt := 104) hx hb dX9_mews_99 (by decide) (fun _ => ?_) (fun c9 => absurd c9 (by first | decide | simp))
  refine lv_aload_n hx hb dX9_mews_104 rfl (lv_at hl 1 rfl) ?_
  refine lv_aload_n hx hb dX9_mews_105 rfl (lv_at hl 1 rfl) ?_
  refine va_get (D := D) (ci := 9) (v := .int 1) (C := RX9) (T := TX9) (N := 67) hx hb hts iX9_mews_X9 hown hK hP 0 rfl rfl 36 (by decide) (hts (.fieldLink RX9 259 "CatLeasesModel" "rb" "I") (List.mem_of_getElem? (i := 9) rfl)) (fun _ h9 => h9) (k_sn (by decide) (k_sn (by decide) (k_sn (by decide) (k_sn (by decide) (k_sn (by decide) (k_sn (by decide) (k_ss (k_sn (by decide) (k_sn (by decide) (k_sn (by decide) (k_sn (by decide) (k_sn (by decide) h_y_rb)))))))))))) dX9_mews_106 ?_
  refine va_put (D := D) (ci := 9) (v := .int 1) (ty := .int) (C := RX9) (T := TX9) (N := 67) hx hb hts iX9_mews_X9 tyX9 tyX9_ok nmX9 hown hK hP hD hS 0 rfl rfl 35 (by decide) (hts (.fieldLink RX9 268 "CatLeasesModel" "bank" "I") (List.mem_of_getElem? (i := 8) rfl)) (fun _ h9 => h9) rfl (by decide +kernel) rfl rfl ((k_len (k_sn (by decide) (k_sn (by decide) (k_sn (by decide) (k_sn (by decide) (k_sn (by decide) (k_sn (by decide) (k_sn (by decide) (k_sn (by decide) (k_sn (by decide) (k_sn (by decide) (k_sn (by decide) (k_sn (by decide) h_y_bank)))))))))))))) dX9_mews_109 (fun H locs hP hD hS => ?_)
  have hP : va_P D vwCl [(y, .inr (9, (((((((((((((fs_y.set 4 (.int 0)).set 5 (.int (-1))).set 3 (.int 0)).set 2 (.int 0)).set 7 (.int 0)).set 36 (.int 1)).set 37 (.int 560)).set 6 (.int 0)).set 7 (.int 1)).set 8 (.int 0)).set 6 (.int 0)).set 7 (.int 0)).set 35 (.int 1)))), (yca, .inl (g 1, 2, .inl f_3)), (yro, .inl (g 1, 2, .inl f_4)), (yte, .inl (g 1, 2, .inl f_5)), (yun, .inl (g 1, 2, .inl f_6)), (ydi, .inl (g 1, 2, .inl f_7)), (ydr, .inl (g 1, 2, .inl f_8)), (yto, .inl (g 1, 2, .inl f_9)), (al, .inl (g 1, 39, .inl f_al)), (ib, .inl (g 3, 3, .inl f_ib))] H := hP
  have hD : va_D A [(y, .inr (9, (((((((((((((fs_y.set 4 (.int 0)).set 5 (.int (-1))).set 3 (.int 0)).set 2 (.int 0)).set 7 (.int 0)).set 36 (.int 1)).set 37 (.int 560)).set 6 (.int 0)).set 7 (.int 1)).set 8 (.int 0)).set 6 (.int 0)).set 7 (.int 0)).set 35 (.int 1)))), (yca, .inl (g 1, 2, .inl f_3)), (yro, .inl (g 1, 2, .inl f_4)), (yte, .inl (g 1, 2, .inl f_5)), (yun, .inl (g 1, 2, .inl f_6)), (ydi, .inl (g 1, 2, .inl f_7)), (ydr, .inl (g 1, 2, .inl f_8)), (yto, .inl (g 1, 2, .inl f_9)), (al, .inl (g 1, 39, .inl f_al)), (ib, .inl (g 3, 3, .inl f_ib))] := hD
  refine lv_aload_n hx hb dX9_mews_112 rfl (lv_at hl 1 rfl) ?_
  refine k_gov (wr := [(yun, .inl (g 1, 2, .inl f_6)), (ydi, .inl (g 1, 2, .inl f_7)), (yto, .inl (g 1, 2, .inl f_9))]) hP hD hS hA [0, 3, 1, 2, 8, 6, 9] [4, 5, 7] rfl rfl (by decide) (by decide) (va_runV (As := []) (rest := []) ⟨hx, hb, hml, hown, hts⟩ (m_startAnew1 l D g _ y yte yca yro al ydr ib (((((((((((((fs_y.set 4 (.int 0)).set 5 (.int (-1))).set 3 (.int 0)).set 2 (.int 0)).set 7 (.int 0)).set 36 (.int 1)).set 37 (.int 560)).set 6 (.int 0)).set 7 (.int 1)).set 8 (.int 0)).set 6 (.int 0)).set 7 (.int 0)).set 35 (.int 1)) (v_y_acts) (v_y_undone) (v_y_laid) (v_y_seens) f_5 f_3 f_4 f_al f_8 f_ib (k_sn (by decide) (k_sn (by decide) (k_sn (by decide) (k_sn (by decide) (k_sn (by decide) (k_sn (by decide) (k_sn (by decide) (k_sn (by decide) (k_sn (by decide) (k_sn (by decide) (k_sn (by decide) (k_sn (by decide) (k_sn (by decide) h_y_cats))))))))))))) (k_sn (by decide) (k_sn (by decide) (k_sn (by decide) (k_sn (by decide) (k_sn (by decide) (k_sn (by decide) (k_sn (by decide) (k_sn (by decide) (k_sn (by decide) (k_sn (by decide) (k_sn (by decide) (k_sn (by decide) (k_sn (by decide) h_y_rooms))))))))))))) (k_sn (by decide) (k_sn (by decide) (k_sn (by decide) (k_sn (by decide) (k_sn (by decide) (k_sn (by decide) (k_sn (by decide) (k_sn (by decide) (k_sn (by decide) (k_sn (by decide) (k_sn (by decide) (k_sn (by decide) (k_sn (by decide) h_y_tenants))))))))))))) (k_sn (by decide) (k_sn (by decide) (k_sn (by decide) (k_sn (by decide) (k_sn (by decide) (k_sn (by decide) (k_sn (by decide) (k_sn (by decide) (k_sn (by decide) (k_sn (by decide) (k_sn (by decide) (k_sn (by decide) (k_sn (by decide) h_y_draw))))))))))))) (k_ss (k_sn (by decide) (k_sn (by decide) (k_sn (by decide) (k_sn (by decide) (k_sn (by decide) (k_sn (by decide) (k_sn (by decide) (k_sn (by decide) (k_sn (by decide) (k_sn (by decide) (k_sn (by decide) (k_sn (by decide) h_y_bank))))))))))))) (k_sn (by decide) (k_sn (by decide) (k_sn (by decide) (k_sn (by decide) (k_sn (by decide) (k_sn (by decide) (k_sn (by decide) (k_sn (by decide) (k_sn (by decide) (k_sn (by decide) (k_sn (by decide) (k_sn (by decide) (k_sn (by decide) h_y_all))))))))))))) (k_sn (by decide) (k_sn (by decide) (k_sn (by decide) (k_sn (by decide) (k_sn (by decide) (k_sn (by decide) (k_sn (by decide) (k_sn (by decide) (k_sn (by decide) (k_sn (by decide) (k_sn (by decide) (k_sn (by decide) (k_sn (by decide) h_y_acts))))))))))))) (k_sn (by decide) (k_sn (by decide) (k_sn (by decide) (k_sn (by decide) (k_sn (by decide) (k_sn (by decide) (k_sn (by decide) (k_sn (by decide) (k_sn (by decide) (k_sn (by decide) (k_sn (by decide) (k_sn (by decide) (k_sn (by decide) h_y_undone))))))))))))) (k_sn (by decide) (k_sn (by decide) (k_sn (by decide) (k_sn (by decide) (k_sn (by decide) (k_sn (by decide) (k_sn (by decide) (k_sn (by decide) (k_sn (by decide) (k_sn (by decide) (k_sn (by decide) (k_sn (by decide) (k_sn (by decide) h_y_laid))))))))))))) (k_sn (by decide) (k_sn (by decide) (k_sn (by decide) (k_sn (by decide) (k_sn (by decide) (k_sn (by decide) (k_sn (by decide) (k_sn (by decide) (k_sn (by decide) (k_sn (by decide) (k_sn (by decide) (k_sn (by decide) (k_sn (by decide) h_y_seens))))))))))))) (k_sn (by decide) (k_sn (by decide) (k_sn (by decide) (k_sn (by decide) (k_sn (by decide) (k_sn (by decide) (k_sn (by decide) (k_sn (by decide) (k_sn (by decide) (k_sn (by decide) (k_sn (by decide) (k_sn (by decide) (k_sn (by decide) h_y_isBoxed))))))))))))) c_12 c_10 c_11 c_15) (cwV 0 hts gX9_mews_X9_startAnew rfl rfl rfl (by decide +kernel) ⟨Nat.le_of_ble_eq_true rfl, Nat.le_of_ble_eq_true rfl⟩) (k_preV hK (hP.sub [0, 3, 1, 2, 8, 6, 9] rfl) (hD.sub [0, 3, 1, 2, 8, 6, 9] (by decide) rfl) 9 0 rfl rfl) rfl rfl hl.1 rfl (lv_room (Nat.le_of_ble_eq_true rfl)) dX9_mews_113 ⟨(Nat.le_of_ble_eq_true rfl), (Nat.le_of_ble_eq_true rfl)⟩) (fun u_24 H locs hw hP hD hS => ?_)
  rcases hw with ⟨f_25, f_26, c_27, c_28, c_29, c_30, c_31, c_32, rfl⟩
  have hP := hP.sub (ws' := [(y, .inr (9, (((((((((((((((((fs_y.set 4 (.int 0)).set 5 (.int (-1))).set 3 (.int 0)).set 2 (.int 0)).set 7 (.int 0)).set 36 (.int 1)).set 37 (.int 560)).set 6 (.int 0)).set 7 (.int 1)).set 8 (.int 0)).set 6 (.int 0)).set 7 (.int 0)).set 35 (.int 1)).set 50 (.int 0)).set 51 (.int 0)).set 63 (.int 0)).set 54 (.int 0)))), (yca, .inl (g 1, 2, .inl f_3)), (yro, .inl (g 1, 2, .inl f_4)), (yte, .inl (g 1, 2, .inl f_5)), (yun, .inl (g 1, 2, .inl f_6)), (ydi, .inl (g 1, 2, .inl f_7)), (ydr, .inl (g 1, 2, .inl f_8)), (yto, .inl (g 1, 2, .inl f_9)), (al, .inl (g 1, 39, .inl f_25)), (ib, .inl (g 3, 3, .inl f_26))]) [3, 5, 6, 4, 0, 1, 8, 2, 7, 9] rfl
  have hD := hD.sub (ws' := [(y, .inr (9, (((((((((((((((((fs_y.set 4 (.int 0)).set 5 (.int (-1))).set 3 (.int 0)).set 2 (.int 0)).set 7 (.int 0)).set 36 (.int 1)).set 37 (.int 560)).set 6 (.int 0)).set 7 (.int 1)).set 8 (.int 0)).set 6 (.int 0)).set 7 (.int 0)).set 35 (.int 1)).set 50 (.int 0)).set 51 (.int 0)).set 63 (.int 0)).set 54 (.int 0)))), (yca, .inl (g 1, 2, .inl f_3)), (yro, .inl (g 1, 2, .inl f_4)), (yte, .inl (g 1, 2, .inl f_5)), (yun, .inl (g 1, 2, .inl f_6)), (ydi, .inl (g 1, 2, .inl f_7)), (ydr, .inl (g 1, 2, .inl f_8)), (yto, .inl (g 1, 2, .inl f_9)), (al, .inl (g 1, 39, .inl f_25)), (ib, .inl (g 3, 3, .inl f_26))]) [3, 5, 6, 4, 0, 1, 8, 2, 7, 9] (by decide) rfl
  refine lv_aload_n hx hb dX9_mews_116 rfl (lv_at hl 1 rfl) ?_
  refine va_get (D := D) (ci := 9) (v := .ref yte) (C := RX9) (T := TX9) (N := 67) hx hb hts iX9_mews_X9 hown hK hP 0 rfl rfl 13 (by decide) (hts (.fieldLink RX9 27 "CatLeasesModel" "tenants" "[I") (List.mem_of_getElem? (i := 11) rfl)) (fun _ h9 => h9) (k_sn (by decide) (k_sn (by decide) (k_sn (by decide) (k_sn (by decide) (k_sn (by decide) (k_sn (by decide) (k_sn (by decide) (k_sn (by decide) (k_sn (by decide) (k_sn (by decide) (k_sn (by decide) (k_sn (by decide) (k_sn (by decide) (k_sn (by decide) (k_sn (by decide) (k_sn (by decide) (k_sn (by decide) h_y_tenants))))))))))))))))) dX9_mews_117 ?_
  refine lv_aload_n hx hb dX9_mews_120 rfl (lv_at hl 1 rfl) ?_
  refine va_get (D := D) (ci := 9) (v := .int 1) (C := RX9) (T := TX9) (N := 67) hx hb hts iX9_mews_X9 hown hK hP 0 rfl rfl 35 (by decide) (hts (.fieldLink RX9 268 "CatLeasesModel" "bank" "I") (List.mem_of_getElem? (i := 8) rfl)) (fun _ h9 => h9) (k_sn (by decide) (k_sn (by decide) (k_sn (by decide) (k_sn (by decide) (k_ss (k_sn (by decide) (k_sn (by decide) (k_sn (by decide) (k_sn (by decide) (k_sn (by decide) (k_sn (by decide) (k_sn (by decide) (k_sn (by decide) (k_sn (by decide) (k_sn (by decide) (k_sn (by decide) (k_sn (by decide) h_y_bank))))))))))))))))) dX9_mews_121 ?_
  refine va_iald hx hb hK hP 3 1 rfl rfl (k_in (i := 1) (n := 2) (by decide)) dX9_mews_124 ?_
  refine k_top (v := 0) c_12 ?_
  exact k_iret hx hb hr hlocks hK hP hD hS rfl dX9_mews_125
