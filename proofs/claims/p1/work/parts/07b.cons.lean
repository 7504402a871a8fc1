set_option maxHeartbeats 4000000 in
set_option maxRecDepth 100000 in
theorem m_many1 (l : Launch) (D : va_G) (g : Nat → ClassId) (sz : Nat) (y : Nat) (yt : Nat) (fs_y : List Value) (f_yt : Nat → Int32) (h_y_tenants : fs_y[13]? = some (.ref yt)) (h_y_bank : fs_y[35]? = some (.int 1)) (h_yt_at1 : f_yt 1 = 0) : Met l yX9_many wsX9_many ({ frames := 0, cells := 0, slots := 0, locals := 0 }) (va_Pc [.ref y] (kPre D g [(y, .inr (9, fs_y)), (yt, .inl (g 1, 2, .inl f_yt))] sz)) (kQi D g (fun (r : Int32) (u : va_W) => 0 = r ∧ u = [(y, .inr (9, fs_y)), (yt, .inl (g 1, 2, .inl f_yt))]) (va_A [(y, .inr (9, fs_y)), (yt, .inl (g 1, 2, .inl f_yt))] sz)) 0 0 (va_A [(y, .inr (9, fs_y)), (yt, .inl (g 1, 2, .inl f_yt))] sz) := by
  refine k_head (cc := cX9_many) (maxL := 1) (ret := (some .int)) (by decide) rfl (Nat.le_of_ble_eq_true rfl) ?_
  intro p e s m below meth c ls A hx hb hr hlocks hml hown hin hts hA hP hK hD hS hl
  have hown : s.vm.findClass RX9 = some m.cls := hown
  have hl : lv_has ls 1 [(0, .ref y)] := hl
  refine lv_aload_n hx hb dX9_many_0 rfl (lv_at hl 0 rfl) ?_
  refine va_get (D := D) (ci := 9) (v := .ref yt) (C := RX9) (T := TX9) (N := 67) hx hb hts iX9_many_X9 hown hK hP 0 rfl rfl 13 (by decide) (hts (.fieldLink RX9 27 "CatLeasesModel" "tenants" "[I") (List.mem_of_getElem? (i := 1) rfl)) (fun _ h9 => h9) h_y_tenants dX9_many_1 ?_
  refine lv_aload_n hx hb dX9_many_4 rfl (lv_at hl 0 rfl) ?_
  refine va_get (D := D) (ci := 9) (v := .int 1) (C := RX9) (T := TX9) (N := 67) hx hb hts iX9_many_X9 hown hK hP 0 rfl rfl 35 (by decide) (hts (.fieldLink RX9 268 "CatLeasesModel" "bank" "I") (List.mem_of_getElem? (i := 2) rfl)) (fun _ h9 => h9) h_y_bank dX9_many_5 ?_
  refine va_iald hx hb hK hP 1 1 rfl rfl (k_in (i := 1) (n := 2) (by decide)) dX9_many_8 ?_
  refine k_top (v := 0) h_yt_at1 ?_
  exact k_iret hx hb hr hlocks hK hP hD hS ⟨rfl, rfl⟩ dX9_many_9
set_option maxHeartbeats 4000000 in
set_option maxRecDepth 100000 in
theorem m_cattery1 (l : Launch) (D : va_G) (g : Nat → ClassId) (sz : Nat) (y : Nat) (yc : Nat) (fs_y : List Value) (f_yc : Nat → Int32) (h_y_cats : fs_y[11]? = some (.ref yc)) (h_y_bank : fs_y[35]? = some (.int 1)) (h_yc_at1 : f_yc 1 = 0) : Met l yX9_cattery wsX9_cattery ({ frames := 0, cells := 0, slots := 0, locals := 0 }) (va_Pc [.ref y] (kPre D g [(y, .inr (9, fs_y)), (yc, .inl (g 1, 2, .inl f_yc))] sz)) (kQi D g (fun (r : Int32) (u : va_W) => 0 = r ∧ u = [(y, .inr (9, fs_y)), (yc, .inl (g 1, 2, .inl f_yc))]) (va_A [(y, .inr (9, fs_y)), (yc, .inl (g 1, 2, .inl f_yc))] sz)) 0 0 (va_A [(y, .inr (9, fs_y)), (yc, .inl (g 1, 2, .inl f_yc))] sz) := by
  refine k_head (cc := cX9_cattery) (maxL := 1) (ret := (some .int)) (by decide) rfl (Nat.le_of_ble_eq_true rfl) ?_
  intro p e s m below meth c ls A hx hb hr hlocks hml hown hin hts hA hP hK hD hS hl
  have hown : s.vm.findClass RX9 = some m.cls := hown
  have hl : lv_has ls 1 [(0, .ref y)] := hl
  refine lv_aload_n hx hb dX9_cattery_0 rfl (lv_at hl 0 rfl) ?_
  refine va_get (D := D) (ci := 9) (v := .ref yc) (C := RX9) (T := TX9) (N := 67) hx hb hts iX9_cattery_X9 hown hK hP 0 rfl rfl 11 (by decide) (hts (.fieldLink RX9 20 "CatLeasesModel" "cats" "[I") (List.mem_of_getElem? (i := 1) rfl)) (fun _ h9 => h9) h_y_cats dX9_cattery_1 ?_
  refine lv_aload_n hx hb dX9_cattery_4 rfl (lv_at hl 0 rfl) ?_
  refine va_get (D := D) (ci := 9) (v := .int 1) (C := RX9) (T := TX9) (N := 67) hx hb hts iX9_cattery_X9 hown hK hP 0 rfl rfl 35 (by decide) (hts (.fieldLink RX9 268 "CatLeasesModel" "bank" "I") (List.mem_of_getElem? (i := 2) rfl)) (fun _ h9 => h9) h_y_bank dX9_cattery_5 ?_
  refine va_iald hx hb hK hP 1 1 rfl rfl (k_in (i := 1) (n := 2) (by decide)) dX9_cattery_8 ?_
  refine k_top (v := 0) h_yc_at1 ?_
  exact k_iret hx hb hr hlocks hK hP hD hS ⟨rfl, rfl⟩ dX9_cattery_9
set_option maxHeartbeats 4000000 in
set_option maxRecDepth 100000 in
theorem m_chambers1 (l : Launch) (D : va_G) (g : Nat → ClassId) (sz : Nat) (y : Nat) (yr : Nat) (fs_y : List Value) (f_yr : Nat → Int32) (h_y_rooms : fs_y[12]? = some (.ref yr)) (h_y_bank : fs_y[35]? = some (.int 1)) (h_yr_at1 : f_yr 1 = 0) : Met l yX9_chambers wsX9_chambers ({ frames := 0, cells := 0, slots := 0, locals := 0 }) (va_Pc [.ref y] (kPre D g [(y, .inr (9, fs_y)), (yr, .inl (g 1, 2, .inl f_yr))] sz)) (kQi D g (fun (r : Int32) (u : va_W) => 0 = r ∧ u = [(y, .inr (9, fs_y)), (yr, .inl (g 1, 2, .inl f_yr))]) (va_A [(y, .inr (9, fs_y)), (yr, .inl (g 1, 2, .inl f_yr))] sz)) 0 0 (va_A [(y, .inr (9, fs_y)), (yr, .inl (g 1, 2, .inl f_yr))] sz) := by
  refine k_head (cc := cX9_chambers) (maxL := 1) (ret := (some .int)) (by decide) rfl (Nat.le_of_ble_eq_true rfl) ?_
  intro p e s m below meth c ls A hx hb hr hlocks hml hown hin hts hA hP hK hD hS hl
  have hown : s.vm.findClass RX9 = some m.cls := hown
  have hl : lv_has ls 1 [(0, .ref y)] := hl
  refine lv_aload_n hx hb dX9_chambers_0 rfl (lv_at hl 0 rfl) ?_
  refine va_get (D := D) (ci := 9) (v := .ref yr) (C := RX9) (T := TX9) (N := 67) hx hb hts iX9_chambers_X9 hown hK hP 0 rfl rfl 12 (by decide) (hts (.fieldLink RX9 24 "CatLeasesModel" "rooms" "[I") (List.mem_of_getElem? (i := 1) rfl)) (fun _ h9 => h9) h_y_rooms dX9_chambers_1 ?_
  refine lv_aload_n hx hb dX9_chambers_4 rfl (lv_at hl 0 rfl) ?_
  refine va_get (D := D) (ci := 9) (v := .int 1) (C := RX9) (T := TX9) (N := 67) hx hb hts iX9_chambers_X9 hown hK hP 0 rfl rfl 35 (by decide) (hts (.fieldLink RX9 268 "CatLeasesModel" "bank" "I") (List.mem_of_getElem? (i := 2) rfl)) (fun _ h9 => h9) h_y_bank dX9_chambers_5 ?_
  refine va_iald hx hb hK hP 1 1 rfl rfl (k_in (i := 1) (n := 2) (by decide)) dX9_chambers_8 ?_
  refine k_top (v := 0) h_yr_at1 ?_
  exact k_iret hx hb hr hlocks hK hP hD hS ⟨rfl, rfl⟩ dX9_chambers_9
set_option maxHeartbeats 4000000 in
set_option maxRecDepth 100000 in
theorem m_layTold0 (l : Launch) (D : va_G) (g : Nat → ClassId) (sz : Nat) (y : Nat) (yt : Nat) (yc : Nat) (yr : Nat) (al : Nat) (dw : Nat) (fs_y : List Value) (f_yt : Nat → Int32) (f_yc : Nat → Int32) (f_yr : Nat → Int32) (f_al : Nat → Int32) (f_dw : Nat → Int32) (h_y_cats : fs_y[11]? = some (.ref yc)) (h_y_rooms : fs_y[12]? = some (.ref yr)) (h_y_tenants : fs_y[13]? = some (.ref yt)) (h_y_draw : fs_y[16]? = some (.ref dw)) (h_y_bank : fs_y[35]? = some (.int 0)) (h_y_all : fs_y[45]? = some (.ref al)) (h_yt_at0 : f_yt 0 = 0) (h_yc_at0 : f_yc 0 = 0) (h_yr_at0 : f_yr 0 = 0) (h_dw_at0 : f_dw 0 = 0) : Met l yX9_layTold wsX9_layTold ({ frames := 1, cells := 0, slots := 0, locals := 20 }) (va_Pc [.ref y] (kPre D g [(y, .inr (9, fs_y)), (yt, .inl (g 1, 2, .inl f_yt)), (yc, .inl (g 1, 2, .inl f_yc)), (yr, .inl (g 1, 2, .inl f_yr)), (al, .inl (g 1, 39, .inl f_al)), (dw, .inl (g 1, 2, .inl f_dw))] sz)) (kQv D g (fun (u : va_W) => ∃ (fe_al : Nat → Int32), (fe_al 36 = 0) ∧ (fe_al 37 = 0) ∧ (fe_al 38 = 0) ∧ u = [(y, .inr (9, fs_y)), (yt, .inl (g 1, 2, .inl f_yt)), (yc, .inl (g 1, 2, .inl f_yc)), (yr, .inl (g 1, 2, .inl f_yr)), (al, .inl (g 1, 39, .inl fe_al)), (dw, .inl (g 1, 2, .inl f_dw))]) (va_A [(y, .inr (9, fs_y)), (yt, .inl (g 1, 2, .inl f_yt)), (yc, .inl (g 1, 2, .inl f_yc)), (yr, .inl (g 1, 2, .inl f_yr)), (al, .inl (g 1, 39, .inl f_al)), (dw, .inl (g 1, 2, .inl f_dw))] sz)) 0 0 (va_A [(y, .inr (9, fs_y)), (yt, .inl (g 1, 2, .inl f_yt)), (yc, .inl (g 1, 2, .inl f_yc)), (yr, .inl (g 1, 2, .inl f_yr)), (al, .inl (g 1, 39, .inl f_al)), (dw, .inl (g 1, 2, .inl f_dw))] sz) := by
  refine k_headQ (cc := cX9_layTold) (maxL := 3) (ret := none) (by decide) rfl (Nat.le_of_ble_eq_true rfl) ?_
  intro p e s m below meth c ls A Q ar hQ hx hb hr hlocks hml hown hin hts hA hP hK hD hS hl
  have hown : s.vm.findClass RX9 = some m.cls := hown
  have hl : lv_has ls 3 [(0, .ref y)] := hl
  refine lv_iconst (v := 0) hx hb dX9_layTold_0 (by decide) ?_
  refine lv_istore_n (lv' := [(1, .int 0), (0, .ref y)]) hx hb dX9_layTold_1 rfl hl (by decide) rfl (fun ls hl => ?_)
  have hloop_7 : ∀ (n_2 i_1 : Nat) (f_3 : Nat → Int32), i_1 ≤ 39 → 39 < i_1 + n_2 → (∀ j, j < i_1 → f_3 j = 0) → ∀ (H : Heap) (locs : List Loc) (ls : Array Slot), va_P D vwCl [(y, .inr (9, fs_y)), (yt, .inl (g 1, 2, .inl f_yt)), (yc, .inl (g 1, 2, .inl f_yc)), (yr, .inl (g 1, 2, .inl f_yr)), (al, .inl (g 1, 39, .inl f_3)), (dw, .inl (g 1, 2, .inl f_dw))] H → va_D A [(y, .inr (9, fs_y)), (yt, .inl (g 1, 2, .inl f_yt)), (yc, .inl (g 1, 2, .inl f_yc)), (yr, .inl (g 1, 2, .inl f_yr)), (al, .inl (g 1, 39, .inl f_3)), (dw, .inl (g 1, 2, .inl f_dw))] → va_S A s.heap H locs → lv_has ls 3 [(1, .int (nI i_1)), (0, .ref y)] → W p l e (headSpec wsX9_layTold ({ frames := 1, cells := 0, slots := 0, locals := 20 })).room s m ar below meth c H locs 0 0 Q (F0 m 2 ls []) := by
    intro n_2
    induction n_2 with
    | zero =>
      intro i_1 f_3 h_4 h_5
      exact absurd h_5 (by omega)
    | succ n_2 ih =>
      intro i_1 f_3 h_4 h_5 v_6 H locs ls hP hD hS hl
      refine lv_iload_n hx hb dX9_layTold_2 rfl (lv_at hl 0 rfl) ?_
      refine lv_bipush (v := 39) hx hb dX9_layTold_3 (by decide) ?_
      refine lv_icmp_ge (tgt := 21) hx hb dX9_layTold_5 (by decide) (fun c_8 => ?_) (fun c_8 => ?_)
      · have h_9 := k_ge1 (N := 39) rfl h_4 (by first | decide | omega) c_8
        subst h_9
        refine lv_iconst (v := 0) hx hb dX9_layTold_21 (by decide) ?_
        refine lv_istore_n (lv' := [(1, .int 0), (0, .ref y)]) hx hb dX9_layTold_22 rfl hl (by decide) rfl (fun ls hl => ?_)
        refine lv_iload_n hx hb dX9_layTold_23 rfl (lv_at hl 0 rfl) ?_
        refine lv_bipush (v := 7) hx hb dX9_layTold_24 (by decide) ?_
        refine lv_icmp_ge (tgt := 141) hx hb dX9_layTold_26 (by decide) (fun c9 => absurd c9 (by first | decide | simp)) (fun _ => ?_)
        refine lv_iload_n hx hb dX9_layTold_29 rfl (lv_at hl 0 rfl) ?_
        refine lv_aload_n hx hb dX9_layTold_30 rfl (lv_at hl 1 rfl) ?_
        refine k_goi (wr := [(yc, .inl (g 1, 2, .inl f_yc)), (yr, .inl (g 1, 2, .inl f_yr)), (al, .inl (g 1, 39, .inl f_3)), (dw, .inl (g 1, 2, .inl f_dw))]) hP hD hS hA [0, 1] [2, 3, 4, 5] rfl rfl (by decide) (by decide) (va_runV (As := []) (rest := [.int 0]) ⟨hx, hb, hml, hown, hts⟩ (m_many l D g _ y yt fs_y f_yt h_y_tenants h_y_bank h_yt_at0) (cwV 0 hts gX9_layTold_X9_many rfl rfl rfl (by decide +kernel) ⟨Nat.le_of_ble_eq_true rfl, Nat.le_of_ble_eq_true rfl⟩) (k_preV hK (hP.sub [0, 1] rfl) (hD.sub [0, 1] (by decide) rfl) 9 0 rfl rfl) rfl rfl hl.1 rfl (lv_room (Nat.le_of_ble_eq_true rfl)) dX9_layTold_31 ⟨(Nat.le_of_ble_eq_true rfl), (Nat.le_of_ble_eq_true rfl)⟩) (fun r_10 u_11 H locs hw hP hD hS => ?_)
        rcases hw with ⟨rfl, rfl⟩
        have hP := hP.sub (ws' := [(y, .inr (9, fs_y)), (yt, .inl (g 1, 2, .inl f_yt)), (yc, .inl (g 1, 2, .inl f_yc)), (yr, .inl (g 1, 2, .inl f_yr)), (al, .inl (g 1, 39, .inl f_3)), (dw, .inl (g 1, 2, .inl f_dw))]) [4, 5, 0, 1, 2, 3] rfl
        have hD := hD.sub (ws' := [(y, .inr (9, fs_y)), (yt, .inl (g 1, 2, .inl f_yt)), (yc, .inl (g 1, 2, .inl f_yc)), (yr, .inl (g 1, 2, .inl f_yr)), (al, .inl (g 1, 39, .inl f_3)), (dw, .inl (g 1, 2, .inl f_dw))]) [4, 5, 0, 1, 2, 3] (by decide) rfl
        refine lv_icmp_ge (tgt := 41) hx hb dX9_layTold_34 (by decide) (fun _ => ?_) (fun c9 => absurd (by first | decide | rfl) c9)
        refine lv_iconst (v := 0) hx hb dX9_layTold_41 (by decide) ?_
        refine lv_istore_n (lv' := [(2, .int 0), (1, .int 0), (0, .ref y)]) hx hb dX9_layTold_42 rfl hl (by decide) rfl (fun ls hl => ?_)
        refine lv_aload_n hx hb dX9_layTold_43 rfl (lv_at hl 2 rfl) ?_
        refine va_get (D := D) (ci := 9) (v := .ref al) (C := RX9) (T := TX9) (N := 67) hx hb hts iX9_layTold_X9 hown hK hP 0 rfl rfl 45 (by decide) (hts (.fieldLink RX9 94 "CatLeasesModel" "all" "[I") (List.mem_of_getElem? (i := 1) rfl)) (fun _ h9 => h9) h_y_all dX9_layTold_44 ?_
        refine lv_iconst (v := 0) hx hb dX9_layTold_47 (by decide) ?_
        refine lv_iload_n hx hb dX9_layTold_48 rfl (lv_at hl 1 rfl) ?_
        refine lv_iadd hx hb dX9_layTold_49 ?_
        refine k_top (v := 0) (by decide) ?_
        refine lv_iload_n hx hb dX9_layTold_50 rfl (lv_at hl 0 rfl) ?_
        refine lv_if_eq (tgt := 71) hx hb dX9_layTold_51 (by decide) (fun _ => ?_) (fun c9 => absurd (by first | decide | rfl) c9)
        refine lv_iconst (v := (-1)) hx hb dX9_layTold_71 (by decide) ?_
        refine va_iast hx hb hK hP hD hS 4 1 rfl rfl (k_in (i := 0) (n := 39) (by decide)) dX9_layTold_72 (fun H locs hP hD hS => ?_)
        have hP : va_P D vwCl [(y, .inr (9, fs_y)), (yt, .inl (g 1, 2, .inl f_yt)), (yc, .inl (g 1, 2, .inl f_yc)), (yr, .inl (g 1, 2, .inl f_yr)), (al, .inl (g 1, 39, .inl (upd f_3 0 (-1)))), (dw, .inl (g 1, 2, .inl f_dw))] H := hP
        have hD : va_D A [(y, .inr (9, fs_y)), (yt, .inl (g 1, 2, .inl f_yt)), (yc, .inl (g 1, 2, .inl f_yc)), (yr, .inl (g 1, 2, .inl f_yr)), (al, .inl (g 1, 39, .inl (upd f_3 0 (-1)))), (dw, .inl (g 1, 2, .inl f_dw))] := hD
        refine lv_aload_n hx hb dX9_layTold_73 rfl (lv_at hl 2 rfl) ?_
        refine va_get (D := D) (ci := 9) (v := .ref al) (C := RX9) (T := TX9) (N := 67) hx hb hts iX9_layTold_X9 hown hK hP 0 rfl rfl 45 (by decide) (hts (.fieldLink RX9 94 "CatLeasesModel" "all" "[I") (List.mem_of_getElem? (i := 1) rfl)) (fun _ h9 => h9) h_y_all dX9_layTold_74 ?_
        refine lv_bipush (v := 22) hx hb dX9_layTold_77 (by decide) ?_
        refine lv_iload_n hx hb dX9_layTold_79 rfl (lv_at hl 1 rfl) ?_
        refine lv_iadd hx hb dX9_layTold_80 ?_
        refine k_top (v := 22) (by decide) ?_
        refine lv_iload_n hx hb dX9_layTold_81 rfl (lv_at hl 0 rfl) ?_
        refine lv_if_eq (tgt := 102) hx hb dX9_layTold_82 (by decide) (fun _ => ?_) (fun c9 => absurd (by first | decide | rfl) c9)
        refine lv_iconst (v := 0) hx hb dX9_layTold_102 (by decide) ?_
        refine va_iast hx hb hK hP hD hS 4 1 rfl rfl (k_in (i := 22) (n := 39) (by decide)) dX9_layTold_103 (fun H locs hP hD hS => ?_)
        have hP : va_P D vwCl [(y, .inr (9, fs_y)), (yt, .inl (g 1, 2, .inl f_yt)), (yc, .inl (g 1, 2, .inl f_yc)), (yr, .inl (g 1, 2, .inl f_yr)), (al, .inl (g 1, 39, .inl (upd (upd f_3 0 (-1)) 22 0))), (dw, .inl (g 1, 2, .inl f_dw))] H := hP
        have hD : va_D A [(y, .inr (9, fs_y)), (yt, .inl (g 1, 2, .inl f_yt)), (yc, .inl (g 1, 2, .inl f_yc)), (yr, .inl (g 1, 2, .inl f_yr)), (al, .inl (g 1, 39, .inl (upd (upd f_3 0 (-1)) 22 0))), (dw, .inl (g 1, 2, .inl f_dw))] := hD
        refine lv_aload_n hx hb dX9_layTold_104 rfl (lv_at hl 2 rfl) ?_
        refine va_get (D := D) (ci := 9) (v := .ref al) (C := RX9) (T := TX9) (N := 67) hx hb hts iX9_layTold_X9 hown hK hP 0 rfl rfl 45 (by decide) (hts (.fieldLink RX9 94 "CatLeasesModel" "all" "[I") (List.mem_of_getElem? (i := 1) rfl)) (fun _ h9 => h9) h_y_all dX9_layTold_105 ?_
        refine lv_bipush (v := 29) hx hb dX9_layTold_108 (by decide) ?_
        refine lv_iload_n hx hb dX9_layTold_110 rfl (lv_at hl 1 rfl) ?_
        refine lv_iadd hx hb dX9_layTold_111 ?_
        refine k_top (v := 29) (by decide) ?_
        refine lv_iload_n hx hb dX9_layTold_112 rfl (lv_at hl 0 rfl) ?_
        refine lv_if_eq (tgt := 133) hx hb dX9_layTold_113 (by decide) (fun _ => ?_) (fun c9 => absurd (by first | decide | rfl) c9)
        refine lv_iconst (v := 0) hx hb dX9_layTold_133 (by decide) ?_
        refine va_iast hx hb hK hP hD hS 4 1 rfl rfl (k_in (i := 29) (n := 39) (by decide)) dX9_layTold_134 (fun H locs hP hD hS => ?_)
        have hP : va_P D vwCl [(y, .inr (9, fs_y)), (yt, .inl (g 1, 2, .inl f_yt)), (yc, .inl (g 1, 2, .inl f_yc)), (yr, .inl (g 1, 2, .inl f_yr)), (al, .inl (g 1, 39, .inl (upd (upd (upd f_3 0 (-1)) 22 0) 29 0))), (dw, .inl (g 1, 2, .inl f_dw))] H := hP
        have hD : va_D A [(y, .inr (9, fs_y)), (yt, .inl (g 1, 2, .inl f_yt)), (yc, .inl (g 1, 2, .inl f_yc)), (yr, .inl (g 1, 2, .inl f_yr)), (al, .inl (g 1, 39, .inl (upd (upd (upd f_3 0 (-1)) 22 0) 29 0))), (dw, .inl (g 1, 2, .inl f_dw))] := hD
        refine lv_iinc (v := 1) (lv' := [(1, .int 1), (2, .int 0), (0, .ref y)]) hx hb dX9_layTold_135 hl (k := 1) rfl (by decide) (by decide) rfl (fun ls hl => ?_)
        refine lv_goto (tgt := 23) hx hb dX9_layTold_138 (by decide) ?_
        refine lv_iload_n hx hb dX9_layTold_23 rfl (lv_at hl 0 rfl) ?_
        refine lv_bipush (v := 7) hx hb dX9_layTold_24 (by decide) ?_
        refine lv_icmp_ge (tgt := 141) hx hb dX9_layTold_26 (by decide) (fun c9 => absurd c9 (by first | decide | simp)) (fun _ => ?_)
        refine lv_iload_n hx hb dX9_layTold_29 rfl (lv_at hl 0 rfl) ?_
        refine lv_aload_n hx hb dX9_layTold_30 rfl (lv_at hl 2 rfl) ?_
        refine k_goi (wr := [(yc, .inl (g 1, 2, .inl f_yc)), (yr, .inl (g 1, 2, .inl f_yr)), (al, .inl (g 1, 39, .inl (upd (upd (upd f_3 0 (-1)) 22 0) 29 0))), (dw, .inl (g 1, 2, .inl f_dw))]) hP hD hS hA [0, 1] [2, 3, 4, 5] rfl rfl (by decide) (by decide) (va_runV (As := []) (rest := [.int 1]) ⟨hx, hb, hml, hown, hts⟩ (m_many l D g _ y yt fs_y f_yt h_y_tenants h_y_bank h_yt_at0) (cwV 0 hts gX9_layTold_X9_many rfl rfl rfl (by decide +kernel) ⟨Nat.le_of_ble_eq_true rfl, Nat.le_of_ble_eq_true rfl⟩) (k_preV hK (hP.sub [0, 1] rfl) (hD.sub [0, 1] (by decide) rfl) 9 0 rfl rfl) rfl rfl hl.1 rfl (lv_room (Nat.le_of_ble_eq_true rfl)) dX9_layTold_31 ⟨(Nat.le_of_ble_eq_true rfl), (Nat.le_of_ble_eq_true rfl)⟩) (fun r_12 u_13 H locs hw hP hD hS => ?_)
        rcases hw with ⟨rfl, rfl⟩
        have hP := hP.sub (ws' := [(y, .inr (9, fs_y)), (yt, .inl (g 1, 2, .inl f_yt)), (yc, .inl (g 1, 2, .inl f_yc)), (yr, .inl (g 1, 2, .inl f_yr)), (al, .inl (g 1, 39, .inl (upd (upd (upd f_3 0 (-1)) 22 0) 29 0))), (dw, .inl (g 1, 2, .inl f_dw))]) [4, 5, 0, 1, 2, 3] rfl
        have hD := hD.sub (ws' := [(y, .inr (9, fs_y)), (yt, .inl (g 1, 2, .inl f_yt)), (yc, .inl (g 1, 2, .inl f_yc)), (yr, .inl (g 1, 2, .inl f_yr)), (al, .inl (g 1, 39, .inl (upd (upd (upd f_3 0 (-1)) 22 0) 29 0))), (dw, .inl (g 1, 2, .inl f_dw))]) [4, 5, 0, 1, 2, 3] (by decide) rfl
        refine lv_icmp_ge (tgt := 41) hx hb dX9_layTold_34 (by decide) (fun _ => ?_) (fun c9 => absurd (by first | decide | rfl) c9)
        refine lv_iconst (v := 0) hx hb dX9_layTold_41 (by decide) ?_
        refine lv_istore_n (lv' := [(2, .int 0), (1, .int 1), (0, .ref y)]) hx hb dX9_layTold_42 rfl hl (by decide) rfl (fun ls hl => ?_)
        refine lv_aload_n hx hb dX9_layTold_43 rfl (lv_at hl 2 rfl) ?_
        refine va_get (D := D) (ci := 9) (v := .ref al) (C := RX9) (T := TX9) (N := 67) hx hb hts iX9_layTold_X9 hown hK hP 0 rfl rfl 45 (by decide) (hts (.fieldLink RX9 94 "CatLeasesModel" "all" "[I") (List.mem_of_getElem? (i := 1) rfl)) (fun _ h9 => h9) h_y_all dX9_layTold_44 ?_
        refine lv_iconst (v := 0) hx hb dX9_layTold_47 (by decide) ?_
        refine lv_iload_n hx hb dX9_layTold_48 rfl (lv_at hl 1 rfl) ?_
        refine lv_iadd hx hb dX9_layTold_49 ?_
        refine k_top (v := 1) (by decide) ?_
        refine lv_iload_n hx hb dX9_layTold_50 rfl (lv_at hl 0 rfl) ?_
        refine lv_if_eq (tgt := 71) hx hb dX9_layTold_51 (by decide) (fun _ => ?_) (fun c9 => absurd (by first | decide | rfl) c9)
        refine lv_iconst (v := (-1)) hx hb dX9_layTold_71 (by decide) ?_
        refine va_iast hx hb hK hP hD hS 4 1 rfl rfl (k_in (i := 1) (n := 39) (by decide)) dX9_layTold_72 (fun H locs hP hD hS => ?_)
        have hP : va_P D vwCl [(y, .inr (9, fs_y)), (yt, .inl (g 1, 2, .inl f_yt)), (yc, .inl (g 1, 2, .inl f_yc)), (yr, .inl (g 1, 2, .inl f_yr)), (al, .inl (g 1, 39, .inl (upd (upd (upd (upd f_3 0 (-1)) 22 0) 29 0) 1 (-1)))), (dw, .inl (g 1, 2, .inl f_dw))] H := hP
        have hD : va_D A [(y, .inr (9, fs_y)), (yt, .inl (g 1, 2, .inl f_yt)), (yc, .inl (g 1, 2, .inl f_yc)), (yr, .inl (g 1, 2, .inl f_yr)), (al, .inl (g 1, 39, .inl (upd (upd (upd (upd f_3 0 (-1)) 22 0) 29 0) 1 (-1)))), (dw, .inl (g 1, 2, .inl f_dw))] := hD
        refine lv_aload_n hx hb dX9_layTold_73 rfl (lv_at hl 2 rfl) ?_
        refine va_get (D := D) (ci := 9) (v := .ref al) (C := RX9) (T := TX9) (N := 67) hx hb hts iX9_layTold_X9 hown hK hP 0 rfl rfl 45 (by decide) (hts (.fieldLink RX9 94 "CatLeasesModel" "all" "[I") (List.mem_of_getElem? (i := 1) rfl)) (fun _ h9 => h9) h_y_all dX9_layTold_74 ?_
        refine lv_bipush (v := 22) hx hb dX9_layTold_77 (by decide) ?_
        refine lv_iload_n hx hb dX9_layTold_79 rfl (lv_at hl 1 rfl) ?_
        refine lv_iadd hx hb dX9_layTold_80 ?_
        refine k_top (v := 23) (by decide) ?_
        refine lv_iload_n hx hb dX9_layTold_81 rfl (lv_at hl 0 rfl) ?_
        refine lv_if_eq (tgt := 102) hx hb dX9_layTold_82 (by decide) (fun _ => ?_) (fun c9 => absurd (by first | decide | rfl) c9)
        refine lv_iconst (v := 0) hx hb dX9_layTold_102 (by decide) ?_
        refine va_iast hx hb hK hP hD hS 4 1 rfl rfl (k_in (i := 23) (n := 39) (by decide)) dX9_layTold_103 (fun H locs hP hD hS => ?_)
        have hP : va_P D vwCl [(y, .inr (9, fs_y)), (yt, .inl (g 1, 2, .inl f_yt)), (yc, .inl (g 1, 2, .inl f_yc)), (yr, .inl (g 1, 2, .inl f_yr)), (al, .inl (g 1, 39, .inl (upd (upd (upd (upd (upd f_3 0 (-1)) 22 0) 29 0) 1 (-1)) 23 0))), (dw, .inl (g 1, 2, .inl f_dw))] H := hP
        have hD : va_D A [(y, .inr (9, fs_y)), (yt, .inl (g 1, 2, .inl f_yt)), (yc, .inl (g 1, 2, .inl f_yc)), (yr, .inl (g 1, 2, .inl f_yr)), (al, .inl (g 1, 39, .inl (upd (upd (upd (upd (upd f_3 0 (-1)) 22 0) 29 0) 1 (-1)) 23 0))), (dw, .inl (g 1, 2, .inl f_dw))] := hD
        refine lv_aload_n hx hb dX9_layTold_104 rfl (lv_at hl 2 rfl) ?_
        refine va_get (D := D) (ci := 9) (v := .ref al) (C := RX9) (T := TX9) (N := 67) hx hb hts iX9_layTold_X9 hown hK hP 0 rfl rfl 45 (by decide) (hts (.fieldLink RX9 94 "CatLeasesModel" "all" "[I") (List.mem_of_getElem? (i := 1) rfl)) (fun _ h9 => h9) h_y_all dX9_layTold_105 ?_
        refine lv_bipush (v := 29) hx hb dX9_layTold_108 (by decide) ?_
        refine lv_iload_n hx hb dX9_layTold_110 rfl (lv_at hl 1 rfl) ?_
        refine lv_iadd hx hb dX9_layTold_111 ?_
        refine k_top (v := 30) (by decide) ?_
        refine lv_iload_n hx hb dX9_layTold_112 rfl (lv_at hl 0 rfl) ?_
        refine lv_if_eq (tgt := 133) hx hb dX9_layTold_113 (by decide) (fun _ => ?_) (fun c9 => absurd (by first | decide | rfl) c9)
        refine lv_iconst (v := 0) hx hb dX9_layTold_133 (by decide) ?_
        refine va_iast hx hb hK hP hD hS 4 1 rfl rfl (k_in (i := 30) (n := 39) (by decide)) dX9_layTold_134 (fun H locs hP hD hS => ?_)
        have hP : va_P D vwCl [(y, .inr (9, fs_y)), (yt, .inl (g 1, 2, .inl f_yt)), (yc, .inl (g 1, 2, .inl f_yc)), (yr, .inl (g 1, 2, .inl f_yr)), (al, .inl (g 1, 39, .inl (upd (upd (upd (upd (upd (upd f_3 0 (-1)) 22 0) 29 0) 1 (-1)) 23 0) 30 0))), (dw, .inl (g 1, 2, .inl f_dw))] H := hP
        have hD : va_D A [(y, .inr (9, fs_y)), (yt, .inl (g 1, 2, .inl f_yt)), (yc, .inl (g 1, 2, .inl f_yc)), (yr, .inl (g 1, 2, .inl f_yr)), (al, .inl (g 1, 39, .inl (upd (upd (upd (upd (upd (upd f_3 0 (-1)) 22 0) 29 0) 1 (-1)) 23 0) 30 0))), (dw, .inl (g 1, 2, .inl f_dw))] := hD
        refine lv_iinc (v := 2) (lv' := [(1, .int 2), (2, .int 0), (0, .ref y)]) hx hb dX9_layTold_135 hl (k := 1) rfl (by decide) (by decide) rfl (fun ls hl => ?_)
        refine lv_goto (tgt := 23) hx hb dX9_layTold_138 (by decide) ?_
        refine lv_iload_n hx hb dX9_layTold_23 rfl (lv_at hl 0 rfl) ?_
        refine lv_bipush (v := 7) hx hb dX9_layTold_24 (by decide) ?_
        refine lv_icmp_ge (tgt := 141) hx hb dX9_layTold_26 (by decide) (fun c9 => absurd c9 (by first | decide | simp)) (fun _ => ?_)
        refine lv_iload_n hx hb dX9_layTold_29 rfl (lv_at hl 0 rfl) ?_
        refine lv_aload_n hx hb dX9_layTold_30 rfl (lv_at hl 2 rfl) ?_
        refine k_goi (wr := [(yc, .inl (g 1, 2, .inl f_yc)), (yr, .inl (g 1, 2, .inl f_yr)), (al, .inl (g 1, 39, .inl (upd (upd (upd (upd (upd (upd f_3 0 (-1)) 22 0) 29 0) 1 (-1)) 23 0) 30 0))), (dw, .inl (g 1, 2, .inl f_dw))]) hP hD hS hA [0, 1] [2, 3, 4, 5] rfl rfl (by decide) (by decide) (va_runV (As := []) (rest := [.int 2]) ⟨hx, hb, hml, hown, hts⟩ (m_many l D g _ y yt fs_y f_yt h_y_tenants h_y_bank h_yt_at0) (cwV 0 hts gX9_layTold_X9_many rfl rfl rfl (by decide +kernel) ⟨Nat.le_of_ble_eq_true rfl, Nat.le_of_ble_eq_true rfl⟩) (k_preV hK (hP.sub [0, 1] rfl) (hD.sub [0, 1] (by decide) rfl) 9 0 rfl rfl) rfl rfl hl.1 rfl (lv_room (Nat.le_of_ble_eq_true rfl)) dX9_layTold_31 ⟨(Nat.le_of_ble_eq_true rfl), (Nat.le_of_ble_eq_true rfl)⟩) (fun r_14 u_15 H locs hw hP hD hS => ?_)
        rcases hw with ⟨rfl, rfl⟩
        have hP := hP.sub (ws' := [(y, .inr (9, fs_y)), (yt, .inl (g 1, 2, .inl f_yt)), (yc, .inl (g 1, 2, .inl f_yc)), (yr, .inl (g 1, 2, .inl f_yr)), (al, .inl (g 1, 39, .inl (upd (upd (upd (upd (upd (upd f_3 0 (-1)) 22 0) 29 0) 1 (-1)) 23 0) 30 0))), (dw, .inl (g 1, 2, .inl f_dw))]) [4, 5, 0, 1, 2, 3] rfl
        have hD := hD.sub (ws' := [(y, .inr (9, fs_y)), (yt, .inl (g 1, 2, .inl f_yt)), (yc, .inl (g 1, 2, .inl f_yc)), (yr, .inl (g 1, 2, .inl f_yr)), (al, .inl (g 1, 39, .inl (upd (upd (upd (upd (upd (upd f_3 0 (-1)) 22 0) 29 0) 1 (-1)) 23 0) 30 0))), (dw, .inl (g 1, 2, .inl f_dw))]) [4, 5, 0, 1, 2, 3] (by decide) rfl
        refine lv_icmp_ge (tgt := 41) hx hb dX9_layTold_34 (by decide) (fun _ => ?_) (fun c9 => absurd (by first | decide | rfl) c9)
        refine lv_iconst (v := 0) hx hb dX9_layTold_41 (by decide) ?_
        refine lv_istore_n (lv' := [(2, .int 0), (1, .int 2), (0, .ref y)]) hx hb dX9_layTold_42 rfl hl (by decide) rfl (fun ls hl => ?_)
        refine lv_aload_n hx hb dX9_layTold_43 rfl (lv_at hl 2 rfl) ?_
        refine va_get (D := D) (ci := 9) (v := .ref al) (C := RX9) (T := TX9) (N := 67) hx hb hts iX9_layTold_X9 hown hK hP 0 rfl rfl 45 (by decide) (hts (.fieldLink RX9 94 "CatLeasesModel" "all" "[I") (List.mem_of_getElem? (i := 1) rfl)) (fun _ h9 => h9) h_y_all dX9_layTold_44 ?_
        refine lv_iconst (v := 0) hx hb dX9_layTold_47 (by decide) ?_
        refine lv_iload_n hx hb dX9_layTold_48 rfl (lv_at hl 1 rfl) ?_
        refine lv_iadd hx hb dX9_layTold_49 ?_
        refine k_top (v := 2) (by decide) ?_
        refine lv_iload_n hx hb dX9_layTold_50 rfl (lv_at hl 0 rfl) ?_
        refine lv_if_eq (tgt := 71) hx hb dX9_layTold_51 (by decide) (fun _ => ?_) (fun c9 => absurd (by first | decide | rfl) c9)
        refine lv_iconst (v := (-1)) hx hb dX9_layTold_71 (by decide) ?_
        refine va_iast hx hb hK hP hD hS 4 1 rfl rfl (k_in (i := 2) (n := 39) (by decide)) dX9_layTold_72 (fun H locs hP hD hS => ?_)
        have hP : va_P D vwCl [(y, .inr (9, fs_y)), (yt, .inl (g 1, 2, .inl f_yt)), (yc, .inl (g 1, 2, .inl f_yc)), (yr, .inl (g 1, 2, .inl f_yr)), (al, .inl (g 1, 39, .inl (upd (upd (upd (upd (upd (upd (upd f_3 0 (-1)) 22 0) 29 0) 1 (-1)) 23 0) 30 0) 2 (-1)))), (dw, .inl (g 1, 2, .inl f_dw))] H := hP
        have hD : va_D A [(y, .inr (9, fs_y)), (yt, .inl (g 1, 2, .inl f_yt)), (yc, .inl (g 1, 2, .inl f_yc)), (yr, .inl (g 1, 2, .inl f_yr)), (al, .inl (g 1, 39, .inl (upd (upd (upd (upd (upd (upd (upd f_3 0 (-1)) 22 0) 29 0) 1 (-1)) 23 0) 30 0) 2 (-1)))), (dw, .inl (g 1, 2, .inl f_dw))] := hD
        refine lv_aload_n hx hb dX9_layTold_73 rfl (lv_at hl 2 rfl) ?_
        refine va_get (D := D) (ci := 9) (v := .ref al) (C := RX9) (T := TX9) (N := 67) hx hb hts iX9_layTold_X9 hown hK hP 0 rfl rfl 45 (by decide) (hts (.fieldLink RX9 94 "CatLeasesModel" "all" "[I") (List.mem_of_getElem? (i := 1) rfl)) (fun _ h9 => h9) h_y_all dX9_layTold_74 ?_
        refine lv_bipush (v := 22) hx hb dX9_layTold_77 (by decide) ?_
        refine lv_iload_n hx hb dX9_layTold_79 rfl (lv_at hl 1 rfl) ?_
        refine lv_iadd hx hb dX9_layTold_80 ?_
        refine k_top (v := 24) (by decide) ?_
        refine lv_iload_n hx hb dX9_layTold_81 rfl (lv_at hl 0 rfl) ?_
        refine lv_if_eq (tgt := 102) hx hb dX9_layTold_82 (by decide) (fun _ => ?_) (fun c9 => absurd (by first | decide | rfl) c9)
        refine lv_iconst (v := 0) hx hb dX9_layTold_102 (by decide) ?_
        refine va_iast hx hb hK hP hD hS 4 1 rfl rfl (k_in (i := 24) (n := 39) (by decide)) dX9_layTold_103 (fun H locs hP hD hS => ?_)
        have hP : va_P D vwCl [(y, .inr (9, fs_y)), (yt, .inl (g 1, 2, .inl f_yt)), (yc, .inl (g 1, 2, .inl f_yc)), (yr, .inl (g 1, 2, .inl f_yr)), (al, .inl (g 1, 39, .inl (upd (upd (upd (upd (upd (upd (upd (upd f_3 0 (-1)) 22 0) 29 0) 1 (-1)) 23 0) 30 0) 2 (-1)) 24 0))), (dw, .inl (g 1, 2, .inl f_dw))] H := hP
        have hD : va_D A [(y, .inr (9, fs_y)), (yt, .inl (g 1, 2, .inl f_yt)), (yc, .inl (g 1, 2, .inl f_yc)), (yr, .inl (g 1, 2, .inl f_yr)), (al, .inl (g 1, 39, .inl (upd (upd (upd (upd (upd (upd (upd (upd f_3 0 (-1)) 22 0) 29 0) 1 (-1)) 23 0) 30 0) 2 (-1)) 24 0))), (dw, .inl (g 1, 2, .inl f_dw))] := hD
        refine lv_aload_n hx hb dX9_layTold_104 rfl (lv_at hl 2 rfl) ?_
        refine va_get (D := D) (ci := 9) (v := .ref al) (C := RX9) (T := TX9) (N := 67) hx hb hts iX9_layTold_X9 hown hK hP 0 rfl rfl 45 (by decide) (hts (.fieldLink RX9 94 "CatLeasesModel" "all" "[I") (List.mem_of_getElem? (i := 1) rfl)) (fun _ h9 => h9) h_y_all dX9_layTold_105 ?_
        refine lv_bipush (v := 29) hx hb dX9_layTold_108 (by decide) ?_
        refine lv_iload_n hx hb dX9_layTold_110 rfl (lv_at hl 1 rfl) ?_
        refine lv_iadd hx hb dX9_layTold_111 ?_
        refine k_top (v := 31) (by decide) ?_
        refine lv_iload_n hx hb dX9_layTold_112 rfl (lv_at hl 0 rfl) ?_
        refine lv_if_eq (tgt := 133) hx hb dX9_layTold_113 (by decide) (fun _ => ?_) (fun c9 => absurd (by first | decide | rfl) c9)
        refine lv_iconst (v := 0) hx hb dX9_layTold_133 (by decide) ?_
        refine va_iast hx hb hK hP hD hS 4 1 rfl rfl (k_in (i := 31) (n := 39) (by decide)) dX9_layTold_134 (fun H locs hP hD hS => ?_)
        have hP : va_P D vwCl [(y, .inr (9, fs_y)), (yt, .inl (g 1, 2, .inl f_yt)), (yc, .inl (g 1, 2, .inl f_yc)), (yr, .inl (g 1, 2, .inl f_yr)), (al, .inl (g 1, 39, .inl (upd (upd (upd (upd (upd (upd (upd (upd (upd f_3 0 (-1)) 22 0) 29 0) 1 (-1)) 23 0) 30 0) 2 (-1)) 24 0) 31 0))), (dw, .inl (g 1, 2, .inl f_dw))] H := hP
        have hD : va_D A [(y, .inr (9, fs_y)), (yt, .inl (g 1, 2, .inl f_yt)), (yc, .inl (g 1, 2, .inl f_yc)), (yr, .inl (g 1, 2, .inl f_yr)), (al, .inl (g 1, 39, .inl (upd (upd (upd (upd (upd (upd (upd (upd (upd f_3 0 (-1)) 22 0) 29 0) 1 (-1)) 23 0) 30 0) 2 (-1)) 24 0) 31 0))), (dw, .inl (g 1, 2, .inl f_dw))] := hD
        refine lv_iinc (v := 3) (lv' := [(1, .int 3), (2, .int 0), (0, .ref y)]) hx hb dX9_layTold_135 hl (k := 1) rfl (by decide) (by decide) rfl (fun ls hl => ?_)
        refine lv_goto (tgt := 23) hx hb dX9_layTold_138 (by decide) ?_
        refine lv_iload_n hx hb dX9_layTold_23 rfl (lv_at hl 0 rfl) ?_
        refine lv_bipush (v := 7) hx hb dX9_layTold_24 (by decide) ?_
        refine lv_icmp_ge (tgt := 141) hx hb dX9_layTold_26 (by decide) (fun c9 => absurd c9 (by first | decide | simp)) (fun _ => ?_)
        refine lv_iload_n hx hb dX9_layTold_29 rfl (lv_at hl 0 rfl) ?_
        refine lv_aload_n hx hb dX9_layTold_30 rfl (lv_at hl 2 rfl) ?_
        refine k_goi (wr := [(yc, .inl (g 1, 2, .inl f_yc)), (yr, .inl (g 1, 2, .inl f_yr)), (al, .inl (g 1, 39, .inl (upd (upd (upd (upd (upd (upd (upd (upd (upd f_3 0 (-1)) 22 0) 29 0) 1 (-1)) 23 0) 30 0) 2 (-1)) 24 0) 31 0))), (dw, .inl (g 1, 2, .inl f_dw))]) hP hD hS hA [0, 1] [2, 3, 4, 5] rfl rfl (by decide) (by decide) (va_runV (As := []) (rest := [.int 3]) ⟨hx, hb, hml, hown, hts⟩ (m_many l D g _ y yt fs_y f_yt h_y_tenants h_y_bank h_yt_at0) (cwV 0 hts gX9_layTold_X9_many rfl rfl rfl (by decide +kernel) ⟨Nat.le_of_ble_eq_true rfl, Nat.le_of_ble_eq_true rfl⟩) (k_preV hK (hP.sub [0, 1] rfl) (hD.sub [0, 1] (by decide) rfl) 9 0 rfl rfl) rfl rfl hl.1 rfl (lv_room (Nat.le_of_ble_eq_true rfl)) dX9_layTold_31 ⟨(Nat.le_of_ble_eq_true rfl), (Nat.le_of_ble_eq_true rfl)⟩) (fun r_16 u_17 H locs hw hP hD hS => ?_)
        rcases hw with ⟨rfl, rfl⟩
        have hP := hP.sub (ws' := [(y, .inr (9, fs_y)), (yt, .inl (g 1, 2, .inl f_yt)), (yc, .inl (g 1, 2, .inl f_yc)), (yr, .inl (g 1, 2, .inl f_yr)), (al, .inl (g 1, 39, .inl (upd (upd (upd (upd (upd (upd (upd (upd (upd f_3 0 (-1)) 22 0) 29 0) 1 (-1)) 23 0) 30 0) 2 (-1)) 24 0) 31 0))), (dw, .inl (g 1, 2, .inl f_dw))]) [4, 5, 0, 1, 2, 3] rfl
        have hD := hD.sub (ws' := [(y, .inr (9, fs_y)), (yt, .inl (g 1, 2, .inl f_yt)), (yc, .inl (g 1, 2, .inl f_yc)), (yr, .inl (g 1, 2, .inl f_yr)), (al, .inl (g 1, 39, .inl (upd (upd (upd (upd (upd (upd (upd (upd (upd f_3 0 (-1)) 22 0) 29 0) 1 (-1)) 23 0) 30 0) 2 (-1)) 24 0) 31 0))), (dw, .inl (g 1, 2, .inl f_dw))]) [4, 5, 0, 1, 2, 3] (by decide) rfl
        refine lv_icmp_ge (tgt := 41) hx hb dX9_layTold_34 (by decide) (fun _ => ?_) (fun c9 => absurd (by first | decide | rfl) c9)
        refine lv_iconst (v := 0) hx hb dX9_layTold_41 (by decide) ?_
        refine lv_istore_n (lv' := [(2, .int 0), (1, .int 3), (0, .ref y)]) hx hb dX9_layTold_42 rfl hl (by decide) rfl (fun ls hl => ?_)
        refine lv_aload_n hx hb dX9_layTold_43 rfl (lv_at hl 2 rfl) ?_
        refine va_get (D := D) (ci := 9) (v := .ref al) (C := RX9) (T := TX9) (N := 67) hx hb hts iX9_layTold_X9 hown hK hP 0 rfl rfl 45 (by decide) (hts (.fieldLink RX9 94 "CatLeasesModel" "all" "[I") (List.mem_of_getElem? (i := 1) rfl)) (fun _ h9 => h9) h_y_all dX9_layTold_44 ?_
        refine lv_iconst (v := 0) hx hb dX9_layTold_47 (by decide) ?_
        refine lv_iload_n hx hb dX9_layTold_48 rfl (lv_at hl 1 rfl) ?_
        refine lv_iadd hx hb dX9_layTold_49 ?_
        refine k_top (v := 3) (by decide) ?_
        refine lv_iload_n hx hb dX9_layTold_50 rfl (lv_at hl 0 rfl) ?_
        refine lv_if_eq (tgt := 71) hx hb dX9_layTold_51 (by decide) (fun _ => ?_) (fun c9 => absurd (by first | decide | rfl) c9)
        refine lv_iconst (v := (-1)) hx hb dX9_layTold_71 (by decide) ?_
        refine va_iast hx hb hK hP hD hS 4 1 rfl rfl (k_in (i := 3) (n := 39) (by decide)) dX9_layTold_72 (fun H locs hP hD hS => ?_)
        have hP : va_P D vwCl [(y, .inr (9, fs_y)), (yt, .inl (g 1, 2, .inl f_yt)), (yc, .inl (g 1, 2, .inl f_yc)), (yr, .inl (g 1, 2, .inl f_yr)), (al, .inl (g 1, 39, .inl (upd (upd (upd (upd (upd (upd (upd (upd (upd (upd f_3 0 (-1)) 22 0) 29 0) 1 (-1)) 23 0) 30 0) 2 (-1)) 24 0) 31 0) 3 (-1)))), (dw, .inl (g 1, 2, .inl f_dw))] H := hP
        have hD : va_D A [(y, .inr (9, fs_y)), (yt, .inl (g 1, 2, .inl f_yt)), (yc, .inl (g 1, 2, .inl f_yc)), (yr, .inl (g 1, 2, .inl f_yr)), (al, .inl (g 1, 39, .inl (upd (upd (upd (upd (upd (upd (upd (upd (upd (upd f_3 0 (-1)) 22 0) 29 0) 1 (-1)) 23 0) 30 0) 2 (-1)) 24 0) 31 0) 3 (-1)))), (dw, .inl (g 1, 2, .inl f_dw))] := hD
        refine lv_aload_n hx hb dX9_layTold_73 rfl (lv_at hl 2 rfl) ?_
        refine va_get (D := D) (ci := 9) (v := .ref al) (C := RX9) (T := TX9) (N := 67) hx hb hts iX9_layTold_X9 hown hK hP 0 rfl rfl 45 (by decide) (hts (.fieldLink RX9 94 "CatLeasesModel" "all" "[I") (List.mem_of_getElem? (i := 1) rfl)) (fun _ h9 => h9) h_y_all dX9_layTold_74 ?_
        refine lv_bipush (v := 22) hx hb dX9_layTold_77 (by decide) ?_
        refine lv_iload_n hx hb dX9_layTold_79 rfl (lv_at hl 1 rfl) ?_
        refine lv_iadd hx hb dX9_layTold_80 ?_
        refine k_top (v := 25) (by decide) ?_
        refine lv_iload_n hx hb dX9_layTold_81 rfl (lv_at hl 0 rfl) ?_
        refine lv_if_eq (tgt := 102) hx hb dX9_layTold_82 (by decide) (fun _ => ?_) (fun c9 => absurd (by first | decide | rfl) c9)
        refine lv_iconst (v := 0) hx hb dX9_layTold_102 (by decide) ?_
        refine va_iast hx hb hK hP hD hS 4 1 rfl rfl (k_in (i := 25) (n := 39) (by decide)) dX9_layTold_103 (fun H locs hP hD hS => ?_)
        have hP : va_P D vwCl [(y, .inr (9, fs_y)), (yt, .inl (g 1, 2, .inl f_yt)), (yc, .inl (g 1, 2, .inl f_yc)), (yr, .inl (g 1, 2, .inl f_yr)), (al, .inl (g 1, 39, .inl (upd (upd (upd (upd (upd (upd (upd (upd (upd (upd (upd f_3 0 (-1)) 22 0) 29 0) 1 (-1)) 23 0) 30 0) 2 (-1)) 24 0) 31 0) 3 (-1)) 25 0))), (dw, .inl (g 1, 2, .inl f_dw))] H := hP
        have hD : va_D A [(y, .inr (9, fs_y)), (yt, .inl (g 1, 2, .inl f_yt)), (yc, .inl (g 1, 2, .inl f_yc)), (yr, .inl (g 1, 2, .inl f_yr)), (al, .inl (g 1, 39, .inl (upd (upd (upd (upd (upd (upd (upd (upd (upd (upd (upd f_3 0 (-1)) 22 0) 29 0) 1 (-1)) 23 0) 30 0) 2 (-1)) 24 0) 31 0) 3 (-1)) 25 0))), (dw, .inl (g 1, 2, .inl f_dw))] := hD
        refine lv_aload_n hx hb dX9_layTold_104 rfl (lv_at hl 2 rfl) ?_
        refine va_get (D := D) (ci := 9) (v := .ref al) (C := RX9) (T := TX9) (N := 67) hx hb hts iX9_layTold_X9 hown hK hP 0 rfl rfl 45 (by decide) (hts (.fieldLink RX9 94 "CatLeasesModel" "all" "[I") (List.mem_of_getElem? (i := 1) rfl)) (fun _ h9 => h9) h_y_all dX9_layTold_105 ?_
        refine lv_bipush (v := 29) hx hb dX9_layTold_108 (by decide) ?_
        refine lv_iload_n hx hb dX9_layTold_110 rfl (lv_at hl 1 rfl) ?_
        refine lv_iadd hx hb dX9_layTold_111 ?_
        refine k_top (v := 32) (by decide) ?_
        refine lv_iload_n hx hb dX9_layTold_112 rfl (lv_at hl 0 rfl) ?_
        refine lv_if_eq (tgt := 133) hx hb dX9_layTold_113 (by decide) (fun _ => ?_) (fun c9 => absurd (by first | decide | rfl) c9)
        refine lv_iconst (v := 0) hx hb dX9_layTold_133 (by decide) ?_
        refine va_iast hx hb hK hP hD hS 4 1 rfl rfl (k_in (i := 32) (n := 39) (by decide)) dX9_layTold_134 (fun H locs hP hD hS => ?_)
        have hP : va_P D vwCl [(y, .inr (9, fs_y)), (yt, .inl (g 1, 2, .inl f_yt)), (yc, .inl (g 1, 2, .inl f_yc)), (yr, .inl (g 1, 2, .inl f_yr)), (al, .inl (g 1, 39, .inl (upd (upd (upd (upd (upd (upd (upd (upd (upd (upd (upd (upd f_3 0 (-1)) 22 0) 29 0) 1 (-1)) 23 0) 30 0) 2 (-1)) 24 0) 31 0) 3 (-1)) 25 0) 32 0))), (dw, .inl (g 1, 2, .inl f_dw))] H := hP
        have hD : va_D A [(y, .inr (9, fs_y)), (yt, .inl (g 1, 2, .inl f_yt)), (yc, .inl (g 1, 2, .inl f_yc)), (yr, .inl (g 1, 2, .inl f_yr)), (al, .inl (g 1, 39, .inl (upd (upd (upd (upd (upd (upd (upd (upd (upd (upd (upd (upd f_3 0 (-1)) 22 0) 29 0) 1 (-1)) 23 0) 30 0) 2 (-1)) 24 0) 31 0) 3 (-1)) 25 0) 32 0))), (dw, .inl (g 1, 2, .inl f_dw))] := hD
        refine lv_iinc (v := 4) (lv' := [(1, .int 4), (2, .int 0), (0, .ref y)]) hx hb dX9_layTold_135 hl (k := 1) rfl (by decide) (by decide) rfl (fun ls hl => ?_)
        refine lv_goto (tgt := 23) hx hb dX9_layTold_138 (by decide) ?_
        refine lv_iload_n hx hb dX9_layTold_23 rfl (lv_at hl 0 rfl) ?_
        refine lv_bipush (v := 7) hx hb dX9_layTold_24 (by decide) ?_
        refine lv_icmp_ge (tgt := 141) hx hb dX9_layTold_26 (by decide) (fun c9 => absurd c9 (by first | decide | simp)) (fun _ => ?_)
        refine lv_iload_n hx hb dX9_layTold_29 rfl (lv_at hl 0 rfl) ?_
        refine lv_aload_n hx hb dX9_layTold_30 rfl (lv_at hl 2 rfl) ?_
        refine k_goi (wr := [(yc, .inl (g 1, 2, .inl f_yc)), (yr, .inl (g 1, 2, .inl f_yr)), (al, .inl (g 1, 39, .inl (upd (upd (upd (upd (upd (upd (upd (upd (upd (upd (upd (upd f_3 0 (-1)) 22 0) 29 0) 1 (-1)) 23 0) 30 0) 2 (-1)) 24 0) 31 0) 3 (-1)) 25 0) 32 0))), (dw, .inl (g 1, 2, .inl f_dw))]) hP hD hS hA [0, 1] [2, 3, 4, 5] rfl rfl (by decide) (by decide) (va_runV (As := []) (rest := [.int 4]) ⟨hx, hb, hml, hown, hts⟩ (m_many l D g _ y yt fs_y f_yt h_y_tenants h_y_bank h_yt_at0) (cwV 0 hts gX9_layTold_X9_many rfl rfl rfl (by decide +kernel) ⟨Nat.le_of_ble_eq_true rfl, Nat.le_of_ble_eq_true rfl⟩) (k_preV hK (hP.sub [0, 1] rfl) (hD.sub [0, 1] (by decide) rfl) 9 0 rfl rfl) rfl rfl hl.1 rfl (lv_room (Nat.le_of_ble_eq_true rfl)) dX9_layTold_31 ⟨(Nat.le_of_ble_eq_true rfl), (Nat.le_of_ble_eq_true rfl)⟩) (fun r_18 u_19 H locs hw hP hD hS => ?_)
        rcases hw with ⟨rfl, rfl⟩
        have hP := hP.sub (ws' := [(y, .inr (9, fs_y)), (yt, .inl (g 1, 2, .inl f_yt)), (yc, .inl (g 1, 2, .inl f_yc)), (yr, .inl (g 1, 2, .inl f_yr)), (al, .inl (g 1, 39, .inl (upd (upd (upd (upd (upd (upd (upd (upd (upd (upd (upd (upd f_3 0 (-1)) 22 0) 29 0) 1 (-1)) 23 0) 30 0) 2 (-1)) 24 0) 31 0) 3 (-1)) 25 0) 32 0))), (dw, .inl (g 1, 2, .inl f_dw))]) [4, 5, 0, 1, 2, 3] rfl
        have hD := hD.sub (ws' := [(y, .inr (9, fs_y)), (yt, .inl (g 1, 2, .inl f_yt)), (yc, .inl (g 1, 2, .inl f_yc)), (yr, .inl (g 1, 2, .inl f_yr)), (al, .inl (g 1, 39, .inl (upd (upd (upd (upd (upd (upd (upd (upd (upd (upd (upd (upd f_3 0 (-1)) 22 0) 29 0) 1 (-1)) 23 0) 30 0) 2 (-1)) 24 0) 31 0) 3 (-1)) 25 0) 32 0))), (dw, .inl (g 1, 2, .inl f_dw))]) [4, 5, 0, 1, 2, 3] (by decide) rfl
        refine lv_icmp_ge (tgt := 41) hx hb dX9_layTold_34 (by decide) (fun _ => ?_) (fun c9 => absurd (by first | decide | rfl) c9)
        refine lv_iconst (v := 0) hx hb dX9_layTold_41 (by decide) ?_
        refine lv_istore_n (lv' := [(2, .int 0), (1, .int 4), (0, .ref y)]) hx hb dX9_layTold_42 rfl hl (by decide) rfl (fun ls hl => ?_)
        refine lv_aload_n hx hb dX9_layTold_43 rfl (lv_at hl 2 rfl) ?_
        refine va_get (D := D) (ci := 9) (v := .ref al) (C := RX9) (T := TX9) (N := 67) hx hb hts iX9_layTold_X9 hown hK hP 0 rfl rfl 45 (by decide) (hts (.fieldLink RX9 94 "CatLeasesModel" "all" "[I") (List.mem_of_getElem? (i := 1) rfl)) (fun _ h9 => h9) h_y_all dX9_layTold_44 ?_
        refine lv_iconst (v := 0) hx hb dX9_layTold_47 (by decide) ?_
        refine lv_iload_n hx hb dX9_layTold_48 rfl (lv_at hl 1 rfl) ?_
        refine lv_iadd hx hb dX9_layTold_49 ?_
        refine k_top (v := 4) (by decide) ?_
        refine lv_iload_n hx hb dX9_layTold_50 rfl (lv_at hl 0 rfl) ?_
        refine lv_if_eq (tgt := 71) hx hb dX9_layTold_51 (by decide) (fun _ => ?_) (fun c9 => absurd (by first | decide | rfl) c9)
        refine lv_iconst (v := (-1)) hx hb dX9_layTold_71 (by decide) ?_
        refine va_iast hx hb hK hP hD hS 4 1 rfl rfl (k_in (i := 4) (n := 39) (by decide)) dX9_layTold_72 (fun H locs hP hD hS => ?_)
        have hP : va_P D vwCl [(y, .inr (9, fs_y)), (yt, .inl (g 1, 2, .inl f_yt)), (yc, .inl (g 1, 2, .inl f_yc)), (yr, .inl (g 1, 2, .inl f_yr)), (al, .inl (g 1, 39, .inl (upd (upd (upd (upd (upd (upd (upd (upd (upd (upd (upd (upd (upd f_3 0 (-1)) 22 0) 29 0) 1 (-1)) 23 0) 30 0) 2 (-1)) 24 0) 31 0) 3 (-1)) 25 0) 32 0) 4 (-1)))), (dw, .inl (g 1, 2, .inl f_dw))] H := hP
        have hD : va_D A [(y, .inr (9, fs_y)), (yt, .inl (g 1, 2, .inl f_yt)), (yc, .inl (g 1, 2, .inl f_yc)), (yr, .inl (g 1, 2, .inl f_yr)), (al, .inl (g 1, 39, .inl (upd (upd (upd (upd (upd (upd (upd (upd (upd (upd (upd (upd (upd f_3 0 (-1)) 22 0) 29 0) 1 (-1)) 23 0) 30 0) 2 (-1)) 24 0) 31 0) 3 (-1)) 25 0) 32 0) 4 (-1)))), (dw, .inl (g 1, 2, .inl f_dw))] := hD
        refine lv_aload_n hx hb dX9_layTold_73 rfl (lv_at hl 2 rfl) ?_
        refine va_get (D := D) (ci := 9) (v := .ref al) (C := RX9) (T := TX9) (N := 67) hx hb hts iX9_layTold_X9 hown hK hP 0 rfl rfl 45 (by decide) (hts (.fieldLink RX9 94 "CatLeasesModel" "all" "[I") (List.mem_of_getElem? (i := 1) rfl)) (fun _ h9 => h9) h_y_all dX9_layTold_74 ?_
        refine lv_bipush (v := 22) hx hb dX9_layTold_77 (by decide) ?_
        refine lv_iload_n hx hb dX9_layTold_79 rfl (lv_at hl 1 rfl) ?_
        refine lv_iadd hx hb dX9_layTold_80 ?_
        refine k_top (v := 26) (by decide) ?_
        refine lv_iload_n hx hb dX9_layTold_81 rfl (lv_at hl 0 rfl) ?_
        refine lv_if_eq (tgt := 102) hx hb dX9_layTold_82 (by decide) (fun _ => ?_) (fun c9 => absurd (by first | decide | rfl) c9)
        refine lv_iconst (v := 0) hx hb dX9_layTold_102 (by decide) ?_
        refine va_iast hx hb hK hP hD hS 4 1 rfl rfl (k_in (i := 26) (n := 39) (by decide)) dX9_layTold_103 (fun H locs hP hD hS => ?_)
        have hP : va_P D vwCl [(y, .inr (9, fs_y)), (yt, .inl (g 1, 2, .inl f_yt)), (yc, .inl (g 1, 2, .inl f_yc)), (yr, .inl (g 1, 2, .inl f_yr)), (al, .inl (g 1, 39, .inl (upd (upd (upd (upd (upd (upd (upd (upd (upd (upd (upd (upd (upd (upd f_3 0 (-1)) 22 0) 29 0) 1 (-1)) 23 0) 30 0) 2 (-1)) 24 0) 31 0) 3 (-1)) 25 0) 32 0) 4 (-1)) 26 0))), (dw, .inl (g 1, 2, .inl f_dw))] H := hP
        have hD : va_D A [(y, .inr (9, fs_y)), (yt, .inl (g 1, 2, .inl f_yt)), (yc, .inl (g 1, 2, .inl f_yc)), (yr, .inl (g 1, 2, .inl f_yr)), (al, .inl (g 1, 39, .inl (upd (upd (upd (upd (upd (upd (upd (upd (upd (upd (upd (upd (upd (upd f_3 0 (-1)) 22 0) 29 0) 1 (-1)) 23 0) 30 0) 2 (-1)) 24 0) 31 0) 3 (-1)) 25 0) 32 0) 4 (-1)) 26 0))), (dw, .inl (g 1, 2, .inl f_dw))] := hD
        refine lv_aload_n hx hb dX9_layTold_104 rfl (lv_at hl 2 rfl) ?_
        refine va_get (D := D) (ci := 9) (v := .ref al) (C := RX9) (T := TX9) (N := 67) hx hb hts iX9_layTold_X9 hown hK hP 0 rfl rfl 45 (by decide) (hts (.fieldLink RX9 94 "CatLeasesModel" "all" "[I") (List.mem_of_getElem? (i := 1) rfl)) (fun _ h9 => h9) h_y_all dX9_layTold_105 ?_
        refine lv_bipush (v := 29) hx hb dX9_layTold_108 (by decide) ?_
        refine lv_iload_n hx hb dX9_layTold_110 rfl (lv_at hl 1 rfl) ?_
        refine lv_iadd hx hb dX9_layTold_111 ?_
        refine k_top (v := 33) (by decide) ?_
        refine lv_iload_n hx hb dX9_layTold_112 rfl (lv_at hl 0 rfl) ?_
        refine lv_if_eq (tgt := 133) hx hb dX9_layTold_113 (by decide) (fun _ => ?_) (fun c9 => absurd (by first | decide | rfl) c9)
        refine lv_iconst (v := 0) hx hb dX9_layTold_133 (by decide) ?_
        refine va_iast hx hb hK hP hD hS 4 1 rfl rfl (k_in (i := 33) (n := 39) (by decide)) dX9_layTold_134 (fun H locs hP hD hS => ?_)
        have hP : va_P D vwCl [(y, .inr (9, fs_y)), (yt, .inl (g 1, 2, .inl f_yt)), (yc, .inl (g 1, 2, .inl f_yc)), (yr, .inl (g 1, 2, .inl f_yr)), (al, .inl (g 1, 39, .inl (upd (upd (upd (upd (upd (upd (upd (upd (upd (upd (upd (upd (upd (upd (upd f_3 0 (-1)) 22 0) 29 0) 1 (-1)) 23 0) 30 0) 2 (-1)) 24 0) 31 0) 3 (-1)) 25 0) 32 0) 4 (-1)) 26 0) 33 0))), (dw, .inl (g 1, 2, .inl f_dw))] H := hP
        have hD : va_D A [(y, .inr (9, fs_y)), (yt, .inl (g 1, 2, .inl f_yt)), (yc, .inl (g 1, 2, .inl f_yc)), (yr, .inl (g 1, 2, .inl f_yr)), (al, .inl (g 1, 39, .inl (upd (upd (upd (upd (upd (upd (upd (upd (upd (upd (upd (upd (upd (upd (upd f_3 0 (-1)) 22 0) 29 0) 1 (-1)) 23 0) 30 0) 2 (-1)) 24 0) 31 0) 3 (-1)) 25 0) 32 0) 4 (-1)) 26 0) 33 0))), (dw, .inl (g 1, 2, .inl f_dw))] := hD
        refine lv_iinc (v := 5) (lv' := [(1, .int 5), (2, .int 0), (0, .ref y)]) hx hb dX9_layTold_135 hl (k := 1) rfl (by decide) (by decide) rfl (fun ls hl => ?_)
        refine lv_goto (tgt := 23) hx hb dX9_layTold_138 (by decide) ?_
        refine lv_iload_n hx hb dX9_layTold_23 rfl (lv_at hl 0 rfl) ?_
        refine lv_bipush (v := 7) hx hb dX9_layTold_24 (by decide) ?_
        refine lv_icmp_ge (tgt := 141) hx hb dX9_layTold_26 (by decide) (fun c9 => absurd c9 (by first | decide | simp)) (fun _ => ?_)
        refine lv_iload_n hx hb dX9_layTold_29 rfl (lv_at hl 0 rfl) ?_
        refine lv_aload_n hx hb dX9_layTold_30 rfl (lv_at hl 2 rfl) ?_
        refine k_goi (wr := [(yc, .inl (g 1, 2, .inl f_yc)), (yr, .inl (g 1, 2, .inl f_yr)), (al, .inl (g 1, 39, .inl (upd (upd (upd (upd (upd (upd (upd (upd (upd (upd (upd (upd (upd (upd (upd f_3 0 (-1)) 22 0) 29 0) 1 (-1)) 23 0) 30 0) 2 (-1)) 24 0) 31 0) 3 (-1)) 25 0) 32 0) 4 (-1)) 26 0) 33 0))), (dw, .inl (g 1, 2, .inl f_dw))]) hP hD hS hA [0, 1] [2, 3, 4, 5] rfl rfl (by decide) (by decide) (va_runV (As := []) (rest := [.int 5]) ⟨hx, hb, hml, hown, hts⟩ (m_many l D g _ y yt fs_y f_yt h_y_tenants h_y_bank h_yt_at0) (cwV 0 hts gX9_layTold_X9_many rfl rfl rfl (by decide +kernel) ⟨Nat.le_of_ble_eq_true rfl, Nat.le_of_ble_eq_true rfl⟩) (k_preV hK (hP.sub [0, 1] rfl) (hD.sub [0, 1] (by decide) rfl) 9 0 rfl rfl) rfl rfl hl.1 rfl (lv_room (Nat.le_of_ble_eq_true rfl)) dX9_layTold_31 ⟨(Nat.le_of_ble_eq_true rfl), (Nat.le_of_ble_eq_true rfl)⟩) (fun r_20 u_21 H locs hw hP hD hS => ?_)
        rcases hw with ⟨rfl, rfl⟩
        have hP := hP.sub (ws' := [(y, .inr (9, fs_y)), (yt, .inl (g 1, 2, .inl f_yt)), (yc, .inl (g 1, 2, .inl f_yc)), (yr, .inl (g 1, 2, .inl f_yr)), (al, .inl (g 1, 39, .inl (upd (upd (upd (upd (upd (upd (upd (upd (upd (upd (upd (upd (upd (upd (upd f_3 0 (-1)) 22 0) 29 0) 1 (-1)) 23 0) 30 0) 2 (-1)) 24 0) 31 0) 3 (-1)) 25 0) 32 0) 4 (-1)) 26 0) 33 0))), (dw, .inl (g 1, 2, .inl f_dw))]) [4, 5, 0, 1, 2, 3] rfl
        have hD := hD.sub (ws' := [(y, .inr (9, fs_y)), (yt, .inl (g 1, 2, .inl f_yt)), (yc, .inl (g 1, 2, .inl f_yc)), (yr, .inl (g 1, 2, .inl f_yr)), (al, .inl (g 1, 39, .inl (upd (upd (upd (upd (upd (upd (upd (upd (upd (upd (upd (upd (upd (upd (upd f_3 0 (-1)) 22 0) 29 0) 1 (-1)) 23 0) 30 0) 2 (-1)) 24 0) 31 0) 3 (-1)) 25 0) 32 0) 4 (-1)) 26 0) 33 0))), (dw, .inl (g 1, 2, .inl f_dw))]) [4, 5, 0, 1, 2, 3] (by decide) rfl
        refine lv_icmp_ge (tgt := 41) hx hb dX9_layTold_34 (by decide) (fun _ => ?_) (fun c9 => absurd (by first | decide | rfl) c9)
        refine lv_iconst (v := 0) hx hb dX9_layTold_41 (by decide) ?_
        refine lv_istore_n (lv' := [(2, .int 0), (1, .int 5), (0, .ref y)]) hx hb dX9_layTold_42 rfl hl (by decide) rfl (fun ls hl => ?_)
        refine lv_aload_n hx hb dX9_layTold_43 rfl (lv_at hl 2 rfl) ?_
        refine va_get (D := D) (ci := 9) (v := .ref al) (C := RX9) (T := TX9) (N := 67) hx hb hts iX9_layTold_X9 hown hK hP 0 rfl rfl 45 (by decide) (hts (.fieldLink RX9 94 "CatLeasesModel" "all" "[I") (List.mem_of_getElem? (i := 1) rfl)) (fun _ h9 => h9) h_y_all dX9_layTold_44 ?_
        refine lv_iconst (v := 0) hx hb dX9_layTold_47 (by decide) ?_
        refine lv_iload_n hx hb dX9_layTold_48 rfl (lv_at hl 1 rfl) ?_
        refine lv_iadd hx hb dX9_layTold_49 ?_
        refine k_top (v := 5) (by decide) ?_
        refine lv_iload_n hx hb dX9_layTold_50 rfl (lv_at hl 0 rfl) ?_
        refine lv_if_eq (tgt := 71) hx hb dX9_layTold_51 (by decide) (fun _ => ?_) (fun c9 => absurd (by first | decide | rfl) c9)
        refine lv_iconst (v := (-1)) hx hb dX9_layTold_71 (by decide) ?_
        refine va_iast hx hb hK hP hD hS 4 1 rfl rfl (k_in (i := 5) (n := 39) (by decide)) dX9_layTold_72 (fun H locs hP hD hS => ?_)
        have hP : va_P D vwCl [(y, .inr (9, fs_y)), (yt, .inl (g 1, 2, .inl f_yt)), (yc, .inl (g 1, 2, .inl f_yc)), (yr, .inl (g 1, 2, .inl f_yr)), (al, .inl (g 1, 39, .inl (upd (upd (upd (upd (upd (upd (upd (upd (upd (upd (upd (upd (upd (upd (upd (upd f_3 0 (-1)) 22 0) 29 0) 1 (-1)) 23 0) 30 0) 2 (-1)) 24 0) 31 0) 3 (-1)) 25 0) 32 0) 4 (-1)) 26 0) 33 0) 5 (-1)))), (dw, .inl (g 1, 2, .inl f_dw))] H := hP
        have hD : va_D A [(y, .inr (9, fs_y)), (yt, .inl (g 1, 2, .inl f_yt)), (yc, .inl (g 1, 2, .inl f_yc)), (yr, .inl (g 1, 2, .inl f_yr)), (al, .inl (g 1, 39, .inl (upd (upd (upd (upd (upd (upd (upd (upd (upd (upd (upd (upd (upd (upd (upd (upd f_3 0 (-1)) 22 0) 29 0) 1 (-1)) 23 0) 30 0) 2 (-1)) 24 0) 31 0) 3 (-1)) 25 0) 32 0) 4 (-1)) 26 0) 33 0) 5 (-1)))), (dw, .inl (g 1, 2, .inl f_dw))] := hD
        refine lv_aload_n hx hb dX9_layTold_73 rfl (lv_at hl 2 rfl) ?_
        refine va_get (D := D) (ci := 9) (v := .ref al) (C := RX9) (T := TX9) (N := 67) hx hb hts iX9_layTold_X9 hown hK hP 0 rfl rfl 45 (by decide) (hts (.fieldLink RX9 94 "CatLeasesModel" "all" "[I") (List.mem_of_getElem? (i := 1) rfl)) (fun _ h9 => h9) h_y_all dX9_layTold_74 ?_
        refine lv_bipush (v := 22) hx hb dX9_layTold_77 (by decide) ?_
        refine lv_iload_n hx hb dX9_layTold_79 rfl (lv_at hl 1 rfl) ?_
        refine lv_iadd hx hb dX9_layTold_80 ?_
        refine k_top (v := 27) (by decide) ?_
        refine lv_iload_n hx hb dX9_layTold_81 rfl (lv_at hl 0 rfl) ?_
        refine lv_if_eq (tgt := 102) hx hb dX9_layTold_82 (by decide) (fun _ => ?_) (fun c9 => absurd (by first | decide | rfl) c9)
        refine lv_iconst (v := 0) hx hb dX9_layTold_102 (by decide) ?_
        refine va_iast hx hb hK hP hD hS 4 1 rfl rfl (k_in (i := 27) (n := 39) (by decide)) dX9_layTold_103 (fun H locs hP hD hS => ?_)
        have hP : va_P D vwCl [(y, .inr (9, fs_y)), (yt, .inl (g 1, 2, .inl f_yt)), (yc, .inl (g 1, 2, .inl f_yc)), (yr, .inl (g 1, 2, .inl f_yr)), (al, .inl (g 1, 39, .inl (upd (upd (upd (upd (upd (upd (upd (upd (upd (upd (upd (upd (upd (upd (upd (upd (upd f_3 0 (-1)) 22 0) 29 0) 1 (-1)) 23 0) 30 0) 2 (-1)) 24 0) 31 0) 3 (-1)) 25 0) 32 0) 4 (-1)) 26 0) 33 0) 5 (-1)) 27 0))), (dw, .inl (g 1, 2, .inl f_dw))] H := hP
        have hD : va_D A [(y, .inr (9, fs_y)), (yt, .inl (g 1, 2, .inl f_yt)), (yc, .inl (g 1, 2, .inl f_yc)), (yr, .inl (g 1, 2, .inl f_yr)), (al, .inl (g 1, 39, .inl (upd (upd (upd (upd (upd (upd (upd (upd (upd (upd (upd (upd (upd (upd (upd (upd (upd f_3 0 (-1)) 22 0) 29 0) 1 (-1)) 23 0) 30 0) 2 (-1)) 24 0) 31 0) 3 (-1)) 25 0) 32 0) 4 (-1)) 26 0) 33 0) 5 (-1)) 27 0))), (dw, .inl (g 1, 2, .inl f_dw))] := hD
        refine lv_aload_n hx hb dX9_layTold_104 rfl (lv_at hl 2 rfl) ?_
        refine va_get (D := D) (ci := 9) (v := .ref al) (C := RX9) (T := TX9) (N := 67) hx hb hts iX9_layTold_X9 hown hK hP 0 rfl rfl 45 (by decide) (hts (.fieldLink RX9 94 "CatLeasesModel" "all" "[I") (List.mem_of_getElem? (i := 1) rfl)) (fun _ h9 => h9) h_y_all dX9_layTold_105 ?_
        refine lv_bipush (v := 29) hx hb dX9_layTold_108 (by decide) ?_
        refine lv_iload_n hx hb dX9_layTold_110 rfl (lv_at hl 1 rfl) ?_
        refine lv_iadd hx hb dX9_layTold_111 ?_
        refine k_top (v := 34) (by decide) ?_
        refine lv_iload_n hx hb dX9_layTold_112 rfl (lv_at hl 0 rfl) ?_
        refine lv_if_eq (tgt := 133) hx hb dX9_layTold_113 (by decide) (fun _ => ?_) (fun c9 => absurd (by first | decide | rfl) c9)
        refine lv_iconst (v := 0) hx hb dX9_layTold_133 (by decide) ?_
        refine va_iast hx hb hK hP hD hS 4 1 rfl rfl (k_in (i := 34) (n := 39) (by decide)) dX9_layTold_134 (fun H locs hP hD hS => ?_)
        have hP : va_P D vwCl [(y, .inr (9, fs_y)), (yt, .inl (g 1, 2, .inl f_yt)), (yc, .inl (g 1, 2, .inl f_yc)), (yr, .inl (g 1, 2, .inl f_yr)), (al, .inl (g 1, 39, .inl (upd (upd (upd (upd (upd (upd (upd (upd (upd (upd (upd (upd (upd (upd (upd (upd (upd (upd f_3 0 (-1)) 22 0) 29 0) 1 (-1)) 23 0) 30 0) 2 (-1)) 24 0) 31 0) 3 (-1)) 25 0) 32 0) 4 (-1)) 26 0) 33 0) 5 (-1)) 27 0) 34 0))), (dw, .inl (g 1, 2, .inl f_dw))] H := hP
        have hD : va_D A [(y, .inr (9, fs_y)), (yt, .inl (g 1, 2, .inl f_yt)), (yc, .inl (g 1, 2, .inl f_yc)), (yr, .inl (g 1, 2, .inl f_yr)), (al, .inl (g 1, 39, .inl (upd (upd (upd (upd (upd (upd (upd (upd (upd (upd (upd (upd (upd (upd (upd (upd (upd (upd f_3 0 (-1)) 22 0) 29 0) 1 (-1)) 23 0) 30 0) 2 (-1)) 24 0) 31 0) 3 (-1)) 25 0) 32 0) 4 (-1)) 26 0) 33 0) 5 (-1)) 27 0) 34 0))), (dw, .inl (g 1, 2, .inl f_dw))] := hD
        refine lv_iinc (v := 6) (lv' := [(1, .int 6), (2, .int 0), (0, .ref y)]) hx hb dX9_layTold_135 hl (k := 1) rfl (by decide) (by decide) rfl (fun ls hl => ?_)
        refine lv_goto (tgt := 23) hx hb dX9_layTold_138 (by decide) ?_
        refine lv_iload_n hx hb dX9_layTold_23 rfl (lv_at hl 0 rfl) ?_
        refine lv_bipush (v := 7) hx hb dX9_layTold_24 (by decide) ?_
        refine lv_icmp_ge (tgt := 141) hx hb dX9_layTold_26 (by decide) (fun c9 => absurd c9 (by first | decide | simp)) (fun _ => ?_)
        refine lv_iload_n hx hb dX9_layTold_29 rfl (lv_at hl 0 rfl) ?_
        refine lv_aload_n hx hb dX9_layTold_30 rfl (lv_at hl 2 rfl) ?_
        refine k_goi (wr := [(yc, .inl (g 1, 2, .inl f_yc)), (yr, .inl (g 1, 2, .inl f_yr)), (al, .inl (g 1, 39, .inl (upd (upd (upd (upd (upd (upd (upd (upd (upd (upd (upd (upd (upd (upd (upd (upd (upd (upd f_3 0 (-1)) 22 0) 29 0) 1 (-1)) 23 0) 30 0) 2 (-1)) 24 0) 31 0) 3 (-1)) 25 0) 32 0) 4 (-1)) 26 0) 33 0) 5 (-1)) 27 0) 34 0))), (dw, .inl (g 1, 2, .inl f_dw))]) hP hD hS hA [0, 1] [2, 3, 4, 5] rfl rfl (by decide) (by decide) (va_runV (As := []) (rest := [.int 6]) ⟨hx, hb, hml, hown, hts⟩ (m_many l D g _ y yt fs_y f_yt h_y_tenants h_y_bank h_yt_at0) (cwV 0 hts gX9_layTold_X9_many rfl rfl rfl (by decide +kernel) ⟨Nat.le_of_ble_eq_true rfl, Nat.le_of_ble_eq_true rfl⟩) (k_preV hK (hP.sub [0, 1] rfl) (hD.sub [0, 1] (by decide) rfl) 9 0 rfl rfl) rfl rfl hl.1 rfl (lv_room (Nat.le_of_ble_eq_true rfl)) dX9_layTold_31 ⟨(Nat.le_of_ble_eq_true rfl), (Nat.le_of_ble_eq_true rfl)⟩) (fun r_22 u_23 H locs hw hP hD hS => ?_)
        rcases hw with ⟨rfl, rfl⟩
        have hP := hP.sub (ws' := [(y, .inr (9, fs_y)), (yt, .inl (g 1, 2, .inl f_yt)), (yc, .inl (g 1, 2, .inl f_yc)), (yr, .inl (g 1, 2, .inl f_yr)), (al, .inl (g 1, 39, .inl (upd (upd (upd (upd (upd (upd (upd (upd (upd (upd (upd (upd (upd (upd (upd (upd (upd (upd f_3 0 (-1)) 22 0) 29 0) 1 (-1)) 23 0) 30 0) 2 (-1)) 24 0) 31 0) 3 (-1)) 25 0) 32 0) 4 (-1)) 26 0) 33 0) 5 (-1)) 27 0) 34 0))), (dw, .inl (g 1, 2, .inl f_dw))]) [4, 5, 0, 1, 2, 3] rfl
        have hD := hD.sub (ws' := [(y, .inr (9, fs_y)), (yt, .inl (g 1, 2, .inl f_yt)), (yc, .inl (g 1, 2, .inl f_yc)), (yr, .inl (g 1, 2, .inl f_yr)), (al, .inl (g 1, 39, .inl (upd (upd (upd (upd (upd (upd (upd (upd (upd (upd (upd (upd (upd (upd (upd (upd (upd (upd f_3 0 (-1)) 22 0) 29 0) 1 (-1)) 23 0) 30 0) 2 (-1)) 24 0) 31 0) 3 (-1)) 25 0) 32 0) 4 (-1)) 26 0) 33 0) 5 (-1)) 27 0) 34 0))), (dw, .inl (g 1, 2, .inl f_dw))]) [4, 5, 0, 1, 2, 3] (by decide) rfl
        refine lv_icmp_ge (tgt := 41) hx hb dX9_layTold_34 (by decide) (fun _ => ?_) (fun c9 => absurd (by first | decide | rfl) c9)
        refine lv_iconst (v := 0) hx hb dX9_layTold_41 (by decide) ?_
        refine lv_istore_n (lv' := [(2, .int 0), (1, .int 6), (0, .ref y)]) hx hb dX9_layTold_42 rfl hl (by decide) rfl (fun ls hl => ?_)
        refine lv_aload_n hx hb dX9_layTold_43 rfl (lv_at hl 2 rfl) ?_
        refine va_get (D := D) (ci := 9) (v := .ref al) (C := RX9) (T := TX9) (N := 67) hx hb hts iX9_layTold_X9 hown hK hP 0 rfl rfl 45 (by decide) (hts (.fieldLink RX9 94 "CatLeasesModel" "all" "[I") (List.mem_of_getElem? (i := 1) rfl)) (fun _ h9 => h9) h_y_all dX9_layTold_44 ?_
        refine lv_iconst (v := 0) hx hb dX9_layTold_47 (by decide) ?_
        refine lv_iload_n hx hb dX9_layTold_48 rfl (lv_at hl 1 rfl) ?_
        refine lv_iadd hx hb dX9_layTold_49 ?_
        refine k_top (v := 6) (by decide) ?_
        refine lv_iload_n hx hb dX9_layTold_50 rfl (lv_at hl 0 rfl) ?_
        refine lv_if_eq (tgt := 71) hx hb dX9_layTold_51 (by decide) (fun _ => ?_) (fun c9 => absurd (by first | decide | rfl) c9)
        refine lv_iconst (v := (-1)) hx hb dX9_layTold_71 (by decide) ?_
        refine va_iast hx hb hK hP hD hS 4 1 rfl rfl (k_in (i := 6) (n := 39) (by decide)) dX9_layTold_72 (fun H locs hP hD hS => ?_)
        have hP : va_P D vwCl [(y, .inr (9, fs_y)), (yt, .inl (g 1, 2, .inl f_yt)), (yc, .inl (g 1, 2, .inl f_yc)), (yr, .inl (g 1, 2, .inl f_yr)), (al, .inl (g 1, 39, .inl (upd (upd (upd (upd (upd (upd (upd (upd (upd (upd (upd (upd (upd (upd (upd (upd (upd (upd (upd f_3 0 (-1)) 22 0) 29 0) 1 (-1)) 23 0) 30 0) 2 (-1)) 24 0) 31 0) 3 (-1)) 25 0) 32 0) 4 (-1)) 26 0) 33 0) 5 (-1)) 27 0) 34 0) 6 (-1)))), (dw, .inl (g 1, 2, .inl f_dw))] H := hP
        have hD : va_D A [(y, .inr (9, fs_y)), (yt, .inl (g 1, 2, .inl f_yt)), (yc, .inl (g 1, 2, .inl f_yc)), (yr, .inl (g 1, 2, .inl f_yr)), (al, .inl (g 1, 39, .inl (upd (upd (upd (upd (upd (upd (upd (upd (upd (upd (upd (upd (upd (upd (upd (upd (upd (upd (upd f_3 0 (-1)) 22 0) 29 0) 1 (-1)) 23 0) 30 0) 2 (-1)) 24 0) 31 0) 3 (-1)) 25 0) 32 0) 4 (-1)) 26 0) 33 0) 5 (-1)) 27 0) 34 0) 6 (-1)))), (dw, .inl (g 1, 2, .inl f_dw))] := hD
        refine lv_aload_n hx hb dX9_layTold_73 rfl (lv_at hl 2 rfl) ?_
        refine va_get (D := D) (ci := 9) (v := .ref al) (C := RX9) (T := TX9) (N := 67) hx hb hts iX9_layTold_X9 hown hK hP 0 rfl rfl 45 (by decide) (hts (.fieldLink RX9 94 "CatLeasesModel" "all" "[I") (List.mem_of_getElem? (i := 1) rfl)) (fun _ h9 => h9) h_y_all dX9_layTold_74 ?_
        refine lv_bipush (v := 22) hx hb dX9_layTold_77 (by decide) ?_
        refine lv_iload_n hx hb dX9_layTold_79 rfl (lv_at hl 1 rfl) ?_
        refine lv_iadd hx hb dX9_layTold_80 ?_
        refine k_top (v := 28) (by decide) ?_
        refine lv_iload_n hx hb dX9_layTold_81 rfl (lv_at hl 0 rfl) ?_
        refine lv_if_eq (tgt := 102) hx hb dX9_layTold_82 (by decide) (fun _ => ?_) (fun c9 => absurd (by first | decide | rfl) c9)
        refine lv_iconst (v := 0) hx hb dX9_layTold_102 (by decide) ?_
        refine va_iast hx hb hK hP hD hS 4 1 rfl rfl (k_in (i := 28) (n := 39) (by decide)) dX9_layTold_103 (fun H locs hP hD hS => ?_)
        have hP : va_P D vwCl [(y, .inr (9, fs_y)), (yt, .inl (g 1, 2, .inl f_yt)), (yc, .inl (g 1, 2, .inl f_yc)), (yr, .inl (g 1, 2, .inl f_yr)), (al, .inl (g 1, 39, .inl (upd (upd (upd (upd (upd (upd (upd (upd (upd (upd (upd (upd (upd (upd (upd (upd (upd (upd (upd (upd f_3 0 (-1)) 22 0) 29 0) 1 (-1)) 23 0) 30 0) 2 (-1)) 24 0) 31 0) 3 (-1)) 25 0) 32 0) 4 (-1)) 26 0) 33 0) 5 (-1)) 27 0) 34 0) 6 (-1)) 28 0))), (dw, .inl (g 1, 2, .inl f_dw))] H := hP
        have hD : va_D A [(y, .inr (9, fs_y)), (yt, .inl (g 1, 2, .inl f_yt)), (yc, .inl (g 1, 2, .inl f_yc)), (yr, .inl (g 1, 2, .inl f_yr)), (al, .inl (g 1, 39, .inl (upd (upd (upd (upd (upd (upd (upd (upd (upd (upd (upd (upd (upd (upd (upd (upd (upd (upd (upd (upd f_3 0 (-1)) 22 0) 29 0) 1 (-1)) 23 0) 30 0) 2 (-1)) 24 0) 31 0) 3 (-1)) 25 0) 32 0) 4 (-1)) 26 0) 33 0) 5 (-1)) 27 0) 34 0) 6 (-1)) 28 0))), (dw, .inl (g 1, 2, .inl f_dw))] := hD
        refine lv_aload_n hx hb dX9_layTold_104 rfl (lv_at hl 2 rfl) ?_
        refine va_get (D := D) (ci := 9) (v := .ref al) (C := RX9) (T := TX9) (N := 67) hx hb hts iX9_layTold_X9 hown hK hP 0 rfl rfl 45 (by decide) (hts (.fieldLink RX9 94 "CatLeasesModel" "all" "[I") (List.mem_of_getElem? (i := 1) rfl)) (fun _ h9 => h9) h_y_all dX9_layTold_105 ?_
        refine lv_bipush (v := 29) hx hb dX9_layTold_108 (by decide) ?_
        refine lv_iload_n hx hb dX9_layTold_110 rfl (lv_at hl 1 rfl) ?_
        refine lv_iadd hx hb dX9_layTold_111 ?_
        refine k_top (v := 35) (by decide) ?_
        refine lv_iload_n hx hb dX9_layTold_112 rfl (lv_at hl 0 rfl) ?_
        refine lv_if_eq (tgt := 133) hx hb dX9_layTold_113 (by decide) (fun _ => ?_) (fun c9 => absurd (by first | decide | rfl) c9)
        refine lv_iconst (v := 0) hx hb dX9_layTold_133 (by decide) ?_
        refine va_iast hx hb hK hP hD hS 4 1 rfl rfl (k_in (i := 35) (n := 39) (by decide)) dX9_layTold_134 (fun H locs hP hD hS => ?_)
        have hP : va_P D vwCl [(y, .inr (9, fs_y)), (yt, .inl (g 1, 2, .inl f_yt)), (yc, .inl (g 1, 2, .inl f_yc)), (yr, .inl (g 1, 2, .inl f_yr)), (al, .inl (g 1, 39, .inl (upd (upd (upd (upd (upd (upd (upd (upd (upd (upd (upd (upd (upd (upd (upd (upd (upd (upd (upd (upd (upd f_3 0 (-1)) 22 0) 29 0) 1 (-1)) 23 0) 30 0) 2 (-1)) 24 0) 31 0) 3 (-1)) 25 0) 32 0) 4 (-1)) 26 0) 33 0) 5 (-1)) 27 0) 34 0) 6 (-1)) 28 0) 35 0))), (dw, .inl (g 1, 2, .inl f_dw))] H := hP
        have hD : va_D A [(y, .inr (9, fs_y)), (yt, .inl (g 1, 2, .inl f_yt)), (yc, .inl (g 1, 2, .inl f_yc)), (yr, .inl (g 1, 2, .inl f_yr)), (al, .inl (g 1, 39, .inl (upd (upd (upd (upd (upd (upd (upd (upd (upd (upd (upd (upd (upd (upd (upd (upd (upd (upd (upd (upd (upd f_3 0 (-1)) 22 0) 29 0) 1 (-1)) 23 0) 30 0) 2 (-1)) 24 0) 31 0) 3 (-1)) 25 0) 32 0) 4 (-1)) 26 0) 33 0) 5 (-1)) 27 0) 34 0) 6 (-1)) 28 0) 35 0))), (dw, .inl (g 1, 2, .inl f_dw))] := hD
        refine lv_iinc (v := 7) (lv' := [(1, .int 7), (2, .int 0), (0, .ref y)]) hx hb dX9_layTold_135 hl (k := 1) rfl (by decide) (by decide) rfl (fun ls hl => ?_)
        refine lv_goto (tgt := 23) hx hb dX9_layTold_138 (by decide) ?_
        refine lv_iload_n hx hb dX9_layTold_23 rfl (lv_at hl 0 rfl) ?_
        refine lv_bipush (v := 7) hx hb dX9_layTold_24 (by decide) ?_
        refine lv_icmp_ge (tgt := 141) hx hb dX9_layTold_26 (by decide) (fun _ => ?_) (fun c9 => absurd (by first | decide | rfl) c9)
        refine lv_iconst (v := 0) hx hb dX9_layTold_141 (by decide) ?_
        refine lv_istore_n (lv' := [(1, .int 0), (2, .int 0), (0, .ref y)]) hx hb dX9_layTold_142 rfl hl (by decide) rfl (fun ls hl => ?_)
        refine lv_iload_n hx hb dX9_layTold_143 rfl (lv_at hl 0 rfl) ?_
        refine lv_bipush (v := 8) hx hb dX9_layTold_144 (by decide) ?_
        refine lv_icmp_ge (tgt := 190) hx hb dX9_layTold_146 (by decide) (fun c9 => absurd c9 (by first | decide | simp)) (fun _ => ?_)
        refine lv_aload_n hx hb dX9_layTold_149 rfl (lv_at hl 2 rfl) ?_
        refine va_get (D := D) (ci := 9) (v := .ref al) (C := RX9) (T := TX9) (N := 67) hx hb hts iX9_layTold_X9 hown hK hP 0 rfl rfl 45 (by decide) (hts (.fieldLink RX9 94 "CatLeasesModel" "all" "[I") (List.mem_of_getElem? (i := 1) rfl)) (fun _ h9 => h9) h_y_all dX9_layTold_150 ?_
        refine lv_bipush (v := 14) hx hb dX9_layTold_153 (by decide) ?_
        refine lv_iload_n hx hb dX9_layTold_155 rfl (lv_at hl 0 rfl) ?_
        refine lv_iadd hx hb dX9_layTold_156 ?_
        refine k_top (v := 14) (by decide) ?_
        refine lv_iload_n hx hb dX9_layTold_157 rfl (lv_at hl 0 rfl) ?_
        refine lv_aload_n hx hb dX9_layTold_158 rfl (lv_at hl 2 rfl) ?_
        refine k_goi (wr := [(yt, .inl (g 1, 2, .inl f_yt)), (yc, .inl (g 1, 2, .inl f_yc)), (al, .inl (g 1, 39, .inl (upd (upd (upd (upd (upd (upd (upd (upd (upd (upd (upd (upd (upd (upd (upd (upd (upd (upd (upd (upd (upd f_3 0 (-1)) 22 0) 29 0) 1 (-1)) 23 0) 30 0) 2 (-1)) 24 0) 31 0) 3 (-1)) 25 0) 32 0) 4 (-1)) 26 0) 33 0) 5 (-1)) 27 0) 34 0) 6 (-1)) 28 0) 35 0))), (dw, .inl (g 1, 2, .inl f_dw))]) hP hD hS hA [0, 3] [1, 2, 4, 5] rfl rfl (by decide) (by decide) (va_runV (As := []) (rest := [.int 0, .int 14, .ref al]) ⟨hx, hb, hml, hown, hts⟩ (m_chambers l D g _ y yr fs_y f_yr h_y_rooms h_y_bank h_yr_at0) (cwV 0 hts gX9_layTold_X9_chambers rfl rfl rfl (by decide +kernel) ⟨Nat.le_of_ble_eq_true rfl, Nat.le_of_ble_eq_true rfl⟩) (k_preV hK (hP.sub [0, 3] rfl) (hD.sub [0, 3] (by decide) rfl) 9 0 rfl rfl) rfl rfl hl.1 rfl (lv_room (Nat.le_of_ble_eq_true rfl)) dX9_layTold_159 ⟨(Nat.le_of_ble_eq_true rfl), (Nat.le_of_ble_eq_true rfl)⟩) (fun r_24 u_25 H locs hw hP hD hS => ?_)
        rcases hw with ⟨rfl, rfl⟩
        have hP := hP.sub (ws' := [(y, .inr (9, fs_y)), (yt, .inl (g 1, 2, .inl f_yt)), (yc, .inl (g 1, 2, .inl f_yc)), (yr, .inl (g 1, 2, .inl f_yr)), (al, .inl (g 1, 39, .inl (upd (upd (upd (upd (upd (upd (upd (upd (upd (upd (upd (upd (upd (upd (upd (upd (upd (upd (upd (upd (upd f_3 0 (-1)) 22 0) 29 0) 1 (-1)) 23 0) 30 0) 2 (-1)) 24 0) 31 0) 3 (-1)) 25 0) 32 0) 4 (-1)) 26 0) 33 0) 5 (-1)) 27 0) 34 0) 6 (-1)) 28 0) 35 0))), (dw, .inl (g 1, 2, .inl f_dw))]) [4, 0, 1, 5, 2, 3] rfl
        have hD := hD.sub (ws' := [(y, .inr (9, fs_y)), (yt, .inl (g 1, 2, .inl f_yt)), (yc, .inl (g 1, 2, .inl f_yc)), (yr, .inl (g 1, 2, .inl f_yr)), (al, .inl (g 1, 39, .inl (upd (upd (upd (upd (upd (upd (upd (upd (upd (upd (upd (upd (upd (upd (upd (upd (upd (upd (upd (upd (upd f_3 0 (-1)) 22 0) 29 0) 1 (-1)) 23 0) 30 0) 2 (-1)) 24 0) 31 0) 3 (-1)) 25 0) 32 0) 4 (-1)) 26 0) 33 0) 5 (-1)) 27 0) 34 0) 6 (-1)) 28 0) 35 0))), (dw, .inl (g 1, 2, .inl f_dw))]) [4, 0, 1, 5, 2, 3] (by decide) rfl
        refine lv_icmp_ge (tgt := 182) hx hb dX9_layTold_162 (by decide) (fun _ => ?_) (fun c9 => absurd (by first | decide | rfl) c9)
        refine lv_iconst (v := (-1)) hx hb dX9_layTold_182 (by decide) ?_
        refine va_iast hx hb hK hP hD hS 4 1 rfl rfl (k_in (i := 14) (n := 39) (by decide)) dX9_layTold_183 (fun H locs hP hD hS => ?_)
        have hP : va_P D vwCl [(y, .inr (9, fs_y)), (yt, .inl (g 1, 2, .inl f_yt)), (yc, .inl (g 1, 2, .inl f_yc)), (yr, .inl (g 1, 2, .inl f_yr)), (al, .inl (g 1, 39, .inl (upd (upd (upd (upd (upd (upd (upd (upd (upd (upd (upd (upd (upd (upd (upd (upd (upd (upd (upd (upd (upd (upd f_3 0 (-1)) 22 0) 29 0) 1 (-1)) 23 0) 30 0) 2 (-1)) 24 0) 31 0) 3 (-1)) 25 0) 32 0) 4 (-1)) 26 0) 33 0) 5 (-1)) 27 0) 34 0) 6 (-1)) 28 0) 35 0) 14 (-1)))), (dw, .inl (g 1, 2, .inl f_dw))] H := hP
        have hD : va_D A [(y, .inr (9, fs_y)), (yt, .inl (g 1, 2, .inl f_yt)), (yc, .inl (g 1, 2, .inl f_yc)), (yr, .inl (g 1, 2, .inl f_yr)), (al, .inl (g 1, 39, .inl (upd (upd (upd (upd (upd (upd (upd (upd (upd (upd (upd (upd (upd (upd (upd (upd (upd (upd (upd (upd (upd (upd f_3 0 (-1)) 22 0) 29 0) 1 (-1)) 23 0) 30 0) 2 (-1)) 24 0) 31 0) 3 (-1)) 25 0) 32 0) 4 (-1)) 26 0) 33 0) 5 (-1)) 27 0) 34 0) 6 (-1)) 28 0) 35 0) 14 (-1)))), (dw, .inl (g 1, 2, .inl f_dw))] := hD
        refine lv_iinc (v := 1) (lv' := [(1, .int 1), (2, .int 0), (0, .ref y)]) hx hb dX9_layTold_184 hl (k := 0) rfl (by decide) (by decide) rfl (fun ls hl => ?_)
        refine lv_goto (tgt := 143) hx hb dX9_layTold_187 (by decide) ?_
        refine lv_iload_n hx hb dX9_layTold_143 rfl (lv_at hl 0 rfl) ?_
        refine lv_bipush (v := 8) hx hb dX9_layTold_144 (by decide) ?_
        refine lv_icmp_ge (tgt := 190) hx hb dX9_layTold_146 (by decide) (fun c9 => absurd c9 (by first | decide | simp)) (fun _ => ?_)
        refine lv_aload_n hx hb dX9_layTold_149 rfl (lv_at hl 2 rfl) ?_
        refine va_get (D := D) (ci := 9) (v := .ref al) (C := RX9) (T := TX9) (N := 67) hx hb hts iX9_layTold_X9 hown hK hP 0 rfl rfl 45 (by decide) (hts (.fieldLink RX9 94 "CatLeasesModel" "all" "[I") (List.mem_of_getElem? (i := 1) rfl)) (fun _ h9 => h9) h_y_all dX9_layTold_150 ?_
        refine lv_bipush (v := 14) hx hb dX9_layTold_153 (by decide) ?_
        refine lv_iload_n hx hb dX9_layTold_155 rfl (lv_at hl 0 rfl) ?_
        refine lv_iadd hx hb dX9_layTold_156 ?_
        refine k_top (v := 15) (by decide) ?_
        refine lv_iload_n hx hb dX9_layTold_157 rfl (lv_at hl 0 rfl) ?_
        refine lv_aload_n hx hb dX9_layTold_158 rfl (lv_at hl 2 rfl) ?_
        refine k_goi (wr := [(yt, .inl (g 1, 2, .inl f_yt)), (yc, .inl (g 1, 2, .inl f_yc)), (al, .inl (g 1, 39, .inl (upd (upd (upd (upd (upd (upd (upd (upd (upd (upd (upd (upd (upd (upd (upd (upd (upd (upd (upd (upd (upd (upd f_3 0 (-1)) 22 0) 29 0) 1 (-1)) 23 0) 30 0) 2 (-1)) 24 0) 31 0) 3 (-1)) 25 0) 32 0) 4 (-1)) 26 0) 33 0) 5 (-1)) 27 0) 34 0) 6 (-1)) 28 0) 35 0) 14 (-1)))), (dw, .inl (g 1, 2, .inl f_dw))]) hP hD hS hA [0, 3] [1, 2, 4, 5] rfl rfl (by decide) (by decide) (va_runV (As := []) (rest := [.int 1, .int 15, .ref al]) ⟨hx, hb, hml, hown, hts⟩ (m_chambers l D g _ y yr fs_y f_yr h_y_rooms h_y_bank h_yr_at0) (cwV 0 hts gX9_layTold_X9_chambers rfl rfl rfl (by decide +kernel) ⟨Nat.le_of_ble_eq_true rfl, Nat.le_of_ble_eq_true rfl⟩) (k_preV hK (hP.sub [0, 3] rfl) (hD.sub [0, 3] (by decide) rfl) 9 0 rfl rfl) rfl rfl hl.1 rfl (lv_room (Nat.le_of_ble_eq_true rfl)) dX9_layTold_159 ⟨(Nat.le_of_ble_eq_true rfl), (Nat.le_of_ble_eq_true rfl)⟩) (fun r_26 u_27 H locs hw hP hD hS => ?_)
        rcases hw with ⟨rfl, rfl⟩
        have hP := hP.sub (ws' := [(y, .inr (9, fs_y)), (yt, .inl (g 1, 2, .inl f_yt)), (yc, .inl (g 1, 2, .inl f_yc)), (yr, .inl (g 1, 2, .inl f_yr)), (al, .inl (g 1, 39, .inl (upd (upd (upd (upd (upd (upd (upd (upd (upd (upd (upd (upd (upd (upd (upd (upd (upd (upd (upd (upd (upd (upd f_3 0 (-1)) 22 0) 29 0) 1 (-1)) 23 0) 30 0) 2 (-1)) 24 0) 31 0) 3 (-1)) 25 0) 32 0) 4 (-1)) 26 0) 33 0) 5 (-1)) 27 0) 34 0) 6 (-1)) 28 0) 35 0) 14 (-1)))), (dw, .inl (g 1, 2, .inl f_dw))]) [4, 0, 1, 5, 2, 3] rfl
        have hD := hD.sub (ws' := [(y, .inr (9, fs_y)), (yt, .inl (g 1, 2, .inl f_yt)), (yc, .inl (g 1, 2, .inl f_yc)), (yr, .inl (g 1, 2, .inl f_yr)), (al, .inl (g 1, 39, .inl (upd (upd (upd (upd (upd (upd (upd (upd (upd (upd (upd (upd (upd (upd (upd (upd (upd (upd (upd (upd (upd (upd f_3 0 (-1)) 22 0) 29 0) 1 (-1)) 23 0) 30 0) 2 (-1)) 24 0) 31 0) 3 (-1)) 25 0) 32 0) 4 (-1)) 26 0) 33 0) 5 (-1)) 27 0) 34 0) 6 (-1)) 28 0) 35 0) 14 (-1)))), (dw, .inl (g 1, 2, .inl f_dw))]) [4, 0, 1, 5, 2, 3] (by decide) rfl
        refine lv_icmp_ge (tgt := 182) hx hb dX9_layTold_162 (by decide) (fun _ => ?_) (fun c9 => absurd (by first | decide | rfl) c9)
        refine lv_iconst (v := (-1)) hx hb dX9_layTold_182 (by decide) ?_
        refine va_iast hx hb hK hP hD hS 4 1 rfl rfl (k_in (i := 15) (n := 39) (by decide)) dX9_layTold_183 (fun H locs hP hD hS => ?_)
        have hP : va_P D vwCl [(y, .inr (9, fs_y)), (yt, .inl (g 1, 2, .inl f_yt)), (yc, .inl (g 1, 2, .inl f_yc)), (yr, .inl (g 1, 2, .inl f_yr)), (al, .inl (g 1, 39, .inl (upd (upd (upd (upd (upd (upd (upd (upd (upd (upd (upd (upd (upd (upd (upd (upd (upd (upd (upd (upd (upd (upd (upd f_3 0 (-1)) 22 0) 29 0) 1 (-1)) 23 0) 30 0) 2 (-1)) 24 0) 31 0) 3 (-1)) 25 0) 32 0) 4 (-1)) 26 0) 33 0) 5 (-1)) 27 0) 34 0) 6 (-1)) 28 0) 35 0) 14 (-1)) 15 (-1)))), (dw, .inl (g 1, 2, .inl f_dw))] H := hP
        have hD : va_D A [(y, .inr (9, fs_y)), (yt, .inl (g 1, 2, .inl f_yt)), (yc, .inl (g 1, 2, .inl f_yc)), (yr, .inl (g 1, 2, .inl f_yr)), (al, .inl (g 1, 39, .inl (upd (upd (upd (upd (upd (upd (upd (upd (upd (upd (upd (upd (upd (upd (upd (upd (upd (upd (upd (upd (upd (upd (upd f_3 0 (-1)) 22 0) 29 0) 1 (-1)) 23 0) 30 0) 2 (-1)) 24 0) 31 0) 3 (-1)) 25 0) 32 0) 4 (-1)) 26 0) 33 0) 5 (-1)) 27 0) 34 0) 6 (-1)) 28 0) 35 0) 14 (-1)) 15 (-1)))), (dw, .inl (g 1, 2, .inl f_dw))] := hD
        refine lv_iinc (v := 2) (lv' := [(1, .int 2), (2, .int 0), (0, .ref y)]) hx hb dX9_layTold_184 hl (k := 0) rfl (by decide) (by decide) rfl (fun ls hl => ?_)
        refine lv_goto (tgt := 143) hx hb dX9_layTold_187 (by decide) ?_
        refine lv_iload_n hx hb dX9_layTold_143 rfl (lv_at hl 0 rfl) ?_
        refine lv_bipush (v := 8) hx hb dX9_layTold_144 (by decide) ?_
        refine lv_icmp_ge (tgt := 190) hx hb dX9_layTold_146 (by decide) (fun c9 => absurd c9 (by first | decide | simp)) (fun _ => ?_)
        refine lv_aload_n hx hb dX9_layTold_149 rfl (lv_at hl 2 rfl) ?_
        refine va_get (D := D) (ci := 9) (v := .ref al) (C := RX9) (T := TX9) (N := 67) hx hb hts iX9_layTold_X9 hown hK hP 0 rfl rfl 45 (by decide) (hts (.fieldLink RX9 94 "CatLeasesModel" "all" "[I") (List.mem_of_getElem? (i := 1) rfl)) (fun _ h9 => h9) h_y_all dX9_layTold_150 ?_
        refine lv_bipush (v := 14) hx hb dX9_layTold_153 (by decide) ?_
        refine lv_iload_n hx hb dX9_layTold_155 rfl (lv_at hl 0 rfl) ?_
        refine lv_iadd hx hb dX9_layTold_156 ?_
        refine k_top (v := 16) (by decide) ?_
        refine lv_iload_n hx hb dX9_layTold_157 rfl (lv_at hl 0 rfl) ?_
        refine lv_aload_n hx hb dX9_layTold_158 rfl (lv_at hl 2 rfl) ?_
        refine k_goi (wr := [(yt, .inl (g 1, 2, .inl f_yt)), (yc, .inl (g 1, 2, .inl f_yc)), (al, .inl (g 1, 39, .inl (upd (upd (upd (upd (upd (upd (upd (upd (upd (upd (upd (upd (upd (upd (upd (upd (upd (upd (upd (upd (upd (upd (upd f_3 0 (-1)) 22 0) 29 0) 1 (-1)) 23 0) 30 0) 2 (-1)) 24 0) 31 0) 3 (-1)) 25 0) 32 0) 4 (-1)) 26 0) 33 0) 5 (-1)) 27 0) 34 0) 6 (-1)) 28 0) 35 0) 14 (-1)) 15 (-1)))), (dw, .inl (g 1, 2, .inl f_dw))]) hP hD hS hA [0, 3] [1, 2, 4, 5] rfl rfl (by decide) (by decide) (va_runV (As := []) (rest := [.int 2, .int 16, .ref al]) ⟨hx, hb, hml, hown, hts⟩ (m_chambers l D g _ y yr fs_y f_yr h_y_rooms h_y_bank h_yr_at0) (cwV 0 hts gX9_layTold_X9_chambers rfl rfl rfl (by decide +kernel) ⟨Nat.le_of_ble_eq_true rfl, Nat.le_of_ble_eq_true rfl⟩) (k_preV hK (hP.sub [0, 3] rfl) (hD.sub [0, 3] (by decide) rfl) 9 0 rfl rfl) rfl rfl hl.1 rfl (lv_room (Nat.le_of_ble_eq_true rfl)) dX9_layTold_159 ⟨(Nat.le_of_ble_eq_true rfl), (Nat.le_of_ble_eq_true rfl)⟩) (fun r_28 u_29 H locs hw hP hD hS => ?_)
        rcases hw with ⟨rfl, rfl⟩
        have hP := hP.sub (ws' := [(y, .inr (9, fs_y)), (yt, .inl (g 1, 2, .inl f_yt)), (yc, .inl (g 1, 2, .inl f_yc)), (yr, .inl (g 1, 2, .inl f_yr)), (al, .inl (g 1, 39, .inl (upd (upd (upd (upd (upd (upd (upd (upd (upd (upd (upd (upd (upd (upd (upd (upd (upd (upd (upd (upd (upd (upd (upd f_3 0 (-1)) 22 0) 29 0) 1 (-1)) 23 0) 30 0) 2 (-1)) 24 0) 31 0) 3 (-1)) 25 0) 32 0) 4 (-1)) 26 0) 33 0) 5 (-1)) 27 0) 34 0) 6 (-1)) 28 0) 35 0) 14 (-1)) 15 (-1)))), (dw, .inl (g 1, 2, .inl f_dw))]) [4, 0, 1, 5, 2, 3] rfl
        have hD := hD.sub (ws' := [(y, .inr (9, fs_y)), (yt, .inl (g 1, 2, .inl f_yt)), (yc, .inl (g 1, 2, .inl f_yc)), (yr, .inl (g 1, 2, .inl f_yr)), (al, .inl (g 1, 39, .inl (upd (upd (upd (upd (upd (upd (upd (upd (upd (upd (upd (upd (upd (upd (upd (upd (upd (upd (upd (upd (upd (upd (upd f_3 0 (-1)) 22 0) 29 0) 1 (-1)) 23 0) 30 0) 2 (-1)) 24 0) 31 0) 3 (-1)) 25 0) 32 0) 4 (-1)) 26 0) 33 0) 5 (-1)) 27 0) 34 0) 6 (-1)) 28 0) 35 0) 14 (-1)) 15 (-1)))), (dw, .inl (g 1, 2, .inl f_dw))]) [4, 0, 1, 5, 2, 3] (by decide) rfl
        refine lv_icmp_ge (tgt := 182) hx hb dX9_layTold_162 (by decide) (fun _ => ?_) (fun c9 => absurd (by first | decide | rfl) c9)
        refine lv_iconst (v := (-1)) hx hb dX9_layTold_182 (by decide) ?_
        refine va_iast hx hb hK hP hD hS 4 1 rfl rfl (k_in (i := 16) (n := 39) (by decide)) dX9_layTold_183 (fun H locs hP hD hS => ?_)
        have hP : va_P D vwCl [(y, .inr (9, fs_y)), (yt, .inl (g 1, 2, .inl f_yt)), (yc, .inl (g 1, 2, .inl f_yc)), (yr, .inl (g 1, 2, .inl f_yr)), (al, .inl (g 1, 39, .inl (upd (upd (upd (upd (upd (upd (upd (upd (upd (upd (upd (upd (upd (upd (upd (upd (upd (upd (upd (upd (upd (upd (upd (upd f_3 0 (-1)) 22 0) 29 0) 1 (-1)) 23 0) 30 0) 2 (-1)) 24 0) 31 0) 3 (-1)) 25 0) 32 0) 4 (-1)) 26 0) 33 0) 5 (-1)) 27 0) 34 0) 6 (-1)) 28 0) 35 0) 14 (-1)) 15 (-1)) 16 (-1)))), (dw, .inl (g 1, 2, .inl f_dw))] H := hP
        have hD : va_D A [(y, .inr (9, fs_y)), (yt, .inl (g 1, 2, .inl f_yt)), (yc, .inl (g 1, 2, .inl f_yc)), (yr, .inl (g 1, 2, .inl f_yr)), (al, .inl (g 1, 39, .inl (upd (upd (upd (upd (upd (upd (upd (upd (upd (upd (upd (upd (upd (upd (upd (upd (upd (upd (upd (upd (upd (upd (upd (upd f_3 0 (-1)) 22 0) 29 0) 1 (-1)) 23 0) 30 0) 2 (-1)) 24 0) 31 0) 3 (-1)) 25 0) 32 0) 4 (-1)) 26 0) 33 0) 5 (-1)) 27 0) 34 0) 6 (-1)) 28 0) 35 0) 14 (-1)) 15 (-1)) 16 (-1)))), (dw, .inl (g 1, 2, .inl f_dw))] := hD
        refine lv_iinc (v := 3) (lv' := [(1, .int 3), (2, .int 0), (0, .ref y)]) hx hb dX9_layTold_184 hl (k := 0) rfl (by decide) (by decide) rfl (fun ls hl => ?_)
        refine lv_goto (tgt := 143) hx hb dX9_layTold_187 (by decide) ?_
        refine lv_iload_n hx hb dX9_layTold_143 rfl (lv_at hl 0 rfl) ?_
        refine lv_bipush (v := 8) hx hb dX9_layTold_144 (by decide) ?_
        refine lv_icmp_ge (tgt := 190) hx hb dX9_layTold_146 (by decide) (fun c9 => absurd c9 (by first | decide | simp)) (fun _ => ?_)
        refine lv_aload_n hx hb dX9_layTold_149 rfl (lv_at hl 2 rfl) ?_
        refine va_get (D := D) (ci := 9) (v := .ref al) (C := RX9) (T := TX9) (N := 67) hx hb hts iX9_layTold_X9 hown hK hP 0 rfl rfl 45 (by decide) (hts (.fieldLink RX9 94 "CatLeasesModel" "all" "[I") (List.mem_of_getElem? (i := 1) rfl)) (fun _ h9 => h9) h_y_all dX9_layTold_150 ?_
        refine lv_bipush (v := 14) hx hb dX9_layTold_153 (by decide) ?_
        refine lv_iload_n hx hb dX9_layTold_155 rfl (lv_at hl 0 rfl) ?_
        refine lv_iadd hx hb dX9_layTold_156 ?_
        refine k_top (v := 17) (by decide) ?_
        refine lv_iload_n hx hb dX9_layTold_157 rfl (lv_at hl 0 rfl) ?_
        refine lv_aload_n hx hb dX9_layTold_158 rfl (lv_at hl 2 rfl) ?_
        refine k_goi (wr := [(yt, .inl (g 1, 2, .inl f_yt)), (yc, .inl (g 1, 2, .inl f_yc)), (al, .inl (g 1, 39, .inl (upd (upd (upd (upd (upd (upd (upd (upd (upd (upd (upd (upd (upd (upd (upd (upd (upd (upd (upd (upd (upd (upd (upd (upd f_3 0 (-1)) 22 0) 29 0) 1 (-1)) 23 0) 30 0) 2 (-1)) 24 0) 31 0) 3 (-1)) 25 0) 32 0) 4 (-1)) 26 0) 33 0) 5 (-1)) 27 0) 34 0) 6 (-1)) 28 0) 35 0) 14 (-1)) 15 (-1)) 16 (-1)))), (dw, .inl (g 1, 2, .inl f_dw))]) hP hD hS hA [0, 3] [1, 2, 4, 5] rfl rfl (by decide) (by decide) (va_runV (As := []) (rest := [.int 3, .int 17, .ref al]) ⟨hx, hb, hml, hown, hts⟩ (m_chambers l D g _ y yr fs_y f_yr h_y_rooms h_y_bank h_yr_at0) (cwV 0 hts gX9_layTold_X9_chambers rfl rfl rfl (by decide +kernel) ⟨Nat.le_of_ble_eq_true rfl, Nat.le_of_ble_eq_true rfl⟩) (k_preV hK (hP.sub [0, 3] rfl) (hD.sub [0, 3] (by decide) rfl) 9 0 rfl rfl) rfl rfl hl.1 rfl (lv_room (Nat.le_of_ble_eq_true rfl)) dX9_layTold_159 ⟨(Nat.le_of_ble_eq_true rfl), (Nat.le_of_ble_eq_true rfl)⟩) (fun r_30 u_31 H locs hw hP hD hS => ?_)
        rcases hw with ⟨rfl, rfl⟩
        have hP := hP.sub (ws' := [(y, .inr (9, fs_y)), (yt, .inl (g 1, 2, .inl f_yt)), (yc, .inl (g 1, 2, .inl f_yc)), (yr, .inl (g 1, 2, .inl f_yr)), (al, .inl (g 1, 39, .inl (upd (upd (upd (upd (upd (upd (upd (upd (upd (upd (upd (upd (upd (upd (upd (upd (upd (upd (upd (upd (upd (upd (upd (upd f_3 0 (-1)) 22 0) 29 0) 1 (-1)) 23 0) 30 0) 2 (-1)) 24 0) 31 0) 3 (-1)) 25 0) 32 0) 4 (-1)) 26 0) 33 0) 5 (-1)) 27 0) 34 0) 6 (-1)) 28 0) 35 0) 14 (-1)) 15 (-1)) 16 (-1)))), (dw, .inl (g 1, 2, .inl f_dw))]) [4, 0, 1, 5, 2, 3] rfl
        have hD := hD.sub (ws' := [(y, .inr (9, fs_y)), (yt, .inl (g 1, 2, .inl f_yt)), (yc, .inl (g 1, 2, .inl f_yc)), (yr, .inl (g 1, 2, .inl f_yr)), (al, .inl (g 1, 39, .inl (upd (upd (upd (upd (upd (upd (upd (upd (upd (upd (upd (upd (upd (upd (upd (upd (upd (upd (upd (upd (upd (upd (upd (upd f_3 0 (-1)) 22 0) 29 0) 1 (-1)) 23 0) 30 0) 2 (-1)) 24 0) 31 0) 3 (-1)) 25 0) 32 0) 4 (-1)) 26 0) 33 0) 5 (-1)) 27 0) 34 0) 6 (-1)) 28 0) 35 0) 14 (-1)) 15 (-1)) 16 (-1)))), (dw, .inl (g 1, 2, .inl f_dw))]) [4, 0, 1, 5, 2, 3] (by decide) rfl
        refine lv_icmp_ge (tgt := 182) hx hb dX9_layTold_162 (by decide) (fun _ => ?_) (fun c9 => absurd (by first | decide | rfl) c9)
        refine lv_iconst (v := (-1)) hx hb dX9_layTold_182 (by decide) ?_
        refine va_iast hx hb hK hP hD hS 4 1 rfl rfl (k_in (i := 17) (n := 39) (by decide)) dX9_layTold_183 (fun H locs hP hD hS => ?_)
        have hP : va_P D vwCl [(y, .inr (9, fs_y)), (yt, .inl (g 1, 2, .inl f_yt)), (yc, .inl (g 1, 2, .inl f_yc)), (yr, .inl (g 1, 2, .inl f_yr)), (al, .inl (g 1, 39, .inl (upd (upd (upd (upd (upd (upd (upd (upd (upd (upd (upd (upd (upd (upd (upd (upd (upd (upd (upd (upd (upd (upd (upd (upd (upd f_3 0 (-1)) 22 0) 29 0) 1 (-1)) 23 0) 30 0) 2 (-1)) 24 0) 31 0) 3 (-1)) 25 0) 32 0) 4 (-1)) 26 0) 33 0) 5 (-1)) 27 0) 34 0) 6 (-1)) 28 0) 35 0) 14 (-1)) 15 (-1)) 16 (-1)) 17 (-1)))), (dw, .inl (g 1, 2, .inl f_dw))] H := hP
        have hD : va_D A [(y, .inr (9, fs_y)), (yt, .inl (g 1, 2, .inl f_yt)), (yc, .inl (g 1, 2, .inl f_yc)), (yr, .inl (g 1, 2, .inl f_yr)), (al, .inl (g 1, 39, .inl (upd (upd (upd (upd (upd (upd (upd (upd (upd (upd (upd (upd (upd (upd (upd (upd (upd (upd (upd (upd (upd (upd (upd (upd (upd f_3 0 (-1)) 22 0) 29 0) 1 (-1)) 23 0) 30 0) 2 (-1)) 24 0) 31 0) 3 (-1)) 25 0) 32 0) 4 (-1)) 26 0) 33 0) 5 (-1)) 27 0) 34 0) 6 (-1)) 28 0) 35 0) 14 (-1)) 15 (-1)) 16 (-1)) 17 (-1)))), (dw, .inl (g 1, 2, .inl f_dw))] := hD
        refine lv_iinc (v := 4) (lv' := [(1, .int 4), (2, .int 0), (0, .ref y)]) hx hb dX9_layTold_184 hl (k := 0) rfl (by decide) (by decide) rfl (fun ls hl => ?_)
        refine lv_goto (tgt := 143) hx hb dX9_layTold_187 (by decide) ?_
        refine lv_iload_n hx hb dX9_layTold_143 rfl (lv_at hl 0 rfl) ?_
        refine lv_bipush (v := 8) hx hb dX9_layTold_144 (by decide) ?_
        refine lv_icmp_ge (tgt := 190) hx hb dX9_layTold_146 (by decide) (fun c9 => absurd c9 (by first | decide | simp)) (fun _ => ?_)
        refine lv_aload_n hx hb dX9_layTold_149 rfl (lv_at hl 2 rfl) ?_
        refine va_get (D := D) (ci := 9) (v := .ref al) (C := RX9) (T := TX9) (N := 67) hx hb hts iX9_layTold_X9 hown hK hP 0 rfl rfl 45 (by decide) (hts (.fieldLink RX9 94 "CatLeasesModel" "all" "[I") (List.mem_of_getElem? (i := 1) rfl)) (fun _ h9 => h9) h_y_all dX9_layTold_150 ?_
        refine lv_bipush (v := 14) hx hb dX9_layTold_153 (by decide) ?_
        refine lv_iload_n hx hb dX9_layTold_155 rfl (lv_at hl 0 rfl) ?_
        refine lv_iadd hx hb dX9_layTold_156 ?_
        refine k_top (v := 18) (by decide) ?_
        refine lv_iload_n hx hb dX9_layTold_157 rfl (lv_at hl 0 rfl) ?_
        refine lv_aload_n hx hb dX9_layTold_158 rfl (lv_at hl 2 rfl) ?_
        refine k_goi (wr := [(yt, .inl (g 1, 2, .inl f_yt)), (yc, .inl (g 1, 2, .inl f_yc)), (al, .inl (g 1, 39, .inl (upd (upd (upd (upd (upd (upd (upd (upd (upd (upd (upd (upd (upd (upd (upd (upd (upd (upd (upd (upd (upd (upd (upd (upd (upd f_3 0 (-1)) 22 0) 29 0) 1 (-1)) 23 0) 30 0) 2 (-1)) 24 0) 31 0) 3 (-1)) 25 0) 32 0) 4 (-1)) 26 0) 33 0) 5 (-1)) 27 0) 34 0) 6 (-1)) 28 0) 35 0) 14 (-1)) 15 (-1)) 16 (-1)) 17 (-1)))), (dw, .inl (g 1, 2, .inl f_dw))]) hP hD hS hA [0, 3] [1, 2, 4, 5] rfl rfl (by decide) (by decide) (va_runV (As := []) (rest := [.int 4, .int 18, .ref al]) ⟨hx, hb, hml, hown, hts⟩ (m_chambers l D g _ y yr fs_y f_yr h_y_rooms h_y_bank h_yr_at0) (cwV 0 hts gX9_layTold_X9_chambers rfl rfl rfl (by decide +kernel) ⟨Nat.le_of_ble_eq_true rfl, Nat.le_of_ble_eq_true rfl⟩) (k_preV hK (hP.sub [0, 3] rfl) (hD.sub [0, 3] (by decide) rfl) 9 0 rfl rfl) rfl rfl hl.1 rfl (lv_room (Nat.le_of_ble_eq_true rfl)) dX9_layTold_159 ⟨(Nat.le_of_ble_eq_true rfl), (Nat.le_of_ble_eq_true rfl)⟩) (fun r_32 u_33 H locs hw hP hD hS => ?_)
        rcases hw with ⟨rfl, rfl⟩
        have hP := hP.sub (ws' := [(y, .inr (9, fs_y)), (yt, .inl (g 1, 2, .inl f_yt)), (yc, .inl (g 1, 2, .inl f_yc)), (yr, .inl (g 1, 2, .inl f_yr)), (al, .inl (g 1, 39, .inl (upd (upd (upd (upd (upd (upd (upd (upd (upd (upd (upd (upd (upd (upd (upd (upd (upd (upd (upd (upd (upd (upd (upd (upd (upd f_3 0 (-1)) 22 0) 29 0) 1 (-1)) 23 0) 30 0) 2 (-1)) 24 0) 31 0) 3 (-1)) 25 0) 32 0) 4 (-1)) 26 0) 33 0) 5 (-1)) 27 0) 34 0) 6 (-1)) 28 0) 35 0) 14 (-1)) 15 (-1)) 16 (-1)) 17 (-1)))), (dw, .inl (g 1, 2, .inl f_dw))]) [4, 0, 1, 5, 2, 3] rfl
        have hD := hD.sub (ws' := [(y, .inr (9, fs_y)), (yt, .inl (g 1, 2, .inl f_yt)), (yc, .inl (g 1, 2, .inl f_yc)), (yr, .inl (g 1, 2, .inl f_yr)), (al, .inl (g 1, 39, .inl (upd (upd (upd (upd (upd (upd (upd (upd (upd (upd (upd (upd (upd (upd (upd (upd (upd (upd (upd (upd (upd (upd (upd (upd (upd f_3 0 (-1)) 22 0) 29 0) 1 (-1)) 23 0) 30 0) 2 (-1)) 24 0) 31 0) 3 (-1)) 25 0) 32 0) 4 (-1)) 26 0) 33 0) 5 (-1)) 27 0) 34 0) 6 (-1)) 28 0) 35 0) 14 (-1)) 15 (-1)) 16 (-1)) 17 (-1)))), (dw, .inl (g 1, 2, .inl f_dw))]) [4, 0, 1, 5, 2, 3] (by decide) rfl
        refine lv_icmp_ge (tgt := 182) hx hb dX9_layTold_162 (by decide) (fun _ => ?_) (fun c9 => absurd (by first | decide | rfl) c9)
        refine lv_iconst (v := (-1)) hx hb dX9_layTold_182 (by decide) ?_
        refine va_iast hx hb hK hP hD hS 4 1 rfl rfl (k_in (i := 18) (n := 39) (by decide)) dX9_layTold_183 (fun H locs hP hD hS => ?_)
        have hP : va_P D vwCl [(y, .inr (9, fs_y)), (yt, .inl (g 1, 2, .inl f_yt)), (yc, .inl (g 1, 2, .inl f_yc)), (yr, .inl (g 1, 2, .inl f_yr)), (al, .inl (g 1, 39, .inl (upd (upd (upd (upd (upd (upd (upd (upd (upd (upd (upd (upd (upd (upd (upd (upd (upd (upd (upd (upd (upd (upd (upd (upd (upd (upd f_3 0 (-1)) 22 0) 29 0) 1 (-1)) 23 0) 30 0) 2 (-1)) 24 0) 31 0) 3 (-1)) 25 0) 32 0) 4 (-1)) 26 0) 33 0) 5 (-1)) 27 0) 34 0) 6 (-1)) 28 0) 35 0) 14 (-1)) 15 (-1)) 16 (-1)) 17 (-1)) 18 (-1)))), (dw, .inl (g 1, 2, .inl f_dw))] H := hP
        have hD : va_D A [(y, .inr (9, fs_y)), (yt, .inl (g 1, 2, .inl f_yt)), (yc, .inl (g 1, 2, .inl f_yc)), (yr, .inl (g 1, 2, .inl f_yr)), (al, .inl (g 1, 39, .inl (upd (upd (upd (upd (upd (upd (upd (upd (upd (upd (upd (upd (upd (upd (upd (upd (upd (upd (upd (upd (upd (upd (upd (upd (upd (upd f_3 0 (-1)) 22 0) 29 0) 1 (-1)) 23 0) 30 0) 2 (-1)) 24 0) 31 0) 3 (-1)) 25 0) 32 0) 4 (-1)) 26 0) 33 0) 5 (-1)) 27 0) 34 0) 6 (-1)) 28 0) 35 0) 14 (-1)) 15 (-1)) 16 (-1)) 17 (-1)) 18 (-1)))), (dw, .inl (g 1, 2, .inl f_dw))] := hD
        refine lv_iinc (v := 5) (lv' := [(1, .int 5), (2, .int 0), (0, .ref y)]) hx hb dX9_layTold_184 hl (k := 0) rfl (by decide) (by decide) rfl (fun ls hl => ?_)
        refine lv_goto (tgt := 143) hx hb dX9_layTold_187 (by decide) ?_
        refine lv_iload_n hx hb dX9_layTold_143 rfl (lv_at hl 0 rfl) ?_
        refine lv_bipush (v := 8) hx hb dX9_layTold_144 (by decide) ?_
        refine lv_icmp_ge (tgt := 190) hx hb dX9_layTold_146 (by decide) (fun c9 => absurd c9 (by first | decide | simp)) (fun _ => ?_)
        refine lv_aload_n hx hb dX9_layTold_149 rfl (lv_at hl 2 rfl) ?_
        refine va_get (D := D) (ci := 9) (v := .ref al) (C := RX9) (T := TX9) (N := 67) hx hb hts iX9_layTold_X9 hown hK hP 0 rfl rfl 45 (by decide) (hts (.fieldLink RX9 94 "CatLeasesModel" "all" "[I") (List.mem_of_getElem? (i := 1) rfl)) (fun _ h9 => h9) h_y_all dX9_layTold_150 ?_
        refine lv_bipush (v := 14) hx hb dX9_layTold_153 (by decide) ?_
        refine lv_iload_n hx hb dX9_layTold_155 rfl (lv_at hl 0 rfl) ?_
        refine lv_iadd hx hb dX9_layTold_156 ?_
        refine k_top (v := 19) (by decide) ?_
        refine lv_iload_n hx hb dX9_layTold_157 rfl (lv_at hl 0 rfl) ?_
        refine lv_aload_n hx hb dX9_layTold_158 rfl (lv_at hl 2 rfl) ?_
        refine k_goi (wr := [(yt, .inl (g 1, 2, .inl f_yt)), (yc, .inl (g 1, 2, .inl f_yc)), (al, .inl (g 1, 39, .inl (upd (upd (upd (upd (upd (upd (upd (upd (upd (upd (upd (upd (upd (upd (upd (upd (upd (upd (upd (upd (upd (upd (upd (upd (upd (upd f_3 0 (-1)) 22 0) 29 0) 1 (-1)) 23 0) 30 0) 2 (-1)) 24 0) 31 0) 3 (-1)) 25 0) 32 0) 4 (-1)) 26 0) 33 0) 5 (-1)) 27 0) 34 0) 6 (-1)) 28 0) 35 0) 14 (-1)) 15 (-1)) 16 (-1)) 17 (-1)) 18 (-1)))), (dw, .inl (g 1, 2, .inl f_dw))]) hP hD hS hA [0, 3] [1, 2, 4, 5] rfl rfl (by decide) (by decide) (va_runV (As := []) (rest := [.int 5, .int 19, .ref al]) ⟨hx, hb, hml, hown, hts⟩ (m_chambers l D g _ y yr fs_y f_yr h_y_rooms h_y_bank h_yr_at0) (cwV 0 hts gX9_layTold_X9_chambers rfl rfl rfl (by decide +kernel) ⟨Nat.le_of_ble_eq_true rfl, Nat.le_of_ble_eq_true rfl⟩) (k_preV hK (hP.sub [0, 3] rfl) (hD.sub [0, 3] (by decide) rfl) 9 0 rfl rfl) rfl rfl hl.1 rfl (lv_room (Nat.le_of_ble_eq_true rfl)) dX9_layTold_159 ⟨(Nat.le_of_ble_eq_true rfl), (Nat.le_of_ble_eq_true rfl)⟩) (fun r_34 u_35 H locs hw hP hD hS => ?_)
        rcases hw with ⟨rfl, rfl⟩
        have hP := hP.sub (ws' := [(y, .inr (9, fs_y)), (yt, .inl (g 1, 2, .inl f_yt)), (yc, .inl (g 1, 2, .inl f_yc)), (yr, .inl (g 1, 2, .inl f_yr)), (al, .inl (g 1, 39, .inl (upd (upd (upd (upd (upd (upd (upd (upd (upd (upd (upd (upd (upd (upd (upd (upd (upd (upd (upd (upd (upd (upd (upd (upd (upd (upd f_3 0 (-1)) 22 0) 29 0) 1 (-1)) 23 0) 30 0) 2 (-1)) 24 0) 31 0) 3 (-1)) 25 0) 32 0) 4 (-1)) 26 0) 33 0) 5 (-1)) 27 0) 34 0) 6 (-1)) 28 0) 35 0) 14 (-1)) 15 (-1)) 16 (-1)) 17 (-1)) 18 (-1)))), (dw, .inl (g 1, 2, .inl f_dw))]) [4, 0, 1, 5, 2, 3] rfl
        have hD := hD.sub (ws' := [(y, .inr (9, fs_y)), (yt, .inl (g 1, 2, .inl f_yt)), (yc, .inl (g 1, 2, .inl f_yc)), (yr, .inl (g 1, 2, .inl f_yr)), (al, .inl (g 1, 39, .inl (upd (upd (upd (upd (upd (upd (upd (upd (upd (upd (upd (upd (upd (upd (upd (upd (upd (upd (upd (upd (upd (upd (upd (upd (upd (upd f_3 0 (-1)) 22 0) 29 0) 1 (-1)) 23 0) 30 0) 2 (-1)) 24 0) 31 0) 3 (-1)) 25 0) 32 0) 4 (-1)) 26 0) 33 0) 5 (-1)) 27 0) 34 0) 6 (-1)) 28 0) 35 0) 14 (-1)) 15 (-1)) 16 (-1)) 17 (-1)) 18 (-1)))), (dw, .inl (g 1, 2, .inl f_dw))]) [4, 0, 1, 5, 2, 3] (by decide) rfl
        refine lv_icmp_ge (tgt := 182) hx hb dX9_layTold_162 (by decide) (fun _ => ?_) (fun c9 => absurd (by first | decide | rfl) c9)
        refine lv_iconst (v := (-1)) hx hb dX9_layTold_182 (by decide) ?_
        refine va_iast hx hb hK hP hD hS 4 1 rfl rfl (k_in (i := 19) (n := 39) (by decide)) dX9_layTold_183 (fun H locs hP hD hS => ?_)
        have hP : va_P D vwCl [(y, .inr (9, fs_y)), (yt, .inl (g 1, 2, .inl f_yt)), (yc, .inl (g 1, 2, .inl f_yc)), (yr, .inl (g 1, 2, .inl f_yr)), (al, .inl (g 1, 39, .inl (upd (upd (upd (upd (upd (upd (upd (upd (upd (upd (upd (upd (upd (upd (upd (upd (upd (upd (upd (upd (upd (upd (upd (upd (upd (upd (upd f_3 0 (-1)) 22 0) 29 0) 1 (-1)) 23 0) 30 0) 2 (-1)) 24 0) 31 0) 3 (-1)) 25 0) 32 0) 4 (-1)) 26 0) 33 0) 5 (-1)) 27 0) 34 0) 6 (-1)) 28 0) 35 0) 14 (-1)) 15 (-1)) 16 (-1)) 17 (-1)) 18 (-1)) 19 (-1)))), (dw, .inl (g 1, 2, .inl f_dw))] H := hP
        have hD : va_D A [(y, .inr (9, fs_y)), (yt, .inl (g 1, 2, .inl f_yt)), (yc, .inl (g 1, 2, .inl f_yc)), (yr, .inl (g 1, 2, .inl f_yr)), (al, .inl (g 1, 39, .inl (upd (upd (upd (upd (upd (upd (upd (upd (upd (upd (upd (upd (upd (upd (upd (upd (upd (upd (upd (upd (upd (upd (upd (upd (upd (upd (upd f_3 0 (-1)) 22 0) 29 0) 1 (-1)) 23 0) 30 0) 2 (-1)) 24 0) 31 0) 3 (-1)) 25 0) 32 0) 4 (-1)) 26 0) 33 0) 5 (-1)) 27 0) 34 0) 6 (-1)) 28 0) 35 0) 14 (-1)) 15 (-1)) 16 (-1)) 17 (-1)) 18 (-1)) 19 (-1)))), (dw, .inl (g 1, 2, .inl f_dw))] := hD
        refine lv_iinc (v := 6) (lv' := [(1, .int 6), (2, .int 0), (0, .ref y)]) hx hb dX9_layTold_184 hl (k := 0) rfl (by decide) (by decide) rfl (fun ls hl => ?_)
        refine lv_goto (tgt := 143) hx hb dX9_layTold_187 (by decide) ?_
        refine lv_iload_n hx hb dX9_layTold_143 rfl (lv_at hl 0 rfl) ?_
        refine lv_bipush (v := 8) hx hb dX9_layTold_144 (by decide) ?_
        refine lv_icmp_ge (tgt := 190) hx hb dX9_layTold_146 (by decide) (fun c9 => absurd c9 (by first | decide | simp)) (fun _ => ?_)
        refine lv_aload_n hx hb dX9_layTold_149 rfl (lv_at hl 2 rfl) ?_
        refine va_get (D := D) (ci := 9) (v := .ref al) (C := RX9) (T := TX9) (N := 67) hx hb hts iX9_layTold_X9 hown hK hP 0 rfl rfl 45 (by decide) (hts (.fieldLink RX9 94 "CatLeasesModel" "all" "[I") (List.mem_of_getElem? (i := 1) rfl)) (fun _ h9 => h9) h_y_all dX9_layTold_150 ?_
        refine lv_bipush (v := 14) hx hb dX9_layTold_153 (by decide) ?_
        refine lv_iload_n hx hb dX9_layTold_155 rfl (lv_at hl 0 rfl) ?_
        refine lv_iadd hx hb dX9_layTold_156 ?_
        refine k_top (v := 20) (by decide) ?_
        refine lv_iload_n hx hb dX9_layTold_157 rfl (lv_at hl 0 rfl) ?_
        refine lv_aload_n hx hb dX9_layTold_158 rfl (lv_at hl 2 rfl) ?_
        refine k_goi (wr := [(yt, .inl (g 1, 2, .inl f_yt)), (yc, .inl (g 1, 2, .inl f_yc)), (al, .inl (g 1, 39, .inl (upd (upd (upd (upd (upd (upd (upd (upd (upd (upd (upd (upd (upd (upd (upd (upd (upd (upd (upd (upd (upd (upd (upd (upd (upd (upd (upd f_3 0 (-1)) 22 0) 29 0) 1 (-1)) 23 0) 30 0) 2 (-1)) 24 0) 31 0) 3 (-1)) 25 0) 32 0) 4 (-1)) 26 0) 33 0) 5 (-1)) 27 0) 34 0) 6 (-1)) 28 0) 35 0) 14 (-1)) 15 (-1)) 16 (-1)) 17 (-1)) 18 (-1)) 19 (-1)))), (dw, .inl (g 1, 2, .inl f_dw))]) hP hD hS hA [0, 3] [1, 2, 4, 5] rfl rfl (by decide) (by decide) (va_runV (As := []) (rest := [.int 6, .int 20, .ref al]) ⟨hx, hb, hml, hown, hts⟩ (m_chambers l D g _ y yr fs_y f_yr h_y_rooms h_y_bank h_yr_at0) (cwV 0 hts gX9_layTold_X9_chambers rfl rfl rfl (by decide +kernel) ⟨Nat.le_of_ble_eq_true rfl, Nat.le_of_ble_eq_true rfl⟩) (k_preV hK (hP.sub [0, 3] rfl) (hD.sub [0, 3] (by decide) rfl) 9 0 rfl rfl) rfl rfl hl.1 rfl (lv_room (Nat.le_of_ble_eq_true rfl)) dX9_layTold_159 ⟨(Nat.le_of_ble_eq_true rfl), (Nat.le_of_ble_eq_true rfl)⟩) (fun r_36 u_37 H locs hw hP hD hS => ?_)
        rcases hw with ⟨rfl, rfl⟩
        have hP := hP.sub (ws' := [(y, .inr (9, fs_y)), (yt, .inl (g 1, 2, .inl f_yt)), (yc, .inl (g 1, 2, .inl f_yc)), (yr, .inl (g 1, 2, .inl f_yr)), (al, .inl (g 1, 39, .inl (upd (upd (upd (upd (upd (upd (upd (upd (upd (upd (upd (upd (upd (upd (upd (upd (upd (upd (upd (upd (upd (upd (upd (upd (upd (upd (upd f_3 0 (-1)) 22 0) 29 0) 1 (-1)) 23 0) 30 0) 2 (-1)) 24 0) 31 0) 3 (-1)) 25 0) 32 0) 4 (-1)) 26 0) 33 0) 5 (-1)) 27 0) 34 0) 6 (-1)) 28 0) 35 0) 14 (-1)) 15 (-1)) 16 (-1)) 17 (-1)) 18 (-1)) 19 (-1)))), (dw, .inl (g 1, 2, .inl f_dw))]) [4, 0, 1, 5, 2, 3] rfl
        have hD := hD.sub (ws' := [(y, .inr (9, fs_y)), (yt, .inl (g 1, 2, .inl f_yt)), (yc, .inl (g 1, 2, .inl f_yc)), (yr, .inl (g 1, 2, .inl f_yr)), (al, .inl (g 1, 39, .inl (upd (upd (upd (upd (upd (upd (upd (upd (upd (upd (upd (upd (upd (upd (upd (upd (upd (upd (upd (upd (upd (upd (upd (upd (upd (upd (upd f_3 0 (-1)) 22 0) 29 0) 1 (-1)) 23 0) 30 0) 2 (-1)) 24 0) 31 0) 3 (-1)) 25 0) 32 0) 4 (-1)) 26 0) 33 0) 5 (-1)) 27 0) 34 0) 6 (-1)) 28 0) 35 0) 14 (-1)) 15 (-1)) 16 (-1)) 17 (-1)) 18 (-1)) 19 (-1)))), (dw, .inl (g 1, 2, .inl f_dw))]) [4, 0, 1, 5, 2, 3] (by decide) rfl
        refine lv_icmp_ge (tgt := 182) hx hb dX9_layTold_162 (by decide) (fun _ => ?_) (fun c9 => absurd (by first | decide | rfl) c9)
        refine lv_iconst (v := (-1)) hx hb dX9_layTold_182 (by decide) ?_
        refine va_iast hx hb hK hP hD hS 4 1 rfl rfl (k_in (i := 20) (n := 39) (by decide)) dX9_layTold_183 (fun H locs hP hD hS => ?_)
        have hP : va_P D vwCl [(y, .inr (9, fs_y)), (yt, .inl (g 1, 2, .inl f_yt)), (yc, .inl (g 1, 2, .inl f_yc)), (yr, .inl (g 1, 2, .inl f_yr)), (al, .inl (g 1, 39, .inl (upd (upd (upd (upd (upd (upd (upd (upd (upd (upd (upd (upd (upd (upd (upd (upd (upd (upd (upd (upd (upd (upd (upd (upd (upd (upd (upd (upd f_3 0 (-1)) 22 0) 29 0) 1 (-1)) 23 0) 30 0) 2 (-1)) 24 0) 31 0) 3 (-1)) 25 0) 32 0) 4 (-1)) 26 0) 33 0) 5 (-1)) 27 0) 34 0) 6 (-1)) 28 0) 35 0) 14 (-1)) 15 (-1)) 16 (-1)) 17 (-1)) 18 (-1)) 19 (-1)) 20 (-1)))), (dw, .inl (g 1, 2, .inl f_dw))] H := hP
        have hD : va_D A [(y, .inr (9, fs_y)), (yt, .inl (g 1, 2, .inl f_yt)), (yc, .inl (g 1, 2, .inl f_yc)), (yr, .inl (g 1, 2, .inl f_yr)), (al, .inl (g 1, 39, .inl (upd (upd (upd (upd (upd (upd (upd (upd (upd (upd (upd (upd (upd (upd (upd (upd (upd (upd (upd (upd (upd (upd (upd (upd (upd (upd (upd (upd f_3 0 (-1)) 22 0) 29 0) 1 (-1)) 23 0) 30 0) 2 (-1)) 24 0) 31 0) 3 (-1)) 25 0) 32 0) 4 (-1)) 26 0) 33 0) 5 (-1)) 27 0) 34 0) 6 (-1)) 28 0) 35 0) 14 (-1)) 15 (-1)) 16 (-1)) 17 (-1)) 18 (-1)) 19 (-1)) 20 (-1)))), (dw, .inl (g 1, 2, .inl f_dw))] := hD
        refine lv_iinc (v := 7) (lv' := [(1, .int 7), (2, .int 0), (0, .ref y)]) hx hb dX9_layTold_184 hl (k := 0) rfl (by decide) (by decide) rfl (fun ls hl => ?_)
        refine lv_goto (tgt := 143) hx hb dX9_layTold_187 (by decide) ?_
        refine lv_iload_n hx hb dX9_layTold_143 rfl (lv_at hl 0 rfl) ?_
        refine lv_bipush (v := 8) hx hb dX9_layTold_144 (by decide) ?_
        refine lv_icmp_ge (tgt := 190) hx hb dX9_layTold_146 (by decide) (fun c9 => absurd c9 (by first | decide | simp)) (fun _ => ?_)
        refine lv_aload_n hx hb dX9_layTold_149 rfl (lv_at hl 2 rfl) ?_
        refine va_get (D := D) (ci := 9) (v := .ref al) (C := RX9) (T := TX9) (N := 67) hx hb hts iX9_layTold_X9 hown hK hP 0 rfl rfl 45 (by decide) (hts (.fieldLink RX9 94 "CatLeasesModel" "all" "[I") (List.mem_of_getElem? (i := 1) rfl)) (fun _ h9 => h9) h_y_all dX9_layTold_150 ?_
        refine lv_bipush (v := 14) hx hb dX9_layTold_153 (by decide) ?_
        refine lv_iload_n hx hb dX9_layTold_155 rfl (lv_at hl 0 rfl) ?_
        refine lv_iadd hx hb dX9_layTold_156 ?_
        refine k_top (v := 21) (by decide) ?_
        refine lv_iload_n hx hb dX9_layTold_157 rfl (lv_at hl 0 rfl) ?_
        refine lv_aload_n hx hb dX9_layTold_158 rfl (lv_at hl 2 rfl) ?_
        refine k_goi (wr := [(yt, .inl (g 1, 2, .inl f_yt)), (yc, .inl (g 1, 2, .inl f_yc)), (al, .inl (g 1, 39, .inl (upd (upd (upd (upd (upd (upd (upd (upd (upd (upd (upd (upd (upd (upd (upd (upd (upd (upd (upd (upd (upd (upd (upd (upd (upd (upd (upd (upd f_3 0 (-1)) 22 0) 29 0) 1 (-1)) 23 0) 30 0) 2 (-1)) 24 0) 31 0) 3 (-1)) 25 0) 32 0) 4 (-1)) 26 0) 33 0) 5 (-1)) 27 0) 34 0) 6 (-1)) 28 0) 35 0) 14 (-1)) 15 (-1)) 16 (-1)) 17 (-1)) 18 (-1)) 19 (-1)) 20 (-1)))), (dw, .inl (g 1, 2, .inl f_dw))]) hP hD hS hA [0, 3] [1, 2, 4, 5] rfl rfl (by decide) (by decide) (va_runV (As := []) (rest := [.int 7, .int 21, .ref al]) ⟨hx, hb, hml, hown, hts⟩ (m_chambers l D g _ y yr fs_y f_yr h_y_rooms h_y_bank h_yr_at0) (cwV 0 hts gX9_layTold_X9_chambers rfl rfl rfl (by decide +kernel) ⟨Nat.le_of_ble_eq_true rfl, Nat.le_of_ble_eq_true rfl⟩) (k_preV hK (hP.sub [0, 3] rfl) (hD.sub [0, 3] (by decide) rfl) 9 0 rfl rfl) rfl rfl hl.1 rfl (lv_room (Nat.le_of_ble_eq_true rfl)) dX9_layTold_159 ⟨(Nat.le_of_ble_eq_true rfl), (Nat.le_of_ble_eq_true rfl)⟩) (fun r_38 u_39 H locs hw hP hD hS => ?_)
        rcases hw with ⟨rfl, rfl⟩
        have hP := hP.sub (ws' := [(y, .inr (9, fs_y)), (yt, .inl (g 1, 2, .inl f_yt)), (yc, .inl (g 1, 2, .inl f_yc)), (yr, .inl (g 1, 2, .inl f_yr)), (al, .inl (g 1, 39, .inl (upd (upd (upd (upd (upd (upd (upd (upd (upd (upd (upd (upd (upd (upd (upd (upd (upd (upd (upd (upd (upd (upd (upd (upd (upd (upd (upd (upd f_3 0 (-1)) 22 0) 29 0) 1 (-1)) 23 0) 30 0) 2 (-1)) 24 0) 31 0) 3 (-1)) 25 0) 32 0) 4 (-1)) 26 0) 33 0) 5 (-1)) 27 0) 34 0) 6 (-1)) 28 0) 35 0) 14 (-1)) 15 (-1)) 16 (-1)) 17 (-1)) 18 (-1)) 19 (-1)) 20 (-1)))), (dw, .inl (g 1, 2, .inl f_dw))]) [4, 0, 1, 5, 2, 3] rfl
        have hD := hD.sub (ws' := [(y, .inr (9, fs_y)), (yt, .inl (g 1, 2, .inl f_yt)), (yc, .inl (g 1, 2, .inl f_yc)), (yr, .inl (g 1, 2, .inl f_yr)), (al, .inl (g 1, 39, .inl (upd (upd (upd (upd (upd (upd (upd (upd (upd (upd (upd (upd (upd (upd (upd (upd (upd (upd (upd (upd (upd (upd (upd (upd (upd (upd (upd (upd f_3 0 (-1)) 22 0) 29 0) 1 (-1)) 23 0) 30 0) 2 (-1)) 24 0) 31 0) 3 (-1)) 25 0) 32 0) 4 (-1)) 26 0) 33 0) 5 (-1)) 27 0) 34 0) 6 (-1)) 28 0) 35 0) 14 (-1)) 15 (-1)) 16 (-1)) 17 (-1)) 18 (-1)) 19 (-1)) 20 (-1)))), (dw, .inl (g 1, 2, .inl f_dw))]) [4, 0, 1, 5, 2, 3] (by decide) rfl
        refine lv_icmp_ge (tgt := 182) hx hb dX9_layTold_162 (by decide) (fun _ => ?_) (fun c9 => absurd (by first | decide | rfl) c9)
        refine lv_iconst (v := (-1)) hx hb dX9_layTold_182 (by decide) ?_
        refine va_iast hx hb hK hP hD hS 4 1 rfl rfl (k_in (i := 21) (n := 39) (by decide)) dX9_layTold_183 (fun H locs hP hD hS => ?_)
        have hP : va_P D vwCl [(y, .inr (9, fs_y)), (yt, .inl (g 1, 2, .inl f_yt)), (yc, .inl (g 1, 2, .inl f_yc)), (yr, .inl (g 1, 2, .inl f_yr)), (al, .inl (g 1, 39, .inl (upd (upd (upd (upd (upd (upd (upd (upd (upd (upd (upd (upd (upd (upd (upd (upd (upd (upd (upd (upd (upd (upd (upd (upd (upd (upd (upd (upd (upd f_3 0 (-1)) 22 0) 29 0) 1 (-1)) 23 0) 30 0) 2 (-1)) 24 0) 31 0) 3 (-1)) 25 0) 32 0) 4 (-1)) 26 0) 33 0) 5 (-1)) 27 0) 34 0) 6 (-1)) 28 0) 35 0) 14 (-1)) 15 (-1)) 16 (-1)) 17 (-1)) 18 (-1)) 19 (-1)) 20 (-1)) 21 (-1)))), (dw, .inl (g 1, 2, .inl f_dw))] H := hP
        have hD : va_D A [(y, .inr (9, fs_y)), (yt, .inl (g 1, 2, .inl f_yt)), (yc, .inl (g 1, 2, .inl f_yc)), (yr, .inl (g 1, 2, .inl f_yr)), (al, .inl (g 1, 39, .inl (upd (upd (upd (upd (upd (upd (upd (upd (upd (upd (upd (upd (upd (upd (upd (upd (upd (upd (upd (upd (upd (upd (upd (upd (upd (upd (upd (upd (upd f_3 0 (-1)) 22 0) 29 0) 1 (-1)) 23 0) 30 0) 2 (-1)) 24 0) 31 0) 3 (-1)) 25 0) 32 0) 4 (-1)) 26 0) 33 0) 5 (-1)) 27 0) 34 0) 6 (-1)) 28 0) 35 0) 14 (-1)) 15 (-1)) 16 (-1)) 17 (-1)) 18 (-1)) 19 (-1)) 20 (-1)) 21 (-1)))), (dw, .inl (g 1, 2, .inl f_dw))] := hD
        refine lv_iinc (v := 8) (lv' := [(1, .int 8), (2, .int 0), (0, .ref y)]) hx hb dX9_layTold_184 hl (k := 0) rfl (by decide) (by decide) rfl (fun ls hl => ?_)
        refine lv_goto (tgt := 143) hx hb dX9_layTold_187 (by decide) ?_
        refine lv_iload_n hx hb dX9_layTold_143 rfl (lv_at hl 0 rfl) ?_
        refine lv_bipush (v := 8) hx hb dX9_layTold_144 (by decide) ?_
        refine lv_icmp_ge (tgt := 190) hx hb dX9_layTold_146 (by decide) (fun _ => ?_) (fun c9 => absurd (by first | decide | rfl) c9)
        refine lv_aload_n hx hb dX9_layTold_190 rfl (lv_at hl 2 rfl) ?_
        refine va_get (D := D) (ci := 9) (v := .ref al) (C := RX9) (T := TX9) (N := 67) hx hb hts iX9_layTold_X9 hown hK hP 0 rfl rfl 45 (by decide) (hts (.fieldLink RX9 94 "CatLeasesModel" "all" "[I") (List.mem_of_getElem? (i := 1) rfl)) (fun _ h9 => h9) h_y_all dX9_layTold_191 ?_
        refine lv_bipush (v := 36) hx hb dX9_layTold_194 (by decide) ?_
        refine lv_iconst (v := 1) hx hb dX9_layTold_196 (by decide) ?_
        refine lv_aload_n hx hb dX9_layTold_197 rfl (lv_at hl 2 rfl) ?_
        refine k_goi (wr := [(yt, .inl (g 1, 2, .inl f_yt)), (yr, .inl (g 1, 2, .inl f_yr)), (al, .inl (g 1, 39, .inl (upd (upd (upd (upd (upd (upd (upd (upd (upd (upd (upd (upd (upd (upd (upd (upd (upd (upd (upd (upd (upd (upd (upd (upd (upd (upd (upd (upd (upd f_3 0 (-1)) 22 0) 29 0) 1 (-1)) 23 0) 30 0) 2 (-1)) 24 0) 31 0) 3 (-1)) 25 0) 32 0) 4 (-1)) 26 0) 33 0) 5 (-1)) 27 0) 34 0) 6 (-1)) 28 0) 35 0) 14 (-1)) 15 (-1)) 16 (-1)) 17 (-1)) 18 (-1)) 19 (-1)) 20 (-1)) 21 (-1)))), (dw, .inl (g 1, 2, .inl f_dw))]) hP hD hS hA [0, 2] [1, 3, 4, 5] rfl rfl (by decide) (by decide) (va_runV (As := []) (rest := [.int 1, .int 36, .ref al]) ⟨hx, hb, hml, hown, hts⟩ (m_cattery l D g _ y yc fs_y f_yc h_y_cats h_y_bank h_yc_at0) (cwV 0 hts gX9_layTold_X9_cattery rfl rfl rfl (by decide +kernel) ⟨Nat.le_of_ble_eq_true rfl, Nat.le_of_ble_eq_true rfl⟩) (k_preV hK (hP.sub [0, 2] rfl) (hD.sub [0, 2] (by decide) rfl) 9 0 rfl rfl) rfl rfl hl.1 rfl (lv_room (Nat.le_of_ble_eq_true rfl)) dX9_layTold_198 ⟨(Nat.le_of_ble_eq_true rfl), (Nat.le_of_ble_eq_true rfl)⟩) (fun r_40 u_41 H locs hw hP hD hS => ?_)
        rcases hw with ⟨rfl, rfl⟩
        have hP := hP.sub (ws' := [(y, .inr (9, fs_y)), (yt, .inl (g 1, 2, .inl f_yt)), (yc, .inl (g 1, 2, .inl f_yc)), (yr, .inl (g 1, 2, .inl f_yr)), (al, .inl (g 1, 39, .inl (upd (upd (upd (upd (upd (upd (upd (upd (upd (upd (upd (upd (upd (upd (upd (upd (upd (upd (upd (upd (upd (upd (upd (upd (upd (upd (upd (upd (upd f_3 0 (-1)) 22 0) 29 0) 1 (-1)) 23 0) 30 0) 2 (-1)) 24 0) 31 0) 3 (-1)) 25 0) 32 0) 4 (-1)) 26 0) 33 0) 5 (-1)) 27 0) 34 0) 6 (-1)) 28 0) 35 0) 14 (-1)) 15 (-1)) 16 (-1)) 17 (-1)) 18 (-1)) 19 (-1)) 20 (-1)) 21 (-1)))), (dw, .inl (g 1, 2, .inl f_dw))]) [4, 0, 5, 1, 2, 3] rfl
        have hD := hD.sub (ws' := [(y, .inr (9, fs_y)), (yt, .inl (g 1, 2, .inl f_yt)), (yc, .inl (g 1, 2, .inl f_yc)), (yr, .inl (g 1, 2, .inl f_yr)), (al, .inl (g 1, 39, .inl (upd (upd (upd (upd (upd (upd (upd (upd (upd (upd (upd (upd (upd (upd (upd (upd (upd (upd (upd (upd (upd (upd (upd (upd (upd (upd (upd (upd (upd f_3 0 (-1)) 22 0) 29 0) 1 (-1)) 23 0) 30 0) 2 (-1)) 24 0) 31 0) 3 (-1)) 25 0) 32 0) 4 (-1)) 26 0) 33 0) 5 (-1)) 27 0) 34 0) 6 (-1)) 28 0) 35 0) 14 (-1)) 15 (-1)) 16 (-1)) 17 (-1)) 18 (-1)) 19 (-1)) 20 (-1)) 21 (-1)))), (dw, .inl (g 1, 2, .inl f_dw))]) [4, 0, 5, 1, 2, 3] (by decide) rfl
        refine lv_ishl hx hb dX9_layTold_201 ?_
        refine k_top (v := 1) (by decide) ?_
        refine lv_iconst (v := 1) hx hb dX9_layTold_202 (by decide) ?_
        refine lv_isub hx hb dX9_layTold_203 ?_
        refine k_top (v := 0) (by decide) ?_
        refine va_iast hx hb hK hP hD hS 4 1 rfl rfl (k_in (i := 36) (n := 39) (by decide)) dX9_layTold_204 (fun H locs hP hD hS => ?_)
        have hP : va_P D vwCl [(y, .inr (9, fs_y)), (yt, .inl (g 1, 2, .inl f_yt)), (yc, .inl (g 1, 2, .inl f_yc)), (yr, .inl (g 1, 2, .inl f_yr)), (al, .inl (g 1, 39, .inl (upd (upd (upd (upd (upd (upd (upd (upd (upd (upd (upd (upd (upd (upd (upd (upd (upd (upd (upd (upd (upd (upd (upd (upd (upd (upd (upd (upd (upd (upd f_3 0 (-1)) 22 0) 29 0) 1 (-1)) 23 0) 30 0) 2 (-1)) 24 0) 31 0) 3 (-1)) 25 0) 32 0) 4 (-1)) 26 0) 33 0) 5 (-1)) 27 0) 34 0) 6 (-1)) 28 0) 35 0) 14 (-1)) 15 (-1)) 16 (-1)) 17 (-1)) 18 (-1)) 19 (-1)) 20 (-1)) 21 (-1)) 36 0))), (dw, .inl (g 1, 2, .inl f_dw))] H := hP
        have hD : va_D A [(y, .inr (9, fs_y)), (yt, .inl (g 1, 2, .inl f_yt)), (yc, .inl (g 1, 2, .inl f_yc)), (yr, .inl (g 1, 2, .inl f_yr)), (al, .inl (g 1, 39, .inl (upd (upd (upd (upd (upd (upd (upd (upd (upd (upd (upd (upd (upd (upd (upd (upd (upd (upd (upd (upd (upd (upd (upd (upd (upd (upd (upd (upd (upd (upd f_3 0 (-1)) 22 0) 29 0) 1 (-1)) 23 0) 30 0) 2 (-1)) 24 0) 31 0) 3 (-1)) 25 0) 32 0) 4 (-1)) 26 0) 33 0) 5 (-1)) 27 0) 34 0) 6 (-1)) 28 0) 35 0) 14 (-1)) 15 (-1)) 16 (-1)) 17 (-1)) 18 (-1)) 19 (-1)) 20 (-1)) 21 (-1)) 36 0))), (dw, .inl (g 1, 2, .inl f_dw))] := hD
        refine lv_aload_n hx hb dX9_layTold_205 rfl (lv_at hl 2 rfl) ?_
        refine va_get (D := D) (ci := 9) (v := .ref al) (C := RX9) (T := TX9) (N := 67) hx hb hts iX9_layTold_X9 hown hK hP 0 rfl rfl 45 (by decide) (hts (.fieldLink RX9 94 "CatLeasesModel" "all" "[I") (List.mem_of_getElem? (i := 1) rfl)) (fun _ h9 => h9) h_y_all dX9_layTold_206 ?_
        refine lv_bipush (v := 38) hx hb dX9_layTold_209 (by decide) ?_
        refine lv_aload_n hx hb dX9_layTold_211 rfl (lv_at hl 2 rfl) ?_
        refine va_get (D := D) (ci := 9) (v := .ref dw) (C := RX9) (T := TX9) (N := 67) hx hb hts iX9_layTold_X9 hown hK hP 0 rfl rfl 16 (by decide) (hts (.fieldLink RX9 36 "CatLeasesModel" "draw" "[I") (List.mem_of_getElem? (i := 7) rfl)) (fun _ h9 => h9) h_y_draw dX9_layTold_212 ?_
        refine lv_aload_n hx hb dX9_layTold_215 rfl (lv_at hl 2 rfl) ?_
        refine va_get (D := D) (ci := 9) (v := .int 0) (C := RX9) (T := TX9) (N := 67) hx hb hts iX9_layTold_X9 hown hK hP 0 rfl rfl 35 (by decide) (hts (.fieldLink RX9 268 "CatLeasesModel" "bank" "I") (List.mem_of_getElem? (i := 3) rfl)) (fun _ h9 => h9) h_y_bank dX9_layTold_216 ?_
        refine va_iald hx hb hK hP 5 1 rfl rfl (k_in (i := 0) (n := 2) (by decide)) dX9_layTold_219 ?_
        refine k_top (v := 0) h_dw_at0 ?_
        refine va_iast hx hb hK hP hD hS 4 1 rfl rfl (k_in (i := 38) (n := 39) (by decide)) dX9_layTold_220 (fun H locs hP hD hS => ?_)
        have hP : va_P D vwCl [(y, .inr (9, fs_y)), (yt, .inl (g 1, 2, .inl f_yt)), (yc, .inl (g 1, 2, .inl f_yc)), (yr, .inl (g 1, 2, .inl f_yr)), (al, .inl (g 1, 39, .inl (upd (upd (upd (upd (upd (upd (upd (upd (upd (upd (upd (upd (upd (upd (upd (upd (upd (upd (upd (upd (upd (upd (upd (upd (upd (upd (upd (upd (upd (upd (upd f_3 0 (-1)) 22 0) 29 0) 1 (-1)) 23 0) 30 0) 2 (-1)) 24 0) 31 0) 3 (-1)) 25 0) 32 0) 4 (-1)) 26 0) 33 0) 5 (-1)) 27 0) 34 0) 6 (-1)) 28 0) 35 0) 14 (-1)) 15 (-1)) 16 (-1)) 17 (-1)) 18 (-1)) 19 (-1)) 20 (-1)) 21 (-1)) 36 0) 38 0))), (dw, .inl (g 1, 2, .inl f_dw))] H := hP
        have hD : va_D A [(y, .inr (9, fs_y)), (yt, .inl (g 1, 2, .inl f_yt)), (yc, .inl (g 1, 2, .inl f_yc)), (yr, .inl (g 1, 2, .inl f_yr)), (al, .inl (g 1, 39, .inl (upd (upd (upd (upd (upd (upd (upd (upd (upd (upd (upd (upd (upd (upd (upd (upd (upd (upd (upd (upd (upd (upd (upd (upd (upd (upd (upd (upd (upd (upd (upd f_3 0 (-1)) 22 0) 29 0) 1 (-1)) 23 0) 30 0) 2 (-1)) 24 0) 31 0) 3 (-1)) 25 0) 32 0) 4 (-1)) 26 0) 33 0) 5 (-1)) 27 0) 34 0) 6 (-1)) 28 0) 35 0) 14 (-1)) 15 (-1)) 16 (-1)) 17 (-1)) 18 (-1)) 19 (-1)) 20 (-1)) 21 (-1)) 36 0) 38 0))), (dw, .inl (g 1, 2, .inl f_dw))] := hD
        rw [hQ]
        exact k_vret hx hb hr hlocks hK hP hD hS ⟨(upd (upd (upd (upd (upd (upd (upd (upd (upd (upd (upd (upd (upd (upd (upd (upd (upd (upd (upd (upd (upd (upd (upd (upd (upd (upd (upd (upd (upd (upd (upd f_3 0 (-1)) 22 0) 29 0) 1 (-1)) 23 0) 30 0) 2 (-1)) 24 0) 31 0) 3 (-1)) 25 0) 32 0) 4 (-1)) 26 0) 33 0) 5 (-1)) 27 0) 34 0) 6 (-1)) 28 0) 35 0) 14 (-1)) 15 (-1)) 16 (-1)) 17 (-1)) 18 (-1)) 19 (-1)) 20 (-1)) 21 (-1)) 36 0) 38 0), rfl, ((pk_un (by decide)).trans ((pk_un (by decide)).trans ((pk_un (by decide)).trans ((pk_un (by decide)).trans ((pk_un (by decide)).trans ((pk_un (by decide)).trans ((pk_un (by decide)).trans ((pk_un (by decide)).trans ((pk_un (by decide)).trans ((pk_un (by decide)).trans ((pk_un (by decide)).trans ((pk_un (by decide)).trans ((pk_un (by decide)).trans ((pk_un (by decide)).trans ((pk_un (by decide)).trans ((pk_un (by decide)).trans ((pk_un (by decide)).trans ((pk_un (by decide)).trans ((pk_un (by decide)).trans ((pk_un (by decide)).trans ((pk_un (by decide)).trans ((pk_un (by decide)).trans ((pk_un (by decide)).trans ((pk_un (by decide)).trans ((pk_un (by decide)).trans ((pk_un (by decide)).trans ((pk_un (by decide)).trans ((pk_un (by decide)).trans ((pk_un (by decide)).trans ((pk_un (by decide)).trans ((pk_un (by decide)).trans (v_6 37 (by decide))))))))))))))))))))))))))))))))), rfl, rfl⟩ dX9_layTold_221
      · have h_9 : i_1 < 39 := k_ge2 (N := 39) rfl h_4 (by first | decide | omega) c_8
        refine lv_aload_n hx hb dX9_layTold_8 rfl (lv_at hl 1 rfl) ?_
        refine va_get (D := D) (ci := 9) (v := .ref al) (C := RX9) (T := TX9) (N := 67) hx hb hts iX9_layTold_X9 hown hK hP 0 rfl rfl 45 (by decide) (hts (.fieldLink RX9 94 "CatLeasesModel" "all" "[I") (List.mem_of_getElem? (i := 1) rfl)) (fun _ h9 => h9) h_y_all dX9_layTold_9 ?_
        refine lv_iload_n hx hb dX9_layTold_12 rfl (lv_at hl 0 rfl) ?_
        refine lv_iconst (v := 0) hx hb dX9_layTold_13 (by decide) ?_
        refine va_iast hx hb hK hP hD hS 4 1 rfl rfl (vp_in_nI (n := i_1) (N := 39) (by omega) (by decide)) dX9_layTold_14 (fun H locs hP hD hS => ?_)
        rw [nI_clamp (n := i_1) (by omega)] at hP hD
        have hP : va_P D vwCl [(y, .inr (9, fs_y)), (yt, .inl (g 1, 2, .inl f_yt)), (yc, .inl (g 1, 2, .inl f_yc)), (yr, .inl (g 1, 2, .inl f_yr)), (al, .inl (g 1, 39, .inl (upd f_3 i_1 0))), (dw, .inl (g 1, 2, .inl f_dw))] H := hP
        have hD : va_D A [(y, .inr (9, fs_y)), (yt, .inl (g 1, 2, .inl f_yt)), (yc, .inl (g 1, 2, .inl f_yc)), (yr, .inl (g 1, 2, .inl f_yr)), (al, .inl (g 1, 39, .inl (upd f_3 i_1 0))), (dw, .inl (g 1, 2, .inl f_dw))] := hD
        refine lv_iinc (v := nI (i_1 + 1)) (lv' := [(1, .int (nI (i_1 + 1))), (0, .ref y)]) hx hb dX9_layTold_15 hl (k := 0) rfl (k_inc i_1) (by decide) rfl (fun ls hl => ?_)
        refine lv_goto (tgt := 2) hx hb dX9_layTold_18 (by decide) ?_
        exact ih (i_1 + 1) (upd f_3 i_1 0) (by omega) (by omega) (fun j hj => (Classical.em (j = i_1)).elim (fun h => by rw [h]; exact pk_us) (fun h => (pk_un h).trans (v_6 j (by omega)))) _ _ _ hP hD hS (lv_sub hl [0, 1] rfl)
  exact hloop_7 (39 + 1) 0 f_al (by omega) (by omega) (fun j hj => absurd hj (Nat.not_lt_zero j)) _ _ _ hP hD hS hl
set_option maxHeartbeats 4000000 in
set_option maxRecDepth 100000 in
theorem m_startAnew0 (l : Launch) (D : va_G) (g : Nat → ClassId) (sz : Nat) (y : Nat) (yt : Nat) (yc : Nat) (yr : Nat) (al : Nat) (dw : Nat) (ib : Nat) (fs_y : List Value) (v_y_acts : Value) (v_y_undone : Value) (v_y_laid : Value) (v_y_seens : Value) (f_yt : Nat → Int32) (f_yc : Nat → Int32) (f_yr : Nat → Int32) (f_al : Nat → Int32) (f_dw : Nat → Int32) (f_ib : Nat → Int32) (h_y_cats : fs_y[11]? = some (.ref yc)) (h_y_rooms : fs_y[12]? = some (.ref yr)) (h_y_tenants : fs_y[13]? = some (.ref yt)) (h_y_draw : fs_y[16]? = some (.ref dw)) (h_y_bank : fs_y[35]? = some (.int 0)) (h_y_all : fs_y[45]? = some (.ref al)) (h_y_acts : fs_y[50]? = some (v_y_acts)) (h_y_undone : fs_y[51]? = some (v_y_undone)) (h_y_laid : fs_y[54]? = some (v_y_laid)) (h_y_seens : fs_y[63]? = some (v_y_seens)) (h_y_isBoxed : fs_y[66]? = some (.ref ib)) (h_yt_at0 : f_yt 0 = 0) (h_yc_at0 : f_yc 0 = 0) (h_yr_at0 : f_yr 0 = 0) (h_dw_at0 : f_dw 0 = 0) : Met l yX9_startAnew wsX9_startAnew ({ frames := 2, cells := 0, slots := 0, locals := 42 }) (va_Pc [.ref y] (kPre D g [(y, .inr (9, fs_y)), (yt, .inl (g 1, 2, .inl f_yt)), (yc, .inl (g 1, 2, .inl f_yc)), (yr, .inl (g 1, 2, .inl f_yr)), (al, .inl (g 1, 39, .inl f_al)), (dw, .inl (g 1, 2, .inl f_dw)), (ib, .inl (g 3, 3, .inl f_ib))] sz)) (kQv D g (fun (u : va_W) => ∃ (fe_al : Nat → Int32) (fe_ib : Nat → Int32), (fe_al 36 = 0) ∧ (fe_al 37 = 0) ∧ (fe_al 38 = 0) ∧ (fe_ib 0 = 0) ∧ (fe_ib 1 = 0) ∧ (fe_ib 2 = 0) ∧ u = [(y, .inr (9, ((((fs_y.set 50 (.int 0)).set 51 (.int 0)).set 63 (.int 0)).set 54 (.int 0)))), (yt, .inl (g 1, 2, .inl f_yt)), (yc, .inl (g 1, 2, .inl f_yc)), (yr, .inl (g 1, 2, .inl f_yr)), (al, .inl (g 1, 39, .inl fe_al)), (dw, .inl (g 1, 2, .inl f_dw)), (ib, .inl (g 3, 3, .inl fe_ib))]) (va_A [(y, .inr (9, fs_y)), (yt, .inl (g 1, 2, .inl f_yt)), (yc, .inl (g 1, 2, .inl f_yc)), (yr, .inl (g 1, 2, .inl f_yr)), (al, .inl (g 1, 39, .inl f_al)), (dw, .inl (g 1, 2, .inl f_dw)), (ib, .inl (g 3, 3, .inl f_ib))] sz)) 0 0 (va_A [(y, .inr (9, fs_y)), (yt, .inl (g 1, 2, .inl f_yt)), (yc, .inl (g 1, 2, .inl f_yc)), (yr, .inl (g 1, 2, .inl f_yr)), (al, .inl (g 1, 39, .inl f_al)), (dw, .inl (g 1, 2, .inl f_dw)), (ib, .inl (g 3, 3, .inl f_ib))] sz) := by
  refine k_head (cc := cX9_startAnew) (maxL := 2) (ret := none) (by decide) rfl (Nat.le_of_ble_eq_true rfl) ?_
  intro p e s m below meth c ls A hx hb hr hlocks hml hown hin hts hA hP hK hD hS hl
  have hown : s.vm.findClass RX9 = some m.cls := hown
  have hl : lv_has ls 2 [(0, .ref y)] := hl
  refine lv_aload_n hx hb dX9_startAnew_0 rfl (lv_at hl 0 rfl) ?_
  refine k_gov (wr := [(ib, .inl (g 3, 3, .inl f_ib))]) hP hD hS hA [0, 1, 2, 3, 4, 5] [6] rfl rfl (by decide) (by decide) (va_runV (As := []) (rest := []) ⟨hx, hb, hml, hown, hts⟩ (m_layTold0 l D g _ y yt yc yr al dw fs_y f_yt f_yc f_yr f_al f_dw h_y_cats h_y_rooms h_y_tenants h_y_draw h_y_bank h_y_all h_yt_at0 h_yc_at0 h_yr_at0 h_dw_at0) (cwV 0 hts gX9_startAnew_X9_layTold rfl rfl rfl (by decide +kernel) ⟨Nat.le_of_ble_eq_true rfl, Nat.le_of_ble_eq_true rfl⟩) (k_preV hK (hP.sub [0, 1, 2, 3, 4, 5] rfl) (hD.sub [0, 1, 2, 3, 4, 5] (by decide) rfl) 9 0 rfl rfl) rfl rfl hl.1 rfl (lv_room (Nat.le_of_ble_eq_true rfl)) dX9_startAnew_1 ⟨(Nat.le_of_ble_eq_true rfl), (Nat.le_of_ble_eq_true rfl)⟩) (fun u_2 H locs hw hP hD hS => ?_)
  rcases hw with ⟨f_3, c_4, c_5, c_6, rfl⟩
  have hP := hP.sub (ws' := [(y, .inr (9, fs_y)), (yt, .inl (g 1, 2, .inl f_yt)), (yc, .inl (g 1, 2, .inl f_yc)), (yr, .inl (g 1, 2, .inl f_yr)), (al, .inl (g 1, 39, .inl f_3)), (dw, .inl (g 1, 2, .inl f_dw)), (ib, .inl (g 3, 3, .inl f_ib))]) [1, 2, 3, 4, 5, 6, 0] rfl
  have hD := hD.sub (ws' := [(y, .inr (9, fs_y)), (yt, .inl (g 1, 2, .inl f_yt)), (yc, .inl (g 1, 2, .inl f_yc)), (yr, .inl (g 1, 2, .inl f_yr)), (al, .inl (g 1, 39, .inl f_3)), (dw, .inl (g 1, 2, .inl f_dw)), (ib, .inl (g 3, 3, .inl f_ib))]) [1, 2, 3, 4, 5, 6, 0] (by decide) rfl
  refine lv_aload_n hx hb dX9_startAnew_4 rfl (lv_at hl 0 rfl) ?_
  refine lv_iconst (v := 0) hx hb dX9_startAnew_5 (by decide) ?_
  refine va_put (D := D) (ci := 9) (v := .int 0) (ty := .int) (C := RX9) (T := TX9) (N := 67) hx hb hts iX9_startAnew_X9 tyX9 tyX9_ok nmX9 hown hK hP hD hS 0 rfl rfl 50 (by decide) (hts (.fieldLink RX9 398 "CatLeasesModel" "acts" "I") (List.mem_of_getElem? (i := 1) rfl)) (fun _ h9 => h9) rfl (by decide +kernel) rfl rfl ((k_len h_y_acts)) dX9_startAnew_6 (fun H locs hP hD hS => ?_)
  have hP : va_P D vwCl [(y, .inr (9, (fs_y.set 50 (.int 0)))), (yt, .inl (g 1, 2, .inl f_yt)), (yc, .inl (g 1, 2, .inl f_yc)), (yr, .inl (g 1, 2, .inl f_yr)), (al, .inl (g 1, 39, .inl f_3)), (dw, .inl (g 1, 2, .inl f_dw)), (ib, .inl (g 3, 3, .inl f_ib))] H := hP
  have hD : va_D A [(y, .inr (9, (fs_y.set 50 (.int 0)))), (yt, .inl (g 1, 2, .inl f_yt)), (yc, .inl (g 1, 2, .inl f_yc)), (yr, .inl (g 1, 2, .inl f_yr)), (al, .inl (g 1, 39, .inl f_3)), (dw, .inl (g 1, 2, .inl f_dw)), (ib, .inl (g 3, 3, .inl f_ib))] := hD
  refine lv_aload_n hx hb dX9_startAnew_9 rfl (lv_at hl 0 rfl) ?_
  refine lv_iconst (v := 0) hx hb dX9_startAnew_10 (by decide) ?_
  refine va_put (D := D) (ci := 9) (v := .int 0) (ty := .int) (C := RX9) (T := TX9) (N := 67) hx hb hts iX9_startAnew_X9 tyX9 tyX9_ok nmX9 hown hK hP hD hS 0 rfl rfl 51 (by decide) (hts (.fieldLink RX9 401 "CatLeasesModel" "undone" "I") (List.mem_of_getElem? (i := 2) rfl)) (fun _ h9 => h9) rfl (by decide +kernel) rfl rfl ((k_len (k_sn (by decide) h_y_undone))) dX9_startAnew_11 (fun H locs hP hD hS => ?_)
  have hP : va_P D vwCl [(y, .inr (9, ((fs_y.set 50 (.int 0)).set 51 (.int 0)))), (yt, .inl (g 1, 2, .inl f_yt)), (yc, .inl (g 1, 2, .inl f_yc)), (yr, .inl (g 1, 2, .inl f_yr)), (al, .inl (g 1, 39, .inl f_3)), (dw, .inl (g 1, 2, .inl f_dw)), (ib, .inl (g 3, 3, .inl f_ib))] H := hP
  have hD : va_D A [(y, .inr (9, ((fs_y.set 50 (.int 0)).set 51 (.int 0)))), (yt, .inl (g 1, 2, .inl f_yt)), (yc, .inl (g 1, 2, .inl f_yc)), (yr, .inl (g 1, 2, .inl f_yr)), (al, .inl (g 1, 39, .inl f_3)), (dw, .inl (g 1, 2, .inl f_dw)), (ib, .inl (g 3, 3, .inl f_ib))] := hD
  refine lv_aload_n hx hb dX9_startAnew_14 rfl (lv_at hl 0 rfl) ?_
  refine lv_iconst (v := 0) hx hb dX9_startAnew_15 (by decide) ?_
  refine va_put (D := D) (ci := 9) (v := .int 0) (ty := .int) (C := RX9) (T := TX9) (N := 67) hx hb hts iX9_startAnew_X9 tyX9 tyX9_ok nmX9 hown hK hP hD hS 0 rfl rfl 63 (by decide) (hts (.fieldLink RX9 404 "CatLeasesModel" "seens" "I") (List.mem_of_getElem? (i := 3) rfl)) (fun _ h9 => h9) rfl (by decide +kernel) rfl rfl ((k_len (k_sn (by decide) (k_sn (by decide) h_y_seens)))) dX9_startAnew_16 (fun H locs hP hD hS => ?_)
  have hP : va_P D vwCl [(y, .inr (9, (((fs_y.set 50 (.int 0)).set 51 (.int 0)).set 63 (.int 0)))), (yt, .inl (g 1, 2, .inl f_yt)), (yc, .inl (g 1, 2, .inl f_yc)), (yr, .inl (g 1, 2, .inl f_yr)), (al, .inl (g 1, 39, .inl f_3)), (dw, .inl (g 1, 2, .inl f_dw)), (ib, .inl (g 3, 3, .inl f_ib))] H := hP
  have hD : va_D A [(y, .inr (9, (((fs_y.set 50 (.int 0)).set 51 (.int 0)).set 63 (.int 0)))), (yt, .inl (g 1, 2, .inl f_yt)), (yc, .inl (g 1, 2, .inl f_yc)), (yr, .inl (g 1, 2, .inl f_yr)), (al, .inl (g 1, 39, .inl f_3)), (dw, .inl (g 1, 2, .inl f_dw)), (ib, .inl (g 3, 3, .inl f_ib))] := hD
  refine lv_aload_n hx hb dX9_startAnew_19 rfl (lv_at hl 0 rfl) ?_
  refine lv_iconst (v := 0) hx hb dX9_startAnew_20 (by decide) ?_
  refine va_put (D := D) (ci := 9) (v := .int 0) (ty := .int) (C := RX9) (T := TX9) (N := 67) hx hb hts iX9_startAnew_X9 tyX9 tyX9_ok nmX9 hown hK hP hD hS 0 rfl rfl 54 (by decide) (hts (.fieldLink RX9 407 "CatLeasesModel" "laid" "I") (List.mem_of_getElem? (i := 4) rfl)) (fun _ h9 => h9) rfl (by decide +kernel) rfl rfl ((k_len (k_sn (by decide) (k_sn (by decide) (k_sn (by decide) h_y_laid))))) dX9_startAnew_21 (fun H locs hP hD hS => ?_)
  have hP : va_P D vwCl [(y, .inr (9, ((((fs_y.set 50 (.int 0)).set 51 (.int 0)).set 63 (.int 0)).set 54 (.int 0)))), (yt, .inl (g 1, 2, .inl f_yt)), (yc, .inl (g 1, 2, .inl f_yc)), (yr, .inl (g 1, 2, .inl f_yr)), (al, .inl (g 1, 39, .inl f_3)), (dw, .inl (g 1, 2, .inl f_dw)), (ib, .inl (g 3, 3, .inl f_ib))] H := hP
  have hD : va_D A [(y, .inr (9, ((((fs_y.set 50 (.int 0)).set 51 (.int 0)).set 63 (.int 0)).set 54 (.int 0)))), (yt, .inl (g 1, 2, .inl f_yt)), (yc, .inl (g 1, 2, .inl f_yc)), (yr, .inl (g 1, 2, .inl f_yr)), (al, .inl (g 1, 39, .inl f_3)), (dw, .inl (g 1, 2, .inl f_dw)), (ib, .inl (g 3, 3, .inl f_ib))] := hD
  refine lv_iconst (v := 0) hx hb dX9_startAnew_24 (by decide) ?_
  refine lv_istore_n (lv' := [(1, .int 0), (0, .ref y)]) hx hb dX9_startAnew_25 rfl hl (by decide) rfl (fun ls hl => ?_)
  refine lv_iload_n hx hb dX9_startAnew_26 rfl (lv_at hl 0 rfl) ?_
  refine lv_iconst (v := 3) hx hb dX9_startAnew_27 (by decide) ?_
  refine lv_icmp_ge (tgt := 44) hx hb dX9_startAnew_28 (by decide) (fun c9 => absurd c9 (by first | decide | simp)) (fun _ => ?_)
  refine lv_aload_n hx hb dX9_startAnew_31 rfl (lv_at hl 1 rfl) ?_
  refine va_get (D := D) (ci := 9) (v := .ref ib) (C := RX9) (T := TX9) (N := 67) hx hb hts iX9_startAnew_X9 hown hK hP 0 rfl rfl 66 (by decide) (hts (.fieldLink RX9 142 "CatLeasesModel" "isBoxed" "[Z") (List.mem_of_getElem? (i := 5) rfl)) (fun _ h9 => h9) (k_sn (by decide) (k_sn (by decide) (k_sn (by decide) (k_sn (by decide) h_y_isBoxed)))) dX9_startAnew_32 ?_
  refine lv_iload_n hx hb dX9_startAnew_35 rfl (lv_at hl 0 rfl) ?_
  refine lv_iconst (v := 0) hx hb dX9_startAnew_36 (by decide) ?_
  refine va_zast hx hb hK hP hD hS 6 3 rfl rfl (k_in (i := 0) (n := 3) (by decide)) dX9_startAnew_37 (fun H locs hP hD hS => ?_)
  have hP : va_P D vwCl [(y, .inr (9, ((((fs_y.set 50 (.int 0)).set 51 (.int 0)).set 63 (.int 0)).set 54 (.int 0)))), (yt, .inl (g 1, 2, .inl f_yt)), (yc, .inl (g 1, 2, .inl f_yc)), (yr, .inl (g 1, 2, .inl f_yr)), (al, .inl (g 1, 39, .inl f_3)), (dw, .inl (g 1, 2, .inl f_dw)), (ib, .inl (g 3, 3, .inl (upd f_ib 0 0)))] H := hP
  have hD : va_D A [(y, .inr (9, ((((fs_y.set 50 (.int 0)).set 51 (.int 0)).set 63 (.int 0)).set 54 (.int 0)))), (yt, .inl (g 1, 2, .inl f_yt)), (yc, .inl (g 1, 2, .inl f_yc)), (yr, .inl (g 1, 2, .inl f_yr)), (al, .inl (g 1, 39, .inl f_3)), (dw, .inl (g 1, 2, .inl f_dw)), (ib, .inl (g 3, 3, .inl (upd f_ib 0 0)))] := hD
  refine lv_iinc (v := 1) (lv' := [(1, .int 1), (0, .ref y)]) hx hb dX9_startAnew_38 hl (k := 0) rfl (by decide) (by decide) rfl (fun ls hl => ?_)
  refine lv_goto (tgt := 26) hx hb dX9_startAnew_41 (by decide) ?_
  refine lv_iload_n hx hb dX9_startAnew_26 rfl (lv_at hl 0 rfl) ?_
  refine lv_iconst (v := 3) hx hb dX9_startAnew_27 (by decide) ?_
  refine lv_icmp_ge (tgt := 44) hx hb dX9_startAnew_28 (by decide) (fun c9 => absurd c9 (by first | decide | simp)) (fun _ => ?_)
  refine lv_aload_n hx hb dX9_startAnew_31 rfl (lv_at hl 1 rfl) ?_
  refine va_get (D := D) (ci := 9) (v := .ref ib) (C := RX9) (T := TX9) (N := 67) hx hb hts iX9_startAnew_X9 hown hK hP 0 rfl rfl 66 (by decide) (hts (.fieldLink RX9 142 "CatLeasesModel" "isBoxed" "[Z") (List.mem_of_getElem? (i := 5) rfl)) (fun _ h9 => h9) (k_sn (by decide) (k_sn (by decide) (k_sn (by decide) (k_sn (by decide) h_y_isBoxed)))) dX9_startAnew_32 ?_
  refine lv_iload_n hx hb dX9_startAnew_35 rfl (lv_at hl 0 rfl) ?_
  refine lv_iconst (v := 0) hx hb dX9_startAnew_36 (by decide) ?_
  refine va_zast hx hb hK hP hD hS 6 3 rfl rfl (k_in (i := 1) (n := 3) (by decide)) dX9_startAnew_37 (fun H locs hP hD hS => ?_)
  have hP : va_P D vwCl [(y, .inr (9, ((((fs_y.set 50 (.int 0)).set 51 (.int 0)).set 63 (.int 0)).set 54 (.int 0)))), (yt, .inl (g 1, 2, .inl f_yt)), (yc, .inl (g 1, 2, .inl f_yc)), (yr, .inl (g 1, 2, .inl f_yr)), (al, .inl (g 1, 39, .inl f_3)), (dw, .inl (g 1, 2, .inl f_dw)), (ib, .inl (g 3, 3, .inl (upd (upd f_ib 0 0) 1 0)))] H := hP
  have hD : va_D A [(y, .inr (9, ((((fs_y.set 50 (.int 0)).set 51 (.int 0)).set 63 (.int 0)).set 54 (.int 0)))), (yt, .inl (g 1, 2, .inl f_yt)), (yc, .inl (g 1, 2, .inl f_yc)), (yr, .inl (g 1, 2, .inl f_yr)), (al, .inl (g 1, 39, .inl f_3)), (dw, .inl (g 1, 2, .inl f_dw)), (ib, .inl (g 3, 3, .inl (upd (upd f_ib 0 0) 1 0)))] := hD
  refine lv_iinc (v := 2) (lv' := [(1, .int 2), (0, .ref y)]) hx hb dX9_startAnew_38 hl (k := 0) rfl (by decide) (by decide) rfl (fun ls hl => ?_)
  refine lv_goto (tgt := 26) hx hb dX9_startAnew_41 (by decide) ?_
  refine lv_iload_n hx hb dX9_startAnew_26 rfl (lv_at hl 0 rfl) ?_
  refine lv_iconst (v := 3) hx hb dX9_startAnew_27 (by decide) ?_
  refine lv_icmp_ge (tgt := 44) hx hb dX9_startAnew_28 (by decide) (fun c9 => absurd c9 (by first | decide | simp)) (fun _ => ?_)
  refine lv_aload_n hx hb dX9_startAnew_31 rfl (lv_at hl 1 rfl) ?_
  refine va_get (D := D) (ci := 9) (v := .ref ib) (C := RX9) (T := TX9) (N := 67) hx hb hts iX9_startAnew_X9 hown hK hP 0 rfl rfl 66 (by decide) (hts (.fieldLink RX9 142 "CatLeasesModel" "isBoxed" "[Z") (List.mem_of_getElem? (i := 5) rfl)) (fun _ h9 => h9) (k_sn (by decide) (k_sn (by decide) (k_sn (by decide) (k_sn (by decide) h_y_isBoxed)))) dX9_startAnew_32 ?_
  refine lv_iload_n hx hb dX9_startAnew_35 rfl (lv_at hl 0 rfl) ?_
  refine lv_iconst (v := 0) hx hb dX9_startAnew_36 (by decide) ?_
  refine va_zast hx hb hK hP hD hS 6 3 rfl rfl (k_in (i := 2) (n := 3) (by decide)) dX9_startAnew_37 (fun H locs hP hD hS => ?_)
  have hP : va_P D vwCl [(y, .inr (9, ((((fs_y.set 50 (.int 0)).set 51 (.int 0)).set 63 (.int 0)).set 54 (.int 0)))), (yt, .inl (g 1, 2, .inl f_yt)), (yc, .inl (g 1, 2, .inl f_yc)), (yr, .inl (g 1, 2, .inl f_yr)), (al, .inl (g 1, 39, .inl f_3)), (dw, .inl (g 1, 2, .inl f_dw)), (ib, .inl (g 3, 3, .inl (upd (upd (upd f_ib 0 0) 1 0) 2 0)))] H := hP
  have hD : va_D A [(y, .inr (9, ((((fs_y.set 50 (.int 0)).set 51 (.int 0)).set 63 (.int 0)).set 54 (.int 0)))), (yt, .inl (g 1, 2, .inl f_yt)), (yc, .inl (g 1, 2, .inl f_yc)), (yr, .inl (g 1, 2, .inl f_yr)), (al, .inl (g 1, 39, .inl f_3)), (dw, .inl (g 1, 2, .inl f_dw)), (ib, .inl (g 3, 3, .inl (upd (upd (upd f_ib 0 0) 1 0) 2 0)))] := hD
  refine lv_iinc (v := 3) (lv' := [(1, .int 3), (0, .ref y)]) hx hb dX9_startAnew_38 hl (k := 0) rfl (by decide) (by decide) rfl (fun ls hl => ?_)
  refine lv_goto (tgt := 26) hx hb dX9_startAnew_41 (by decide) ?_
  refine lv_iload_n hx hb dX9_startAnew_26 rfl (lv_at hl 0 rfl) ?_
  refine lv_iconst (v := 3) hx hb dX9_startAnew_27 (by decide) ?_
  refine lv_icmp_ge (tgt := 44) hx hb dX9_startAnew_28 (by decide) (fun _ => ?_) (fun c9 => absurd (by first | decide | rfl) c9)
  exact k_vret hx hb hr hlocks hK hP hD hS ⟨f_3, (upd (upd (upd f_ib 0 0) 1 0) 2 0), c_4, c_5, c_6, rfl, rfl, rfl, rfl⟩ dX9_startAnew_44
set_option maxHeartbeats 4000000 in
set_option maxRecDepth 100000 in
theorem m_clearBank0 (l : Launch) (D : va_G) (g : Nat → ClassId) (sz : Nat) (y : Nat) (yca : Nat) (yro : Nat) (yte : Nat) (yun : Nat) (ydi : Nat) (ydr : Nat) (yto : Nat) (fs_y : List Value) (v_y_codes : Value) (f_yca : Nat → Int32) (f_yro : Nat → Int32) (f_yte : Nat → Int32) (f_yun : Nat → Int32) (f_ydi : Nat → Int32) (f_ydr : Nat → Int32) (f_yto : Nat → Int32) (h_y_cats : fs_y[11]? = some (.ref yca)) (h_y_rooms : fs_y[12]? = some (.ref yro)) (h_y_tenants : fs_y[13]? = some (.ref yte)) (h_y_units : fs_y[14]? = some (.ref yun)) (h_y_dies : fs_y[15]? = some (.ref ydi)) (h_y_draw : fs_y[16]? = some (.ref ydr)) (h_y_told : fs_y[17]? = some (.ref yto)) (h_y_rb : fs_y[36]? = some (.int 0)) (h_y_codes : fs_y[37]? = some (v_y_codes)) : Met l yX9_clearBank wsX9_clearBank ({ frames := 0, cells := 0, slots := 0, locals := 0 }) (va_Pc [.ref y] (kPre D g [(y, .inr (9, fs_y)), (yca, .inl (g 1, 2, .inl f_yca)), (yro, .inl (g 1, 2, .inl f_yro)), (yte, .inl (g 1, 2, .inl f_yte)), (yun, .inl (g 1, 2, .inl f_yun)), (ydi, .inl (g 1, 2, .inl f_ydi)), (ydr, .inl (g 1, 2, .inl f_ydr)), (yto, .inl (g 1, 2, .inl f_yto))] sz)) (kQv D g (fun (u : va_W) => ∃ (fe_yca : Nat → Int32) (fe_yro : Nat → Int32) (fe_yte : Nat → Int32) (fe_yun : Nat → Int32) (fe_ydi : Nat → Int32) (fe_ydr : Nat → Int32) (fe_yto : Nat → Int32), (fe_yca 0 = 0) ∧ (fe_yro 0 = 0) ∧ (fe_yte 0 = 0) ∧ (fe_yun 0 = 0) ∧ (fe_ydi 0 = 0) ∧ (fe_ydr 0 = 0) ∧ (fe_yto 0 = 0) ∧ u = [(y, .inr (9, (fs_y.set 37 (.int 0)))), (yca, .inl (g 1, 2, .inl fe_yca)), (yro, .inl (g 1, 2, .inl fe_yro)), (yte, .inl (g 1, 2, .inl fe_yte)), (yun, .inl (g 1, 2, .inl fe_yun)), (ydi, .inl (g 1, 2, .inl fe_ydi)), (ydr, .inl (g 1, 2, .inl fe_ydr)), (yto, .inl (g 1, 2, .inl fe_yto))]) (va_A [(y, .inr (9, fs_y)), (yca, .inl (g 1, 2, .inl f_yca)), (yro, .inl (g 1, 2, .inl f_yro)), (yte, .inl (g 1, 2, .inl f_yte)), (yun, .inl (g 1, 2, .inl f_yun)), (ydi, .inl (g 1, 2, .inl f_ydi)), (ydr, .inl (g 1, 2, .inl f_ydr)), (yto, .inl (g 1, 2, .inl f_yto))] sz)) 0 0 (va_A [(y, .inr (9, fs_y)), (yca, .inl (g 1, 2, .inl f_yca)), (yro, .inl (g 1, 2, .inl f_yro)), (yte, .inl (g 1, 2, .inl f_yte)), (yun, .inl (g 1, 2, .inl f_yun)), (ydi, .inl (g 1, 2, .inl f_ydi)), (ydr, .inl (g 1, 2, .inl f_ydr)), (yto, .inl (g 1, 2, .inl f_yto))] sz) := by
  refine k_head (cc := cX9_clearBank) (maxL := 1) (ret := none) (by decide) rfl (Nat.le_of_ble_eq_true rfl) ?_
  intro p e s m below meth c ls A hx hb hr hlocks hml hown hin hts hA hP hK hD hS hl
  have hown : s.vm.findClass RX9 = some m.cls := hown
  have hl : lv_has ls 1 [(0, .ref y)] := hl
  refine lv_aload_n hx hb dX9_clearBank_0 rfl (lv_at hl 0 rfl) ?_
  refine va_get (D := D) (ci := 9) (v := .ref yca) (C := RX9) (T := TX9) (N := 67) hx hb hts iX9_clearBank_X9 hown hK hP 0 rfl rfl 11 (by decide) (hts (.fieldLink RX9 20 "CatLeasesModel" "cats" "[I") (List.mem_of_getElem? (i := 1) rfl)) (fun _ h9 => h9) h_y_cats dX9_clearBank_1 ?_
  refine lv_aload_n hx hb dX9_clearBank_4 rfl (lv_at hl 0 rfl) ?_
  refine va_get (D := D) (ci := 9) (v := .int 0) (C := RX9) (T := TX9) (N := 67) hx hb hts iX9_clearBank_X9 hown hK hP 0 rfl rfl 36 (by decide) (hts (.fieldLink RX9 259 "CatLeasesModel" "rb" "I") (List.mem_of_getElem? (i := 2) rfl)) (fun _ h9 => h9) h_y_rb dX9_clearBank_5 ?_
  refine lv_iconst (v := 0) hx hb dX9_clearBank_8 (by decide) ?_
  refine va_iast hx hb hK hP hD hS 1 1 rfl rfl (k_in (i := 0) (n := 2) (by decide)) dX9_clearBank_9 (fun H locs hP hD hS => ?_)
  have hP : va_P D vwCl [(y, .inr (9, fs_y)), (yca, .inl (g 1, 2, .inl (upd f_yca 0 0))), (yro, .inl (g 1, 2, .inl f_yro)), (yte, .inl (g 1, 2, .inl f_yte)), (yun, .inl (g 1, 2, .inl f_yun)), (ydi, .inl (g 1, 2, .inl f_ydi)), (ydr, .inl (g 1, 2, .inl f_ydr)), (yto, .inl (g 1, 2, .inl f_yto))] H := hP
  have hD : va_D A [(y, .inr (9, fs_y)), (yca, .inl (g 1, 2, .inl (upd f_yca 0 0))), (yro, .inl (g 1, 2, .inl f_yro)), (yte, .inl (g 1, 2, .inl f_yte)), (yun, .inl (g 1, 2, .inl f_yun)), (ydi, .inl (g 1, 2, .inl f_ydi)), (ydr, .inl (g 1, 2, .inl f_ydr)), (yto, .inl (g 1, 2, .inl f_yto))] := hD
  refine lv_aload_n hx hb dX9_clearBank_10 rfl (lv_at hl 0 rfl) ?_
  refine va_get (D := D) (ci := 9) (v := .ref yro) (C := RX9) (T := TX9) (N := 67) hx hb hts iX9_clearBank_X9 hown hK hP 0 rfl rfl 12 (by decide) (hts (.fieldLink RX9 24 "CatLeasesModel" "rooms" "[I") (List.mem_of_getElem? (i := 3) rfl)) (fun _ h9 => h9) h_y_rooms dX9_clearBank_11 ?_
  refine lv_aload_n hx hb dX9_clearBank_14 rfl (lv_at hl 0 rfl) ?_
  refine va_get (D := D) (ci := 9) (v := .int 0) (C := RX9) (T := TX9) (N := 67) hx hb hts iX9_clearBank_X9 hown hK hP 0 rfl rfl 36 (by decide) (hts (.fieldLink RX9 259 "CatLeasesModel" "rb" "I") (List.mem_of_getElem? (i := 2) rfl)) (fun _ h9 => h9) h_y_rb dX9_clearBank_15 ?_
  refine lv_iconst (v := 0) hx hb dX9_clearBank_18 (by decide) ?_
  refine va_iast hx hb hK hP hD hS 2 1 rfl rfl (k_in (i := 0) (n := 2) (by decide)) dX9_clearBank_19 (fun H locs hP hD hS => ?_)
  have hP : va_P D vwCl [(y, .inr (9, fs_y)), (yca, .inl (g 1, 2, .inl (upd f_yca 0 0))), (yro, .inl (g 1, 2, .inl (upd f_yro 0 0))), (yte, .inl (g 1, 2, .inl f_yte)), (yun, .inl (g 1, 2, .inl f_yun)), (ydi, .inl (g 1, 2, .inl f_ydi)), (ydr, .inl (g 1, 2, .inl f_ydr)), (yto, .inl (g 1, 2, .inl f_yto))] H := hP
  have hD : va_D A [(y, .inr (9, fs_y)), (yca, .inl (g 1, 2, .inl (upd f_yca 0 0))), (yro, .inl (g 1, 2, .inl (upd f_yro 0 0))), (yte, .inl (g 1, 2, .inl f_yte)), (yun, .inl (g 1, 2, .inl f_yun)), (ydi, .inl (g 1, 2, .inl f_ydi)), (ydr, .inl (g 1, 2, .inl f_ydr)), (yto, .inl (g 1, 2, .inl f_yto))] := hD
  refine lv_aload_n hx hb dX9_clearBank_20 rfl (lv_at hl 0 rfl) ?_
  refine va_get (D := D) (ci := 9) (v := .ref yte) (C := RX9) (T := TX9) (N := 67) hx hb hts iX9_clearBank_X9 hown hK hP 0 rfl rfl 13 (by decide) (hts (.fieldLink RX9 27 "CatLeasesModel" "tenants" "[I") (List.mem_of_getElem? (i := 4) rfl)) (fun _ h9 => h9) h_y_tenants dX9_clearBank_21 ?_
  refine lv_aload_n hx hb dX9_clearBank_24 rfl (lv_at hl 0 rfl) ?_
  refine va_get (D := D) (ci := 9) (v := .int 0) (C := RX9) (T := TX9) (N := 67) hx hb hts iX9_clearBank_X9 hown hK hP 0 rfl rfl 36 (by decide) (hts (.fieldLink RX9 259 "CatLeasesModel" "rb" "I") (List.mem_of_getElem? (i := 2) rfl)) (fun _ h9 => h9) h_y_rb dX9_clearBank_25 ?_
  refine lv_iconst (v := 0) hx hb dX9_clearBank_28 (by decide) ?_
  refine va_iast hx hb hK hP hD hS 3 1 rfl rfl (k_in (i := 0) (n := 2) (by decide)) dX9_clearBank_29 (fun H locs hP hD hS => ?_)
  have hP : va_P D vwCl [(y, .inr (9, fs_y)), (yca, .inl (g 1, 2, .inl (upd f_yca 0 0))), (yro, .inl (g 1, 2, .inl (upd f_yro 0 0))), (yte, .inl (g 1, 2, .inl (upd f_yte 0 0))), (yun, .inl (g 1, 2, .inl f_yun)), (ydi, .inl (g 1, 2, .inl f_ydi)), (ydr, .inl (g 1, 2, .inl f_ydr)), (yto, .inl (g 1, 2, .inl f_yto))] H := hP
  have hD : va_D A [(y, .inr (9, fs_y)), (yca, .inl (g 1, 2, .inl (upd f_yca 0 0))), (yro, .inl (g 1, 2, .inl (upd f_yro 0 0))), (yte, .inl (g 1, 2, .inl (upd f_yte 0 0))), (yun, .inl (g 1, 2, .inl f_yun)), (ydi, .inl (g 1, 2, .inl f_ydi)), (ydr, .inl (g 1, 2, .inl f_ydr)), (yto, .inl (g 1, 2, .inl f_yto))] := hD
  refine lv_aload_n hx hb dX9_clearBank_30 rfl (lv_at hl 0 rfl) ?_
  refine va_get (D := D) (ci := 9) (v := .ref yun) (C := RX9) (T := TX9) (N := 67) hx hb hts iX9_clearBank_X9 hown hK hP 0 rfl rfl 14 (by decide) (hts (.fieldLink RX9 30 "CatLeasesModel" "units" "[I") (List.mem_of_getElem? (i := 5) rfl)) (fun _ h9 => h9) h_y_units dX9_clearBank_31 ?_
  refine lv_aload_n hx hb dX9_clearBank_34 rfl (lv_at hl 0 rfl) ?_
  refine va_get (D := D) (ci := 9) (v := .int 0) (C := RX9) (T := TX9) (N := 67) hx hb hts iX9_clearBank_X9 hown hK hP 0 rfl rfl 36 (by decide) (hts (.fieldLink RX9 259 "CatLeasesModel" "rb" "I") (List.mem_of_getElem? (i := 2) rfl)) (fun _ h9 => h9) h_y_rb dX9_clearBank_35 ?_
  refine lv_iconst (v := 0) hx hb dX9_clearBank_38 (by decide) ?_
  refine va_iast hx hb hK hP hD hS 4 1 rfl rfl (k_in (i := 0) (n := 2) (by decide)) dX9_clearBank_39 (fun H locs hP hD hS => ?_)
  have hP : va_P D vwCl [(y, .inr (9, fs_y)), (yca, .inl (g 1, 2, .inl (upd f_yca 0 0))), (yro, .inl (g 1, 2, .inl (upd f_yro 0 0))), (yte, .inl (g 1, 2, .inl (upd f_yte 0 0))), (yun, .inl (g 1, 2, .inl (upd f_yun 0 0))), (ydi, .inl (g 1, 2, .inl f_ydi)), (ydr, .inl (g 1, 2, .inl f_ydr)), (yto, .inl (g 1, 2, .inl f_yto))] H := hP
  have hD : va_D A [(y, .inr (9, fs_y)), (yca, .inl (g 1, 2, .inl (upd f_yca 0 0))), (yro, .inl (g 1, 2, .inl (upd f_yro 0 0))), (yte, .inl (g 1, 2, .inl (upd f_yte 0 0))), (yun, .inl (g 1, 2, .inl (upd f_yun 0 0))), (ydi, .inl (g 1, 2, .inl f_ydi)), (ydr, .inl (g 1, 2, .inl f_ydr)), (yto, .inl (g 1, 2, .inl f_yto))] := hD
  refine lv_aload_n hx hb dX9_clearBank_40 rfl (lv_at hl 0 rfl) ?_
  refine va_get (D := D) (ci := 9) (v := .ref ydi) (C := RX9) (T := TX9) (N := 67) hx hb hts iX9_clearBank_X9 hown hK hP 0 rfl rfl 15 (by decide) (hts (.fieldLink RX9 33 "CatLeasesModel" "dies" "[I") (List.mem_of_getElem? (i := 6) rfl)) (fun _ h9 => h9) h_y_dies dX9_clearBank_41 ?_
  refine lv_aload_n hx hb dX9_clearBank_44 rfl (lv_at hl 0 rfl) ?_
  refine va_get (D := D) (ci := 9) (v := .int 0) (C := RX9) (T := TX9) (N := 67) hx hb hts iX9_clearBank_X9 hown hK hP 0 rfl rfl 36 (by decide) (hts (.fieldLink RX9 259 "CatLeasesModel" "rb" "I") (List.mem_of_getElem? (i := 2) rfl)) (fun _ h9 => h9) h_y_rb dX9_clearBank_45 ?_
  refine lv_iconst (v := 0) hx hb dX9_clearBank_48 (by decide) ?_
  refine va_iast hx hb hK hP hD hS 5 1 rfl rfl (k_in (i := 0) (n := 2) (by decide)) dX9_clearBank_49 (fun H locs hP hD hS => ?_)
  have hP : va_P D vwCl [(y, .inr (9, fs_y)), (yca, .inl (g 1, 2, .inl (upd f_yca 0 0))), (yro, .inl (g 1, 2, .inl (upd f_yro 0 0))), (yte, .inl (g 1, 2, .inl (upd f_yte 0 0))), (yun, .inl (g 1, 2, .inl (upd f_yun 0 0))), (ydi, .inl (g 1, 2, .inl (upd f_ydi 0 0))), (ydr, .inl (g 1, 2, .inl f_ydr)), (yto, .inl (g 1, 2, .inl f_yto))] H := hP
  have hD : va_D A [(y, .inr (9, fs_y)), (yca, .inl (g 1, 2, .inl (upd f_yca 0 0))), (yro, .inl (g 1, 2, .inl (upd f_yro 0 0))), (yte, .inl (g 1, 2, .inl (upd f_yte 0 0))), (yun, .inl (g 1, 2, .inl (upd f_yun 0 0))), (ydi, .inl (g 1, 2, .inl (upd f_ydi 0 0))), (ydr, .inl (g 1, 2, .inl f_ydr)), (yto, .inl (g 1, 2, .inl f_yto))] := hD
  refine lv_aload_n hx hb dX9_clearBank_50 rfl (lv_at hl 0 rfl) ?_
  refine va_get (D := D) (ci := 9) (v := .ref ydr) (C := RX9) (T := TX9) (N := 67) hx hb hts iX9_clearBank_X9 hown hK hP 0 rfl rfl 16 (by decide) (hts (.fieldLink RX9 36 "CatLeasesModel" "draw" "[I") (List.mem_of_getElem? (i := 7) rfl)) (fun _ h9 => h9) h_y_draw dX9_clearBank_51 ?_
  refine lv_aload_n hx hb dX9_clearBank_54 rfl (lv_at hl 0 rfl) ?_
  refine va_get (D := D) (ci := 9) (v := .int 0) (C := RX9) (T := TX9) (N := 67) hx hb hts iX9_clearBank_X9 hown hK hP 0 rfl rfl 36 (by decide) (hts (.fieldLink RX9 259 "CatLeasesModel" "rb" "I") (List.mem_of_getElem? (i := 2) rfl)) (fun _ h9 => h9) h_y_rb dX9_clearBank_55 ?_
  refine lv_iconst (v := 0) hx hb dX9_clearBank_58 (by decide) ?_
  refine va_iast hx hb hK hP hD hS 6 1 rfl rfl (k_in (i := 0) (n := 2) (by decide)) dX9_clearBank_59 (fun H locs hP hD hS => ?_)
  have hP : va_P D vwCl [(y, .inr (9, fs_y)), (yca, .inl (g 1, 2, .inl (upd f_yca 0 0))), (yro, .inl (g 1, 2, .inl (upd f_yro 0 0))), (yte, .inl (g 1, 2, .inl (upd f_yte 0 0))), (yun, .inl (g 1, 2, .inl (upd f_yun 0 0))), (ydi, .inl (g 1, 2, .inl (upd f_ydi 0 0))), (ydr, .inl (g 1, 2, .inl (upd f_ydr 0 0))), (yto, .inl (g 1, 2, .inl f_yto))] H := hP
  have hD : va_D A [(y, .inr (9, fs_y)), (yca, .inl (g 1, 2, .inl (upd f_yca 0 0))), (yro, .inl (g 1, 2, .inl (upd f_yro 0 0))), (yte, .inl (g 1, 2, .inl (upd f_yte 0 0))), (yun, .inl (g 1, 2, .inl (upd f_yun 0 0))), (ydi, .inl (g 1, 2, .inl (upd f_ydi 0 0))), (ydr, .inl (g 1, 2, .inl (upd f_ydr 0 0))), (yto, .inl (g 1, 2, .inl f_yto))] := hD
  refine lv_aload_n hx hb dX9_clearBank_60 rfl (lv_at hl 0 rfl) ?_
  refine va_get (D := D) (ci := 9) (v := .ref yto) (C := RX9) (T := TX9) (N := 67) hx hb hts iX9_clearBank_X9 hown hK hP 0 rfl rfl 17 (by decide) (hts (.fieldLink RX9 39 "CatLeasesModel" "told" "[I") (List.mem_of_getElem? (i := 8) rfl)) (fun _ h9 => h9) h_y_told dX9_clearBank_61 ?_
  refine lv_aload_n hx hb dX9_clearBank_64 rfl (lv_at hl 0 rfl) ?_
  refine va_get (D := D) (ci := 9) (v := .int 0) (C := RX9) (T := TX9) (N := 67) hx hb hts iX9_clearBank_X9 hown hK hP 0 rfl rfl 36 (by decide) (hts (.fieldLink RX9 259 "CatLeasesModel" "rb" "I") (List.mem_of_getElem? (i := 2) rfl)) (fun _ h9 => h9) h_y_rb dX9_clearBank_65 ?_
  refine lv_iconst (v := 0) hx hb dX9_clearBank_68 (by decide) ?_
  refine va_iast hx hb hK hP hD hS 7 1 rfl rfl (k_in (i := 0) (n := 2) (by decide)) dX9_clearBank_69 (fun H locs hP hD hS => ?_)
  have hP : va_P D vwCl [(y, .inr (9, fs_y)), (yca, .inl (g 1, 2, .inl (upd f_yca 0 0))), (yro, .inl (g 1, 2, .inl (upd f_yro 0 0))), (yte, .inl (g 1, 2, .inl (upd f_yte 0 0))), (yun, .inl (g 1, 2, .inl (upd f_yun 0 0))), (ydi, .inl (g 1, 2, .inl (upd f_ydi 0 0))), (ydr, .inl (g 1, 2, .inl (upd f_ydr 0 0))), (yto, .inl (g 1, 2, .inl (upd f_yto 0 0)))] H := hP
  have hD : va_D A [(y, .inr (9, fs_y)), (yca, .inl (g 1, 2, .inl (upd f_yca 0 0))), (yro, .inl (g 1, 2, .inl (upd f_yro 0 0))), (yte, .inl (g 1, 2, .inl (upd f_yte 0 0))), (yun, .inl (g 1, 2, .inl (upd f_yun 0 0))), (ydi, .inl (g 1, 2, .inl (upd f_ydi 0 0))), (ydr, .inl (g 1, 2, .inl (upd f_ydr 0 0))), (yto, .inl (g 1, 2, .inl (upd f_yto 0 0)))] := hD
  refine lv_aload_n hx hb dX9_clearBank_70 rfl (lv_at hl 0 rfl) ?_
  refine lv_sipush (v := 560) hx hb dX9_clearBank_71 (by decide) ?_
  refine lv_aload_n hx hb dX9_clearBank_74 rfl (lv_at hl 0 rfl) ?_
  refine va_get (D := D) (ci := 9) (v := .int 0) (C := RX9) (T := TX9) (N := 67) hx hb hts iX9_clearBank_X9 hown hK hP 0 rfl rfl 36 (by decide) (hts (.fieldLink RX9 259 "CatLeasesModel" "rb" "I") (List.mem_of_getElem? (i := 2) rfl)) (fun _ h9 => h9) h_y_rb dX9_clearBank_75 ?_
  refine lv_imul hx hb dX9_clearBank_78 ?_
  refine k_top (v := 0) (by decide) ?_
  refine va_put (D := D) (ci := 9) (v := .int 0) (ty := .int) (C := RX9) (T := TX9) (N := 67) hx hb hts iX9_clearBank_X9 tyX9 tyX9_ok nmX9 hown hK hP hD hS 0 rfl rfl 37 (by decide) (hts (.fieldLink RX9 262 "CatLeasesModel" "codes" "I") (List.mem_of_getElem? (i := 9) rfl)) (fun _ h9 => h9) rfl (by decide +kernel) rfl rfl ((k_len h_y_codes)) dX9_clearBank_79 (fun H locs hP hD hS => ?_)
  have hP : va_P D vwCl [(y, .inr (9, (fs_y.set 37 (.int 0)))), (yca, .inl (g 1, 2, .inl (upd f_yca 0 0))), (yro, .inl (g 1, 2, .inl (upd f_yro 0 0))), (yte, .inl (g 1, 2, .inl (upd f_yte 0 0))), (yun, .inl (g 1, 2, .inl (upd f_yun 0 0))), (ydi, .inl (g 1, 2, .inl (upd f_ydi 0 0))), (ydr, .inl (g 1, 2, .inl (upd f_ydr 0 0))), (yto, .inl (g 1, 2, .inl (upd f_yto 0 0)))] H := hP
  have hD : va_D A [(y, .inr (9, (fs_y.set 37 (.int 0)))), (yca, .inl (g 1, 2, .inl (upd f_yca 0 0))), (yro, .inl (g 1, 2, .inl (upd f_yro 0 0))), (yte, .inl (g 1, 2, .inl (upd f_yte 0 0))), (yun, .inl (g 1, 2, .inl (upd f_yun 0 0))), (ydi, .inl (g 1, 2, .inl (upd f_ydi 0 0))), (ydr, .inl (g 1, 2, .inl (upd f_ydr 0 0))), (yto, .inl (g 1, 2, .inl (upd f_yto 0 0)))] := hD
  exact k_vret hx hb hr hlocks hK hP hD hS ⟨(upd f_yca 0 0), (upd f_yro 0 0), (upd f_yte 0 0), (upd f_yun 0 0), (upd f_ydi 0 0), (upd f_ydr 0 0), (upd f_yto 0 0), rfl, rfl, rfl, rfl, rfl, rfl, rfl, rfl⟩ dX9_clearBank_82
set_option maxHeartbeats 4000000 in
set_option maxRecDepth 100000 in
theorem m_layTold1 (l : Launch) (D : va_G) (g : Nat → ClassId) (sz : Nat) (y : Nat) (yt : Nat) (yc : Nat) (yr : Nat) (al : Nat) (dw : Nat) (fs_y : List Value) (f_yt : Nat → Int32) (f_yc : Nat → Int32) (f_yr : Nat → Int32) (f_al : Nat → Int32) (f_dw : Nat → Int32) (h_y_cats : fs_y[11]? = some (.ref yc)) (h_y_rooms : fs_y[12]? = some (.ref yr)) (h_y_tenants : fs_y[13]? = some (.ref yt)) (h_y_draw : fs_y[16]? = some (.ref dw)) (h_y_bank : fs_y[35]? = some (.int 1)) (h_y_all : fs_y[45]? = some (.ref al)) (h_yt_at1 : f_yt 1 = 0) (h_yc_at1 : f_yc 1 = 0) (h_yr_at1 : f_yr 1 = 0) (h_dw_at1 : f_dw 1 = 0) : Met l yX9_layTold wsX9_layTold ({ frames := 1, cells := 0, slots := 0, locals := 20 }) (va_Pc [.ref y] (kPre D g [(y, .inr (9, fs_y)), (yt, .inl (g 1, 2, .inl f_yt)), (yc, .inl (g 1, 2, .inl f_yc)), (yr, .inl (g 1, 2, .inl f_yr)), (al, .inl (g 1, 39, .inl f_al)), (dw, .inl (g 1, 2, .inl f_dw))] sz)) (kQv D g (fun (u : va_W) => ∃ (fe_al : Nat → Int32), (fe_al 36 = 0) ∧ (fe_al 37 = 0) ∧ (fe_al 38 = 0) ∧ u = [(y, .inr (9, fs_y)), (yt, .inl (g 1, 2, .inl f_yt)), (yc, .inl (g 1, 2, .inl f_yc)), (yr, .inl (g 1, 2, .inl f_yr)), (al, .inl (g 1, 39, .inl fe_al)), (dw, .inl (g 1, 2, .inl f_dw))]) (va_A [(y, .inr (9, fs_y)), (yt, .inl (g 1, 2, .inl f_yt)), (yc, .inl (g 1, 2, .inl f_yc)), (yr, .inl (g 1, 2, .inl f_yr)), (al, .inl (g 1, 39, .inl f_al)), (dw, .inl (g 1, 2, .inl f_dw))] sz)) 0 0 (va_A [(y, .inr (9, fs_y)), (yt, .inl (g 1, 2, .inl f_yt)), (yc, .inl (g 1, 2, .inl f_yc)), (yr, .inl (g 1, 2, .inl f_yr)), (al, .inl (g 1, 39, .inl f_al)), (dw, .inl (g 1, 2, .inl f_dw))] sz) := by
  refine k_headQ (cc := cX9_layTold) (maxL := 3) (ret := none) (by decide) rfl (Nat.le_of_ble_eq_true rfl) ?_
  intro p e s m below meth c ls A Q ar hQ hx hb hr hlocks hml hown hin hts hA hP hK hD hS hl
  have hown : s.vm.findClass RX9 = some m.cls := hown
  have hl : lv_has ls 3 [(0, .ref y)] := hl
  refine lv_iconst (v := 0) hx hb dX9_layTold_0 (by decide) ?_
  refine lv_istore_n (lv' := [(1, .int 0), (0, .ref y)]) hx hb dX9_layTold_1 rfl hl (by decide) rfl (fun ls hl => ?_)
  have hloop_7 : ∀ (n_2 i_1 : Nat) (f_3 : Nat → Int32), i_1 ≤ 39 → 39 < i_1 + n_2 → (∀ j, j < i_1 → f_3 j = 0) → ∀ (H : Heap) (locs : List Loc) (ls : Array Slot), va_P D vwCl [(y, .inr (9, fs_y)), (yt, .inl (g 1, 2, .inl f_yt)), (yc, .inl (g 1, 2, .inl f_yc)), (yr, .inl (g 1, 2, .inl f_yr)), (al, .inl (g 1, 39, .inl f_3)), (dw, .inl (g 1, 2, .inl f_dw))] H → va_D A [(y, .inr (9, fs_y)), (yt, .inl (g 1, 2, .inl f_yt)), (yc, .inl (g 1, 2, .inl f_yc)), (yr, .inl (g 1, 2, .inl f_yr)), (al, .inl (g 1, 39, .inl f_3)), (dw, .inl (g 1, 2, .inl f_dw))] → va_S A s.heap H locs → lv_has ls 3 [(1, .int (nI i_1)), (0, .ref y)] → W p l e (headSpec wsX9_layTold ({ frames := 1, cells := 0, slots := 0, locals := 20 })).room s m ar below meth c H locs 0 0 Q (F0 m 2 ls []) := by
    intro n_2
    induction n_2 with
    | zero =>
      intro i_1 f_3 h_4 h_5
      exact absurd h_5 (by omega)
    | succ n_2 ih =>
      intro i_1 f_3 h_4 h_5 v_6 H locs ls hP hD hS hl
      refine lv_iload_n hx hb dX9_layTold_2 rfl (lv_at hl 0 rfl) ?_
      refine lv_bipush (v := 39) hx hb dX9_layTold_3 (by decide) ?_
      refine lv_icmp_ge (tgt := 21) hx hb dX9_layTold_5 (by decide) (fun c_8 => ?_) (fun c_8 => ?_)
      · have h_9 := k_ge1 (N := 39) rfl h_4 (by first | decide | omega) c_8
        subst h_9
        refine lv_iconst (v := 0) hx hb dX9_layTold_21 (by decide) ?_
        refine lv_istore_n (lv' := [(1, .int 0), (0, .ref y)]) hx hb dX9_layTold_22 rfl hl (by decide) rfl (fun ls hl => ?_)
        refine lv_iload_n hx hb dX9_layTold_23 rfl (lv_at hl 0 rfl) ?_
        refine lv_bipush (v := 7) hx hb dX9_layTold_24 (by decide) ?_
        refine lv_icmp_ge (tgt := 141) hx hb dX9_layTold_26 (by decide) (fun c9 => absurd c9 (by first | decide | simp)) (fun _ => ?_)
        refine lv_iload_n hx hb dX9_layTold_29 rfl (lv_at hl 0 rfl) ?_
        refine lv_aload_n hx hb dX9_layTold_30 rfl (lv_at hl 1 rfl) ?_
        refine k_goi (wr := [(yc, .inl (g 1, 2, .inl f_yc)), (yr, .inl (g 1, 2, .inl f_yr)), (al, .inl (g 1, 39, .inl f_3)), (dw, .inl (g 1, 2, .inl f_dw))]) hP hD hS hA [0, 1] [2, 3, 4, 5] rfl rfl (by decide) (by decide) (va_runV (As := []) (rest := [.int 0]) ⟨hx, hb, hml, hown, hts⟩ (m_many1 l D g _ y yt fs_y f_yt h_y_tenants h_y_bank h_yt_at1) (cwV 0 hts gX9_layTold_X9_many rfl rfl rfl (by decide +kernel) ⟨Nat.le_of_ble_eq_true rfl, Nat.le_of_ble_eq_true rfl⟩) (k_preV hK (hP.sub [0, 1] rfl) (hD.sub [0, 1] (by decide) rfl) 9 0 rfl rfl) rfl rfl hl.1 rfl (lv_room (Nat.le_of_ble_eq_true rfl)) dX9_layTold_31 ⟨(Nat.le_of_ble_eq_true rfl), (Nat.le_of_ble_eq_true rfl)⟩) (fun r_10 u_11 H locs hw hP hD hS => ?_)
        rcases hw with ⟨rfl, rfl⟩
        have hP := hP.sub (ws' := [(y, .inr (9, fs_y)), (yt, .inl (g 1, 2, .inl f_yt)), (yc, .inl (g 1, 2, .inl f_yc)), (yr, .inl (g 1, 2, .inl f_yr)), (al, .inl (g 1, 39, .inl f_3)), (dw, .inl (g 1, 2, .inl f_dw))]) [4, 5, 0, 1, 2, 3] rfl
        have hD := hD.sub (ws' := [(y, .inr (9, fs_y)), (yt, .inl (g 1, 2, .inl f_yt)), (yc, .inl (g 1, 2, .inl f_yc)), (yr, .inl (g 1, 2, .inl f_yr)), (al, .inl (g 1, 39, .inl f_3)), (dw, .inl (g 1, 2, .inl f_dw))]) [4, 5, 0, 1, 2, 3] (by decide) rfl
        refine lv_icmp_ge (tgt := 41) hx hb dX9_layTold_34 (by decide) (fun _ => ?_) (fun c9 => absurd (by first | decide | rfl) c9)
        refine lv_iconst (v := 0) hx hb dX9_layTold_41 (by decide) ?_
        refine lv_istore_n (lv' := [(2, .int 0), (1, .int 0), (0, .ref y)]) hx hb dX9_layTold_42 rfl hl (by decide) rfl (fun ls hl => ?_)
        refine lv_aload_n hx hb dX9_layTold_43 rfl (lv_at hl 2 rfl) ?_
        refine va_get (D := D) (ci := 9) (v := .ref al) (C := RX9) (T := TX9) (N := 67) hx hb hts iX9_layTold_X9 hown hK hP 0 rfl rfl 45 (by decide) (hts (.fieldLink RX9 94 "CatLeasesModel" "all" "[I") (List.mem_of_getElem? (i := 1) rfl)) (fun _ h9 => h9) h_y_all dX9_layTold_44 ?_
        refine lv_iconst (v := 0) hx hb dX9_layTold_47 (by decide) ?_
        refine lv_iload_n hx hb dX9_layTold_48 rfl (lv_at hl 1 rfl) ?_
        refine lv_iadd hx hb dX9_layTold_49 ?_
        refine k_top (v := 0) (by decide) ?_
        refine lv_iload_n hx hb dX9_layTold_50 rfl (lv_at hl 0 rfl) ?_
        refine lv_if_eq (tgt := 71) hx hb dX9_layTold_51 (by decide) (fun _ => ?_) (fun c9 => absurd (by first | decide | rfl) c9)
        refine lv_iconst (v := (-1)) hx hb dX9_layTold_71 (by decide) ?_
        refine va_iast hx hb hK hP hD hS 4 1 rfl rfl (k_in (i := 0) (n := 39) (by decide)) dX9_layTold_72 (fun H locs hP hD hS => ?_)
        have hP : va_P D vwCl [(y, .inr (9, fs_y)), (yt, .inl (g 1, 2, .inl f_yt)), (yc, .inl (g 1, 2, .inl f_yc)), (yr, .inl (g 1, 2, .inl f_yr)), (al, .inl (g 1, 39, .inl (upd f_3 0 (-1)))), (dw, .inl (g 1, 2, .inl f_dw))] H := hP
        have hD : va_D A [(y, .inr (9, fs_y)), (yt, .inl (g 1, 2, .inl f_yt)), (yc, .inl (g 1, 2, .inl f_yc)), (yr, .inl (g 1, 2, .inl f_yr)), (al, .inl (g 1, 39, .inl (upd f_3 0 (-1)))), (dw, .inl (g 1, 2, .inl f_dw))] := hD
        refine lv_aload_n hx hb dX9_layTold_73 rfl (lv_at hl 2 rfl) ?_
        refine va_get (D := D) (ci := 9) (v := .ref al) (C := RX9) (T := TX9) (N := 67) hx hb hts iX9_layTold_X9 hown hK hP 0 rfl rfl 45 (by decide) (hts (.fieldLink RX9 94 "CatLeasesModel" "all" "[I") (List.mem_of_getElem? (i := 1) rfl)) (fun _ h9 => h9) h_y_all dX9_layTold_74 ?_
        refine lv_bipush (v := 22) hx hb dX9_layTold_77 (by decide) ?_
        refine lv_iload_n hx hb dX9_layTold_79 rfl (lv_at hl 1 rfl) ?_
        refine lv_iadd hx hb dX9_layTold_80 ?_
        refine k_top (v := 22) (by decide) ?_
        refine lv_iload_n hx hb dX9_layTold_81 rfl (lv_at hl 0 rfl) ?_
        refine lv_if_eq (tgt := 102) hx hb dX9_layTold_82 (by decide) (fun _ => ?_) (fun c9 => absurd (by first | decide | rfl) c9)
        refine lv_iconst (v := 0) hx hb dX9_layTold_102 (by decide) ?_
        refine va_iast hx hb hK hP hD hS 4 1 rfl rfl (k_in (i := 22) (n := 39) (by decide)) dX9_layTold_103 (fun H locs hP hD hS => ?_)
        have hP : va_P D vwCl [(y, .inr (9, fs_y)), (yt, .inl (g 1, 2, .inl f_yt)), (yc, .inl (g 1, 2, .inl f_yc)), (yr, .inl (g 1, 2, .inl f_yr)), (al, .inl (g 1, 39, .inl (upd (upd f_3 0 (-1)) 22 0))), (dw, .inl (g 1, 2, .inl f_dw))] H := hP
        have hD : va_D A [(y, .inr (9, fs_y)), (yt, .inl (g 1, 2, .inl f_yt)), (yc, .inl (g 1, 2, .inl f_yc)), (yr, .inl (g 1, 2, .inl f_yr)), (al, .inl (g 1, 39, .inl (upd (upd f_3 0 (-1)) 22 0))), (dw, .inl (g 1, 2, .inl f_dw))] := hD
        refine lv_aload_n hx hb dX9_layTold_104 rfl (lv_at hl 2 rfl) ?_
        refine va_get (D := D) (ci := 9) (v := .ref al) (C := RX9) (T := TX9) (N := 67) hx hb hts iX9_layTold_X9 hown hK hP 0 rfl rfl 45 (by decide) (hts (.fieldLink RX9 94 "CatLeasesModel" "all" "[I") (List.mem_of_getElem? (i := 1) rfl)) (fun _ h9 => h9) h_y_all dX9_layTold_105 ?_
        refine lv_bipush (v := 29) hx hb dX9_layTold_108 (by decide) ?_
        refine lv_iload_n hx hb dX9_layTold_110 rfl (lv_at hl 1 rfl) ?_
        refine lv_iadd hx hb dX9_layTold_111 ?_
        refine k_top (v := 29) (by decide) ?_
        refine lv_iload_n hx hb dX9_layTold_112 rfl (lv_at hl 0 rfl) ?_
        refine lv_if_eq (tgt := 133) hx hb dX9_layTold_113 (by decide) (fun _ => ?_) (fun c9 => absurd (by first | decide | rfl) c9)
        refine lv_iconst (v := 0) hx hb dX9_layTold_133 (by decide) ?_
        refine va_iast hx hb hK hP hD hS 4 1 rfl rfl (k_in (i := 29) (n := 39) (by decide)) dX9_layTold_134 (fun H locs hP hD hS => ?_)
        have hP : va_P D vwCl [(y, .inr (9, fs_y)), (yt, .inl (g 1, 2, .inl f_yt)), (yc, .inl (g 1, 2, .inl f_yc)), (yr, .inl (g 1, 2, .inl f_yr)), (al, .inl (g 1, 39, .inl (upd (upd (upd f_3 0 (-1)) 22 0) 29 0))), (dw, .inl (g 1, 2, .inl f_dw))] H := hP
        have hD : va_D A [(y, .inr (9, fs_y)), (yt, .inl (g 1, 2, .inl f_yt)), (yc, .inl (g 1, 2, .inl f_yc)), (yr, .inl (g 1, 2, .inl f_yr)), (al, .inl (g 1, 39, .inl (upd (upd (upd f_3 0 (-1)) 22 0) 29 0))), (dw, .inl (g 1, 2, .inl f_dw))] := hD
        refine lv_iinc (v := 1) (lv' := [(1, .int 1), (2, .int 0), (0, .ref y)]) hx hb dX9_layTold_135 hl (k := 1) rfl (by decide) (by decide) rfl (fun ls hl => ?_)
        refine lv_goto (tgt := 23) hx hb dX9_layTold_138 (by decide) ?_
        refine lv_iload_n hx hb dX9_layTold_23 rfl (lv_at hl 0 rfl) ?_
        refine lv_bipush (v := 7) hx hb dX9_layTold_24 (by decide) ?_
        refine lv_icmp_ge (tgt := 141) hx hb dX9_layTold_26 (by decide) (fun c9 => absurd c9 (by first | decide | simp)) (fun _ => ?_)
        refine lv_iload_n hx hb dX9_layTold_29 rfl (lv_at hl 0 rfl) ?_
        refine lv_aload_n hx hb dX9_layTold_30 rfl (lv_at hl 2 rfl) ?_
        refine k_goi (wr := [(yc, .inl (g 1, 2, .inl f_yc)), (yr, .inl (g 1, 2, .inl f_yr)), (al, .inl (g 1, 39, .inl (upd (upd (upd f_3 0 (-1)) 22 0) 29 0))), (dw, .inl (g 1, 2, .inl f_dw))]) hP hD hS hA [0, 1] [2, 3, 4, 5] rfl rfl (by decide) (by decide) (va_runV (As := []) (rest := [.int 1]) ⟨hx, hb, hml, hown, hts⟩ (m_many1 l D g _ y yt fs_y f_yt h_y_tenants h_y_bank h_yt_at1) (cwV 0 hts gX9_layTold_X9_many rfl rfl rfl (by decide +kernel) ⟨Nat.le_of_ble_eq_true rfl, Nat.le_of_ble_eq_true rfl⟩) (k_preV hK (hP.sub [0, 1] rfl) (hD.sub [0, 1] (by decide) rfl) 9 0 rfl rfl) rfl rfl hl.1 rfl (lv_room (Nat.le_of_ble_eq_true rfl)) dX9_layTold_31 ⟨(Nat.le_of_ble_eq_true rfl), (Nat.le_of_ble_eq_true rfl)⟩) (fun r_12 u_13 H locs hw hP hD hS => ?_)
        rcases hw with ⟨rfl, rfl⟩
        have hP := hP.sub (ws' := [(y, .inr (9, fs_y)), (yt, .inl (g 1, 2, .inl f_yt)), (yc, .inl (g 1, 2, .inl f_yc)), (yr, .inl (g 1, 2, .inl f_yr)), (al, .inl (g 1, 39, .inl (upd (upd (upd f_3 0 (-1)) 22 0) 29 0))), (dw, .inl (g 1, 2, .inl f_dw))]) [4, 5, 0, 1, 2, 3] rfl
        have hD := hD.sub (ws' := [(y, .inr (9, fs_y)), (yt, .inl (g 1, 2, .inl f_yt)), (yc, .inl (g 1, 2, .inl f_yc)), (yr, .inl (g 1, 2, .inl f_yr)), (al, .inl (g 1, 39, .inl (upd (upd (upd f_3 0 (-1)) 22 0) 29 0))), (dw, .inl (g 1, 2, .inl f_dw))]) [4, 5, 0, 1, 2, 3] (by decide) rfl
        refine lv_icmp_ge (tgt := 41) hx hb dX9_layTold_34 (by decide) (fun _ => ?_) (fun c9 => absurd (by first | decide | rfl) c9)
        refine lv_iconst (v := 0) hx hb dX9_layTold_41 (by decide) ?_
        refine lv_istore_n (lv' := [(2, .int 0), (1, .int 1), (0, .ref y)]) hx hb dX9_layTold_42 rfl hl (by decide) rfl (fun ls hl => ?_)
        refine lv_aload_n hx hb dX9_layTold_43 rfl (lv_at hl 2 rfl) ?_
        refine va_get (D := D) (ci := 9) (v := .ref al) (C := RX9) (T := TX9) (N := 67) hx hb hts iX9_layTold_X9 hown hK hP 0 rfl rfl 45 (by decide) (hts (.fieldLink RX9 94 "CatLeasesModel" "all" "[I") (List.mem_of_getElem? (i := 1) rfl)) (fun _ h9 => h9) h_y_all dX9_layTold_44 ?_
        refine lv_iconst (v := 0) hx hb dX9_layTold_47 (by decide) ?_
        refine lv_iload_n hx hb dX9_layTold_48 rfl (lv_at hl 1 rfl) ?_
        refine lv_iadd hx hb dX9_layTold_49 ?_
        refine k_top (v := 1) (by decide) ?_
        refine lv_iload_n hx hb dX9_layTold_50 rfl (lv_at hl 0 rfl) ?_
        refine lv_if_eq (tgt := 71) hx hb dX9_layTold_51 (by decide) (fun _ => ?_) (fun c9 => absurd (by first | decide | rfl) c9)
        refine lv_iconst (v := (-1)) hx hb dX9_layTold_71 (by decide) ?_
        refine va_iast hx hb hK hP hD hS 4 1 rfl rfl (k_in (i := 1) (n := 39) (by decide)) dX9_layTold_72 (fun H locs hP hD hS => ?_)
        have hP : va_P D vwCl [(y, .inr (9, fs_y)), (yt, .inl (g 1, 2, .inl f_yt)), (yc, .inl (g 1, 2, .inl f_yc)), (yr, .inl (g 1, 2, .inl f_yr)), (al, .inl (g 1, 39, .inl (upd (upd (upd (upd f_3 0 (-1)) 22 0) 29 0) 1 (-1)))), (dw, .inl (g 1, 2, .inl f_dw))] H := hP
        have hD : va_D A [(y, .inr (9, fs_y)), (yt, .inl (g 1, 2, .inl f_yt)), (yc, .inl (g 1, 2, .inl f_yc)), (yr, .inl (g 1, 2, .inl f_yr)), (al, .inl (g 1, 39, .inl (upd (upd (upd (upd f_3 0 (-1)) 22 0) 29 0) 1 (-1)))), (dw, .inl (g 1, 2, .inl f_dw))] := hD
        refine lv_aload_n hx hb dX9_layTold_73 rfl (lv_at hl 2 rfl) ?_
        refine va_get (D := D) (ci := 9) (v := .ref al) (C := RX9) (T := TX9) (N := 67) hx hb hts iX9_layTold_X9 hown hK hP 0 rfl rfl 45 (by decide) (hts (.fieldLink RX9 94 "CatLeasesModel" "all" "[I") (List.mem_of_getElem? (i := 1) rfl)) (fun _ h9 => h9) h_y_all dX9_layTold_74 ?_
        refine lv_bipush (v := 22) hx hb dX9_layTold_77 (by decide) ?_
        refine lv_iload_n hx hb dX9_layTold_79 rfl (lv_at hl 1 rfl) ?_
        refine lv_iadd hx hb dX9_layTold_80 ?_
        refine k_top (v := 23) (by decide) ?_
        refine lv_iload_n hx hb dX9_layTold_81 rfl (lv_at hl 0 rfl) ?_
        refine lv_if_eq (tgt := 102) hx hb dX9_layTold_82 (by decide) (fun _ => ?_) (fun c9 => absurd (by first | decide | rfl) c9)
        refine lv_iconst (v := 0) hx hb dX9_layTold_102 (by decide) ?_
        refine va_iast hx hb hK hP hD hS 4 1 rfl rfl (k_in (i := 23) (n := 39) (by decide)) dX9_layTold_103 (fun H locs hP hD hS => ?_)
        have hP : va_P D vwCl [(y, .inr (9, fs_y)), (yt, .inl (g 1, 2, .inl f_yt)), (yc, .inl (g 1, 2, .inl f_yc)), (yr, .inl (g 1, 2, .inl f_yr)), (al, .inl (g 1, 39, .inl (upd (upd (upd (upd (upd f_3 0 (-1)) 22 0) 29 0) 1 (-1)) 23 0))), (dw, .inl (g 1, 2, .inl f_dw))] H := hP
        have hD : va_D A [(y, .inr (9, fs_y)), (yt, .inl (g 1, 2, .inl f_yt)), (yc, .inl (g 1, 2, .inl f_yc)), (yr, .inl (g 1, 2, .inl f_yr)), (al, .inl (g 1, 39, .inl (upd (upd (upd (upd (upd f_3 0 (-1)) 22 0) 29 0) 1 (-1)) 23 0))), (dw, .inl (g 1, 2, .inl f_dw))] := hD
        refine lv_aload_n hx hb dX9_layTold_104 rfl (lv_at hl 2 rfl) ?_
        refine va_get (D := D) (ci := 9) (v := .ref al) (C := RX9) (T := TX9) (N := 67) hx hb hts iX9_layTold_X9 hown hK hP 0 rfl rfl 45 (by decide) (hts (.fieldLink RX9 94 "CatLeasesModel" "all" "[I") (List.mem_of_getElem? (i := 1) rfl)) (fun _ h9 => h9) h_y_all dX9_layTold_105 ?_
        refine lv_bipush (v := 29) hx hb dX9_layTold_108 (by decide) ?_
        refine lv_iload_n hx hb dX9_layTold_110 rfl (lv_at hl 1 rfl) ?_
        refine lv_iadd hx hb dX9_layTold_111 ?_
        refine k_top (v := 30) (by decide) ?_
        refine lv_iload_n hx hb dX9_layTold_112 rfl (lv_at hl 0 rfl) ?_
        refine lv_if_eq (tgt := 133) hx hb dX9_layTold_113 (by decide) (fun _ => ?_) (fun c9 => absurd (by first | decide | rfl) c9)
        refine lv_iconst (v := 0) hx hb dX9_layTold_133 (by decide) ?_
        refine va_iast hx hb hK hP hD hS 4 1 rfl rfl (k_in (i := 30) (n := 39) (by decide)) dX9_layTold_134 (fun H locs hP hD hS => ?_)
        have hP : va_P D vwCl [(y, .inr (9, fs_y)), (yt, .inl (g 1, 2, .inl f_yt)), (yc, .inl (g 1, 2, .inl f_yc)), (yr, .inl (g 1, 2, .inl f_yr)), (al, .inl (g 1, 39, .inl (upd (upd (upd (upd (upd (upd f_3 0 (-1)) 22 0) 29 0) 1 (-1)) 23 0) 30 0))), (dw, .inl (g 1, 2, .inl f_dw))] H := hP
        have hD : va_D A [(y, .inr (9, fs_y)), (yt, .inl (g 1, 2, .inl f_yt)), (yc, .inl (g 1, 2, .inl f_yc)), (yr, .inl (g 1, 2, .inl f_yr)), (al, .inl (g 1, 39, .inl (upd (upd (upd (upd (upd (upd f_3 0 (-1)) 22 0) 29 0) 1 (-1)) 23 0) 30 0))), (dw, .inl (g 1, 2, .inl f_dw))] := hD
        refine lv_iinc (v := 2) (lv' := [(1, .int 2), (2, .int 0), (0, .ref y)]) hx hb dX9_layTold_135 hl (k := 1) rfl (by decide) (by decide) rfl (fun ls hl => ?_)
        refine lv_goto (tgt := 23) hx hb dX9_layTold_138 (by decide) ?_
        refine lv_iload_n hx hb dX9_layTold_23 rfl (lv_at hl 0 rfl) ?_
        refine lv_bipush (v := 7) hx hb dX9_layTold_24 (by decide) ?_
        refine lv_icmp_ge (tgt := 141) hx hb dX9_layTold_26 (by decide) (fun c9 => absurd c9 (by first | decide | simp)) (fun _ => ?_)
        refine lv_iload_n hx hb dX9_layTold_29 rfl (lv_at hl 0 rfl) ?_
        refine lv_aload_n hx hb dX9_layTold_30 rfl (lv_at hl 2 rfl) ?_
        refine k_goi (wr := [(yc, .inl (g 1, 2, .inl f_yc)), (yr, .inl (g 1, 2, .inl f_yr)), (al, .inl (g 1, 39, .inl (upd (upd (upd (upd (upd (upd f_3 0 (-1)) 22 0) 29 0) 1 (-1)) 23 0) 30 0))), (dw, .inl (g 1, 2, .inl f_dw))]) hP hD hS hA [0, 1] [2, 3, 4, 5] rfl rfl (by decide) (by decide) (va_runV (As := []) (rest := [.int 2]) ⟨hx, hb, hml, hown, hts⟩ (m_many1 l D g _ y yt fs_y f_yt h_y_tenants h_y_bank h_yt_at1) (cwV 0 hts gX9_layTold_X9_many rfl rfl rfl (by decide +kernel) ⟨Nat.le_of_ble_eq_true rfl, Nat.le_of_ble_eq_true rfl⟩) (k_preV hK (hP.sub [0, 1] rfl) (hD.sub [0, 1] (by decide) rfl) 9 0 rfl rfl) rfl rfl hl.1 rfl (lv_room (Nat.le_of_ble_eq_true rfl)) dX9_layTold_31 ⟨(Nat.le_of_ble_eq_true rfl), (Nat.le_of_ble_eq_true rfl)⟩) (fun r_14 u_15 H locs hw hP hD hS => ?_)
        rcases hw with ⟨rfl, rfl⟩
        have hP := hP.sub (ws' := [(y, .inr (9, fs_y)), (yt, .inl (g 1, 2, .inl f_yt)), (yc, .inl (g 1, 2, .inl f_yc)), (yr, .inl (g 1, 2, .inl f_yr)), (al, .inl (g 1, 39, .inl (upd (upd (upd (upd (upd (upd f_3 0 (-1)) 22 0) 29 0) 1 (-1)) 23 0) 30 0))), (dw, .inl (g 1, 2, .inl f_dw))]) [4, 5, 0, 1, 2, 3] rfl
        have hD := hD.sub (ws' := [(y, .inr (9, fs_y)), (yt, .inl (g 1, 2, .inl f_yt)), (yc, .inl (g 1, 2, .inl f_yc)), (yr, .inl (g 1, 2, .inl f_yr)), (al, .inl (g 1, 39, .inl (upd (upd (upd (upd (upd (upd f_3 0 (-1)) 22 0) 29 0) 1 (-1)) 23 0) 30 0))), (dw, .inl (g 1, 2, .inl f_dw))]) [4, 5, 0, 1, 2, 3] (by decide) rfl
        refine lv_icmp_ge (tgt := 41) hx hb dX9_layTold_34 (by decide) (fun _ => ?_) (fun c9 => absurd (by first | decide | rfl) c9)
        refine lv_iconst (v := 0) hx hb dX9_layTold_41 (by decide) ?_
        refine lv_istore_n (lv' := [(2, .int 0), (1, .int 2), (0, .ref y)]) hx hb dX9_layTold_42 rfl hl (by decide) rfl (fun ls hl => ?_)
        refine lv_aload_n hx hb dX9_layTold_43 rfl (lv_at hl 2 rfl) ?_
        refine va_get (D := D) (ci := 9) (v := .ref al) (C := RX9) (T := TX9) (N := 67) hx hb hts iX9_layTold_X9 hown hK hP 0 rfl rfl 45 (by decide) (hts (.fieldLink RX9 94 "CatLeasesModel" "all" "[I") (List.mem_of_getElem? (i := 1) rfl)) (fun _ h9 => h9) h_y_all dX9_layTold_44 ?_
        refine lv_iconst (v := 0) hx hb dX9_layTold_47 (by decide) ?_
        refine lv_iload_n hx hb dX9_layTold_48 rfl (lv_at hl 1 rfl) ?_
        refine lv_iadd hx hb dX9_layTold_49 ?_
        refine k_top (v := 2) (by decide) ?_
        refine lv_iload_n hx hb dX9_layTold_50 rfl (lv_at hl 0 rfl) ?_
        refine lv_if_eq (tgt := 71) hx hb dX9_layTold_51 (by decide) (fun _ => ?_) (fun c9 => absurd (by first | decide | rfl) c9)
        refine lv_iconst (v := (-1)) hx hb dX9_layTold_71 (by decide) ?_
        refine va_iast hx hb hK hP hD hS 4 1 rfl rfl (k_in (i := 2) (n := 39) (by decide)) dX9_layTold_72 (fun H locs hP hD hS => ?_)
        have hP : va_P D vwCl [(y, .inr (9, fs_y)), (yt, .inl (g 1, 2, .inl f_yt)), (yc, .inl (g 1, 2, .inl f_yc)), (yr, .inl (g 1, 2, .inl f_yr)), (al, .inl (g 1, 39, .inl (upd (upd (upd (upd (upd (upd (upd f_3 0 (-1)) 22 0) 29 0) 1 (-1)) 23 0) 30 0) 2 (-1)))), (dw, .inl (g 1, 2, .inl f_dw))] H := hP
        have hD : va_D A [(y, .inr (9, fs_y)), (yt, .inl (g 1, 2, .inl f_yt)), (yc, .inl (g 1, 2, .inl f_yc)), (yr, .inl (g 1, 2, .inl f_yr)), (al, .inl (g 1, 39, .inl (upd (upd (upd (upd (upd (upd (upd f_3 0 (-1)) 22 0) 29 0) 1 (-1)) 23 0) 30 0) 2 (-1)))), (dw, .inl (g 1, 2, .inl f_dw))] := hD
        refine lv_aload_n hx hb dX9_layTold_73 rfl (lv_at hl 2 rfl) ?_
        refine va_get (D := D) (ci := 9) (v := .ref al) (C := RX9) (T := TX9) (N := 67) hx hb hts iX9_layTold_X9 hown hK hP 0 rfl rfl 45 (by decide) (hts (.fieldLink RX9 94 "CatLeasesModel" "all" "[I") (List.mem_of_getElem? (i := 1) rfl)) (fun _ h9 => h9) h_y_all dX9_layTold_74 ?_
        refine lv_bipush (v := 22) hx hb dX9_layTold_77 (by decide) ?_
        refine lv_iload_n hx hb dX9_layTold_79 rfl (lv_at hl 1 rfl) ?_
        refine lv_iadd hx hb dX9_layTold_80 ?_
        refine k_top (v := 24) (by decide) ?_
        refine lv_iload_n hx hb dX9_layTold_81 rfl (lv_at hl 0 rfl) ?_
        refine lv_if_eq (tgt := 102) hx hb dX9_layTold_82 (by decide) (fun _ => ?_) (fun c9 => absurd (by first | decide | rfl) c9)
        refine lv_iconst (v := 0) hx hb dX9_layTold_102 (by decide) ?_
        refine va_iast hx hb hK hP hD hS 4 1 rfl rfl (k_in (i := 24) (n := 39) (by decide)) dX9_layTold_103 (fun H locs hP hD hS => ?_)
        have hP : va_P D vwCl [(y, .inr (9, fs_y)), (yt, .inl (g 1, 2, .inl f_yt)), (yc, .inl (g 1, 2, .inl f_yc)), (yr, .inl (g 1, 2, .inl f_yr)), (al, .inl (g 1, 39, .inl (upd (upd (upd (upd (upd (upd (upd (upd f_3 0 (-1)) 22 0) 29 0) 1 (-1)) 23 0) 30 0) 2 (-1)) 24 0))), (dw, .inl (g 1, 2, .inl f_dw))] H := hP
        have hD : va_D A [(y, .inr (9, fs_y)), (yt, .inl (g 1, 2, .inl f_yt)), (yc, .inl (g 1, 2, .inl f_yc)), (yr, .inl (g 1, 2, .inl f_yr)), (al, .inl (g 1, 39, .inl (upd (upd (upd (upd (upd (upd (upd (upd f_3 0 (-1)) 22 0) 29 0) 1 (-1)) 23 0) 30 0) 2 (-1)) 24 0))), (dw, .inl (g 1, 2, .inl f_dw))] := hD
        refine lv_aload_n hx hb dX9_layTold_104 rfl (lv_at hl 2 rfl) ?_
        refine va_get (D := D) (ci := 9) (v := .ref al) (C := RX9) (T := TX9) (N := 67) hx hb hts iX9_layTold_X9 hown hK hP 0 rfl rfl 45 (by decide) (hts (.fieldLink RX9 94 "CatLeasesModel" "all" "[I") (List.mem_of_getElem? (i := 1) rfl)) (fun _ h9 => h9) h_y_all dX9_layTold_105 ?_
        refine lv_bipush (v := 29) hx hb dX9_layTold_108 (by decide) ?_
        refine lv_iload_n hx hb dX9_layTold_110 rfl (lv_at hl 1 rfl) ?_
        refine lv_iadd hx hb dX9_layTold_111 ?_
        refine k_top (v := 31) (by decide) ?_
        refine lv_iload_n hx hb dX9_layTold_112 rfl (lv_at hl 0 rfl) ?_
        refine lv_if_eq (tgt := 133) hx hb dX9_layTold_113 (by decide) (fun _ => ?_) (fun c9 => absurd (by first | decide | rfl) c9)
        refine lv_iconst (v := 0) hx hb dX9_layTold_133 (by decide) ?_
        refine va_iast hx hb hK hP hD hS 4 1 rfl rfl (k_in (i := 31) (n := 39) (by decide)) dX9_layTold_134 (fun H locs hP hD hS => ?_)
        have hP : va_P D vwCl [(y, .inr (9, fs_y)), (yt, .inl (g 1, 2, .inl f_yt)), (yc, .inl (g 1, 2, .inl f_yc)), (yr, .inl (g 1, 2, .inl f_yr)), (al, .inl (g 1, 39, .inl (upd (upd (upd (upd (upd (upd (upd (upd (upd f_3 0 (-1)) 22 0) 29 0) 1 (-1)) 23 0) 30 0) 2 (-1)) 24 0) 31 0))), (dw, .inl (g 1, 2, .inl f_dw))] H := hP
        have hD : va_D A [(y, .inr (9, fs_y)), (yt, .inl (g 1, 2, .inl f_yt)), (yc, .inl (g 1, 2, .inl f_yc)), (yr, .inl (g 1, 2, .inl f_yr)), (al, .inl (g 1, 39, .inl (upd (upd (upd (upd (upd (upd (upd (upd (upd f_3 0 (-1)) 22 0) 29 0) 1 (-1)) 23 0) 30 0) 2 (-1)) 24 0) 31 0))), (dw, .inl (g 1, 2, .inl f_dw))] := hD
        refine lv_iinc (v := 3) (lv' := [(1, .int 3), (2, .int 0), (0, .ref y)]) hx hb dX9_layTold_135 hl (k := 1) rfl (by decide) (by decide) rfl (fun ls hl => ?_)
        refine lv_goto (tgt := 23) hx hb dX9_layTold_138 (by decide) ?_
        refine lv_iload_n hx hb dX9_layTold_23 rfl (lv_at hl 0 rfl) ?_
        refine lv_bipush (v := 7) hx hb dX9_layTold_24 (by decide) ?_
        refine lv_icmp_ge (tgt := 141) hx hb dX9_layTold_26 (by decide) (fun c9 => absurd c9 (by first | decide | simp)) (fun _ => ?_)
        refine lv_iload_n hx hb dX9_layTold_29 rfl (lv_at hl 0 rfl) ?_
        refine lv_aload_n hx hb dX9_layTold_30 rfl (lv_at hl 2 rfl) ?_
        refine k_goi (wr := [(yc, .inl (g 1, 2, .inl f_yc)), (yr, .inl (g 1, 2, .inl f_yr)), (al, .inl (g 1, 39, .inl (upd (upd (upd (upd (upd (upd (upd (upd (upd f_3 0 (-1)) 22 0) 29 0) 1 (-1)) 23 0) 30 0) 2 (-1)) 24 0) 31 0))), (dw, .inl (g 1, 2, .inl f_dw))]) hP hD hS hA [0, 1] [2, 3, 4, 5] rfl rfl (by decide) (by decide) (va_runV (As := []) (rest := [.int 3]) ⟨hx, hb, hml, hown, hts⟩ (m_many1 l D g _ y yt fs_y f_yt h_y_tenants h_y_bank h_yt_at1) (cwV 0 hts gX9_layTold_X9_many rfl rfl rfl (by decide +kernel) ⟨Nat.le_of_ble_eq_true rfl, Nat.le_of_ble_eq_true rfl⟩) (k_preV hK (hP.sub [0, 1] rfl) (hD.sub [0, 1] (by decide) rfl) 9 0 rfl rfl) rfl rfl hl.1 rfl (lv_room (Nat.le_of_ble_eq_true rfl)) dX9_layTold_31 ⟨(Nat.le_of_ble_eq_true rfl), (Nat.le_of_ble_eq_true rfl)⟩) (fun r_16 u_17 H locs hw hP hD hS => ?_)
        rcases hw with ⟨rfl, rfl⟩
        have hP := hP.sub (ws' := [(y, .inr (9, fs_y)), (yt, .inl (g 1, 2, .inl f_yt)), (yc, .inl (g 1, 2, .inl f_yc)), (yr, .inl (g 1, 2, .inl f_yr)), (al, .inl (g 1, 39, .inl (upd (upd (upd (upd (upd (upd (upd (upd (upd f_3 0 (-1)) 22 0) 29 0) 1 (-1)) 23 0) 30 0) 2 (-1)) 24 0) 31 0))), (dw, .inl (g 1, 2, .inl f_dw))]) [4, 5, 0, 1, 2, 3] rfl
        have hD := hD.sub (ws' := [(y, .inr (9, fs_y)), (yt, .inl (g 1, 2, .inl f_yt)), (yc, .inl (g 1, 2, .inl f_yc)), (yr, .inl (g 1, 2, .inl f_yr)), (al, .inl (g 1, 39, .inl (upd (upd (upd (upd (upd (upd (upd (upd (upd f_3 0 (-1)) 22 0) 29 0) 1 (-1)) 23 0) 30 0) 2 (-1)) 24 0) 31 0))), (dw, .inl (g 1, 2, .inl f_dw))]) [4, 5, 0, 1, 2, 3] (by decide) rfl
        refine lv_icmp_ge (tgt := 41) hx hb dX9_layTold_34 (by decide) (fun _ => ?_) (fun c9 => absurd (by first | decide | rfl) c9)
        refine lv_iconst (v := 0) hx hb dX9_layTold_41 (by decide) ?_
        refine lv_istore_n (lv' := [(2, .int 0), (1, .int 3), (0, .ref y)]) hx hb dX9_layTold_42 rfl hl (by decide) rfl (fun ls hl => ?_)
        refine lv_aload_n hx hb dX9_layTold_43 rfl (lv_at hl 2 rfl) ?_
        refine va_get (D := D) (ci := 9) (v := .ref al) (C := RX9) (T := TX9) (N := 67) hx hb hts iX9_layTold_X9 hown hK hP 0 rfl rfl 45 (by decide) (hts (.fieldLink RX9 94 "CatLeasesModel" "all" "[I") (List.mem_of_getElem? (i := 1) rfl)) (fun _ h9 => h9) h_y_all dX9_layTold_44 ?_
        refine lv_iconst (v := 0) hx hb dX9_layTold_47 (by decide) ?_
        refine lv_iload_n hx hb dX9_layTold_48 rfl (lv_at hl 1 rfl) ?_
        refine lv_iadd hx hb dX9_layTold_49 ?_
        refine k_top (v := 3) (by decide) ?_
        refine lv_iload_n hx hb dX9_layTold_50 rfl (lv_at hl 0 rfl) ?_
        refine lv_if_eq (tgt := 71) hx hb dX9_layTold_51 (by decide) (fun _ => ?_) (fun c9 => absurd (by first | decide | rfl) c9)
        refine lv_iconst (v := (-1)) hx hb dX9_layTold_71 (by decide) ?_
        refine va_iast hx hb hK hP hD hS 4 1 rfl rfl (k_in (i := 3) (n := 39) (by decide)) dX9_layTold_72 (fun H locs hP hD hS => ?_)
        have hP : va_P D vwCl [(y, .inr (9, fs_y)), (yt, .inl (g 1, 2, .inl f_yt)), (yc, .inl (g 1, 2, .inl f_yc)), (yr, .inl (g 1, 2, .inl f_yr)), (al, .inl (g 1, 39, .inl (upd (upd (upd (upd (upd (upd (upd (upd (upd (upd f_3 0 (-1)) 22 0) 29 0) 1 (-1)) 23 0) 30 0) 2 (-1)) 24 0) 31 0) 3 (-1)))), (dw, .inl (g 1, 2, .inl f_dw))] H := hP
        have hD : va_D A [(y, .inr (9, fs_y)), (yt, .inl (g 1, 2, .inl f_yt)), (yc, .inl (g 1, 2, .inl f_yc)), (yr, .inl (g 1, 2, .inl f_yr)), (al, .inl (g 1, 39, .inl (upd (upd (upd (upd (upd (upd (upd (upd (upd (upd f_3 0 (-1)) 22 0) 29 0) 1 (-1)) 23 0) 30 0) 2 (-1)) 24 0) 31 0) 3 (-1)))), (dw, .inl (g 1, 2, .inl f_dw))] := hD
        refine lv_aload_n hx hb dX9_layTold_73 rfl (lv_at hl 2 rfl) ?_
        refine va_get (D := D) (ci := 9) (v := .ref al) (C := RX9) (T := TX9) (N := 67) hx hb hts iX9_layTold_X9 hown hK hP 0 rfl rfl 45 (by decide) (hts (.fieldLink RX9 94 "CatLeasesModel" "all" "[I") (List.mem_of_getElem? (i := 1) rfl)) (fun _ h9 => h9) h_y_all dX9_layTold_74 ?_
        refine lv_bipush (v := 22) hx hb dX9_layTold_77 (by decide) ?_
        refine lv_iload_n hx hb dX9_layTold_79 rfl (lv_at hl 1 rfl) ?_
        refine lv_iadd hx hb dX9_layTold_80 ?_
        refine k_top (v := 25) (by decide) ?_
        refine lv_iload_n hx hb dX9_layTold_81 rfl (lv_at hl 0 rfl) ?_
        refine lv_if_eq (tgt := 102) hx hb dX9_layTold_82 (by decide) (fun _ => ?_) (fun c9 => absurd (by first | decide | rfl) c9)
        refine lv_iconst (v := 0) hx hb dX9_layTold_102 (by decide) ?_
        refine va_iast hx hb hK hP hD hS 4 1 rfl rfl (k_in (i := 25) (n := 39) (by decide)) dX9_layTold_103 (fun H locs hP hD hS => ?_)
        have hP : va_P D vwCl [(y, .inr (9, fs_y)), (yt, .inl (g 1, 2, .inl f_yt)), (yc, .inl (g 1, 2, .inl f_yc)), (yr, .inl (g 1, 2, .inl f_yr)), (al, .inl (g 1, 39, .inl (upd (upd (upd (upd (upd (upd (upd (upd (upd (upd (upd f_3 0 (-1)) 22 0) 29 0) 1 (-1)) 23 0) 30 0) 2 (-1)) 24 0) 31 0) 3 (-1)) 25 0))), (dw, .inl (g 1, 2, .inl f_dw))] H := hP
        have hD : va_D A [(y, .inr (9, fs_y)), (yt, .inl (g 1, 2, .inl f_yt)), (yc, .inl (g 1, 2, .inl f_yc)), (yr, .inl (g 1, 2, .inl f_yr)), (al, .inl (g 1, 39, .inl (upd (upd (upd (upd (upd (upd (upd (upd (upd (upd (upd f_3 0 (-1)) 22 0) 29 0) 1 (-1)) 23 0) 30 0) 2 (-1)) 24 0) 31 0) 3 (-1)) 25 0))), (dw, .inl (g 1, 2, .inl f_dw))] := hD
        refine lv_aload_n hx hb dX9_layTold_104 rfl (lv_at hl 2 rfl) ?_
        refine va_get (D := D) (ci := 9) (v := .ref al) (C := RX9) (T := TX9) (N := 67) hx hb hts iX9_layTold_X9 hown hK hP 0 rfl rfl 45 (by decide) (hts (.fieldLink RX9 94 "CatLeasesModel" "all" "[I") (List.mem_of_getElem? (i := 1) rfl)) (fun _ h9 => h9) h_y_all dX9_layTold_105 ?_
        refine lv_bipush (v := 29) hx hb dX9_layTold_108 (by decide) ?_
        refine lv_iload_n hx hb dX9_layTold_110 rfl (lv_at hl 1 rfl) ?_
        refine lv_iadd hx hb dX9_layTold_111 ?_
        refine k_top (v := 32) (by decide) ?_
        refine lv_iload_n hx hb dX9_layTold_112 rfl (lv_at hl 0 rfl) ?_
        refine lv_if_eq (tgt := 133) hx hb dX9_layTold_113 (by decide) (fun _ => ?_) (fun c9 => absurd (by first | decide | rfl) c9)
        refine lv_iconst (v := 0) hx hb dX9_layTold_133 (by decide) ?_
        refine va_iast hx hb hK hP hD hS 4 1 rfl rfl (k_in (i := 32) (n := 39) (by decide)) dX9_layTold_134 (fun H locs hP hD hS => ?_)
        have hP : va_P D vwCl [(y, .inr (9, fs_y)), (yt, .inl (g 1, 2, .inl f_yt)), (yc, .inl (g 1, 2, .inl f_yc)), (yr, .inl (g 1, 2, .inl f_yr)), (al, .inl (g 1, 39, .inl (upd (upd (upd (upd (upd (upd (upd (upd (upd (upd (upd (upd f_3 0 (-1)) 22 0) 29 0) 1 (-1)) 23 0) 30 0) 2 (-1)) 24 0) 31 0) 3 (-1)) 25 0) 32 0))), (dw, .inl (g 1, 2, .inl f_dw))] H := hP
        have hD : va_D A [(y, .inr (9, fs_y)), (yt, .inl (g 1, 2, .inl f_yt)), (yc, .inl (g 1, 2, .inl f_yc)), (yr, .inl (g 1, 2, .inl f_yr)), (al, .inl (g 1, 39, .inl (upd (upd (upd (upd (upd (upd (upd (upd (upd (upd (upd (upd f_3 0 (-1)) 22 0) 29 0) 1 (-1)) 23 0) 30 0) 2 (-1)) 24 0) 31 0) 3 (-1)) 25 0) 32 0))), (dw, .inl (g 1, 2, .inl f_dw))] := hD
        refine lv_iinc (v := 4) (lv' := [(1, .int 4), (2, .int 0), (0, .ref y)]) hx hb dX9_layTold_135 hl (k := 1) rfl (by decide) (by decide) rfl (fun ls hl => ?_)
        refine lv_goto (tgt := 23) hx hb dX9_layTold_138 (by decide) ?_
        refine lv_iload_n hx hb dX9_layTold_23 rfl (lv_at hl 0 rfl) ?_
        refine lv_bipush (v := 7) hx hb dX9_layTold_24 (by decide) ?_
        refine lv_icmp_ge (tgt := 141) hx hb dX9_layTold_26 (by decide) (fun c9 => absurd c9 (by first | decide | simp)) (fun _ => ?_)
        refine lv_iload_n hx hb dX9_layTold_29 rfl (lv_at hl 0 rfl) ?_
        refine lv_aload_n hx hb dX9_layTold_30 rfl (lv_at hl 2 rfl) ?_
        refine k_goi (wr := [(yc, .inl (g 1, 2, .inl f_yc)), (yr, .inl (g 1, 2, .inl f_yr)), (al, .inl (g 1, 39, .inl (upd (upd (upd (upd (upd (upd (upd (upd (upd (upd (upd (upd f_3 0 (-1)) 22 0) 29 0) 1 (-1)) 23 0) 30 0) 2 (-1)) 24 0) 31 0) 3 (-1)) 25 0) 32 0))), (dw, .inl (g 1, 2, .inl f_dw))]) hP hD hS hA [0, 1] [2, 3, 4, 5] rfl rfl (by decide) (by decide) (va_runV (As := []) (rest := [.int 4]) ⟨hx, hb, hml, hown, hts⟩ (m_many1 l D g _ y yt fs_y f_yt h_y_tenants h_y_bank h_yt_at1) (cwV 0 hts gX9_layTold_X9_many rfl rfl rfl (by decide +kernel) ⟨Nat.le_of_ble_eq_true rfl, Nat.le_of_ble_eq_true rfl⟩) (k_preV hK (hP.sub [0, 1] rfl) (hD.sub [0, 1] (by decide) rfl) 9 0 rfl rfl) rfl rfl hl.1 rfl (lv_room (Nat.le_of_ble_eq_true rfl)) dX9_layTold_31 ⟨(Nat.le_of_ble_eq_true rfl), (Nat.le_of_ble_eq_true rfl)⟩) (fun r_18 u_19 H locs hw hP hD hS => ?_)
        rcases hw with ⟨rfl, rfl⟩
        have hP := hP.sub (ws' := [(y, .inr (9, fs_y)), (yt, .inl (g 1, 2, .inl f_yt)), (yc, .inl (g 1, 2, .inl f_yc)), (yr, .inl (g 1, 2, .inl f_yr)), (al, .inl (g 1, 39, .inl (upd (upd (upd (upd (upd (upd (upd (upd (upd (upd (upd (upd f_3 0 (-1)) 22 0) 29 0) 1 (-1)) 23 0) 30 0) 2 (-1)) 24 0) 31 0) 3 (-1)) 25 0) 32 0))), (dw, .inl (g 1, 2, .inl f_dw))]) [4, 5, 0, 1, 2, 3] rfl
        have hD := hD.sub (ws' := [(y, .inr (9, fs_y)), (yt, .inl (g 1, 2, .inl f_yt)), (yc, .inl (g 1, 2, .inl f_yc)), (yr, .inl (g 1, 2, .inl f_yr)), (al, .inl (g 1, 39, .inl (upd (upd (upd (upd (upd (upd (upd (upd (upd (upd (upd (upd f_3 0 (-1)) 22 0) 29 0) 1 (-1)) 23 0) 30 0) 2 (-1)) 24 0) 31 0) 3 (-1)) 25 0) 32 0))), (dw, .inl (g 1, 2, .inl f_dw))]) [4, 5, 0, 1, 2, 3] (by decide) rfl
        refine lv_icmp_ge (tgt := 41) hx hb dX9_layTold_34 (by decide) (fun _ => ?_) (fun c9 => absurd (by first | decide | rfl) c9)
        refine lv_iconst (v := 0) hx hb dX9_layTold_41 (by decide) ?_
        refine lv_istore_n (lv' := [(2, .int 0), (1, .int 4), (0, .ref y)]) hx hb dX9_layTold_42 rfl hl (by decide) rfl (fun ls hl => ?_)
        refine lv_aload_n hx hb dX9_layTold_43 rfl (lv_at hl 2 rfl) ?_
        refine va_get (D := D) (ci := 9) (v := .ref al) (C := RX9) (T := TX9) (N := 67) hx hb hts iX9_layTold_X9 hown hK hP 0 rfl rfl 45 (by decide) (hts (.fieldLink RX9 94 "CatLeasesModel" "all" "[I") (List.mem_of_getElem? (i := 1) rfl)) (fun _ h9 => h9) h_y_all dX9_layTold_44 ?_
        refine lv_iconst (v := 0) hx hb dX9_layTold_47 (by decide) ?_
        refine lv_iload_n hx hb dX9_layTold_48 rfl (lv_at hl 1 rfl) ?_
        refine lv_iadd hx hb dX9_layTold_49 ?_
        refine k_top (v := 4) (by decide) ?_
        refine lv_iload_n hx hb dX9_layTold_50 rfl (lv_at hl 0 rfl) ?_
        refine lv_if_eq (tgt := 71) hx hb dX9_layTold_51 (by decide) (fun _ => ?_) (fun c9 => absurd (by first | decide | rfl) c9)
        refine lv_iconst (v := (-1)) hx hb dX9_layTold_71 (by decide) ?_
        refine va_iast hx hb hK hP hD hS 4 1 rfl rfl (k_in (i := 4) (n := 39) (by decide)) dX9_layTold_72 (fun H locs hP hD hS => ?_)
        have hP : va_P D vwCl [(y, .inr (9, fs_y)), (yt, .inl (g 1, 2, .inl f_yt)), (yc, .inl (g 1, 2, .inl f_yc)), (yr, .inl (g 1, 2, .inl f_yr)), (al, .inl (g 1, 39, .inl (upd (upd (upd (upd (upd (upd (upd (upd (upd (upd (upd (upd (upd f_3 0 (-1)) 22 0) 29 0) 1 (-1)) 23 0) 30 0) 2 (-1)) 24 0) 31 0) 3 (-1)) 25 0) 32 0) 4 (-1)))), (dw, .inl (g 1, 2, .inl f_dw))] H := hP
        have hD : va_D A [(y, .inr (9, fs_y)), (yt, .inl (g 1, 2, .inl f_yt)), (yc, .inl (g 1, 2, .inl f_yc)), (yr, .inl (g 1, 2, .inl f_yr)), (al, .inl (g 1, 39, .inl (upd (upd (upd (upd (upd (upd (upd (upd (upd (upd (upd (upd (upd f_3 0 (-1)) 22 0) 29 0) 1 (-1)) 23 0) 30 0) 2 (-1)) 24 0) 31 0) 3 (-1)) 25 0) 32 0) 4 (-1)))), (dw, .inl (g 1, 2, .inl f_dw))] := hD
        refine lv_aload_n hx hb dX9_layTold_73 rfl (lv_at hl 2 rfl) ?_
        refine va_get (D := D) (ci := 9) (v := .ref al) (C := RX9) (T := TX9) (N := 67) hx hb hts iX9_layTold_X9 hown hK hP 0 rfl rfl 45 (by decide) (hts (.fieldLink RX9 94 "CatLeasesModel" "all" "[I") (List.mem_of_getElem? (i := 1) rfl)) (fun _ h9 => h9) h_y_all dX9_layTold_74 ?_
        refine lv_bipush (v := 22) hx hb dX9_layTold_77 (by decide) ?_
        refine lv_iload_n hx hb dX9_layTold_79 rfl (lv_at hl 1 rfl) ?_
        refine lv_iadd hx hb dX9_layTold_80 ?_
        refine k_top (v := 26) (by decide) ?_
        refine lv_iload_n hx hb dX9_layTold_81 rfl (lv_at hl 0 rfl) ?_
        refine lv_if_eq (tgt := 102) hx hb dX9_layTold_82 (by decide) (fun _ => ?_) (fun c9 => absurd (by first | decide | rfl) c9)
        refine lv_iconst (v := 0) hx hb dX9_layTold_102 (by decide) ?_
        refine va_iast hx hb hK hP hD hS 4 1 rfl rfl (k_in (i := 26) (n := 39) (by decide)) dX9_layTold_103 (fun H locs hP hD hS => ?_)
        have hP : va_P D vwCl [(y, .inr (9, fs_y)), (yt, .inl (g 1, 2, .inl f_yt)), (yc, .inl (g 1, 2, .inl f_yc)), (yr, .inl (g 1, 2, .inl f_yr)), (al, .inl (g 1, 39, .inl (upd (upd (upd (upd (upd (upd (upd (upd (upd (upd (upd (upd (upd (upd f_3 0 (-1)) 22 0) 29 0) 1 (-1)) 23 0) 30 0) 2 (-1)) 24 0) 31 0) 3 (-1)) 25 0) 32 0) 4 (-1)) 26 0))), (dw, .inl (g 1, 2, .inl f_dw))] H := hP
        have hD : va_D A [(y, .inr (9, fs_y)), (yt, .inl (g 1, 2, .inl f_yt)), (yc, .inl (g 1, 2, .inl f_yc)), (yr, .inl (g 1, 2, .inl f_yr)), (al, .inl (g 1, 39, .inl (upd (upd (upd (upd (upd (upd (upd (upd (upd (upd (upd (upd (upd (upd f_3 0 (-1)) 22 0) 29 0) 1 (-1)) 23 0) 30 0) 2 (-1)) 24 0) 31 0) 3 (-1)) 25 0) 32 0) 4 (-1)) 26 0))), (dw, .inl (g 1, 2, .inl f_dw))] := hD
        refine lv_aload_n hx hb dX9_layTold_104 rfl (lv_at hl 2 rfl) ?_
        refine va_get (D := D) (ci := 9) (v := .ref al) (C := RX9) (T := TX9) (N := 67) hx hb hts iX9_layTold_X9 hown hK hP 0 rfl rfl 45 (by decide) (hts (.fieldLink RX9 94 "CatLeasesModel" "all" "[I") (List.mem_of_getElem? (i := 1) rfl)) (fun _ h9 => h9) h_y_all dX9_layTold_105 ?_
        refine lv_bipush (v := 29) hx hb dX9_layTold_108 (by decide) ?_
        refine lv_iload_n hx hb dX9_layTold_110 rfl (lv_at hl 1 rfl) ?_
        refine lv_iadd hx hb dX9_layTold_111 ?_
        refine k_top (v := 33) (by decide) ?_
        refine lv_iload_n hx hb dX9_layTold_112 rfl (lv_at hl 0 rfl) ?_
        refine lv_if_eq (tgt := 133) hx hb dX9_layTold_113 (by decide) (fun _ => ?_) (fun c9 => absurd (by first | decide | rfl) c9)
        refine lv_iconst (v := 0) hx hb dX9_layTold_133 (by decide) ?_
        refine va_iast hx hb hK hP hD hS 4 1 rfl rfl (k_in (i := 33) (n := 39) (by decide)) dX9_layTold_134 (fun H locs hP hD hS => ?_)
        have hP : va_P D vwCl [(y, .inr (9, fs_y)), (yt, .inl (g 1, 2, .inl f_yt)), (yc, .inl (g 1, 2, .inl f_yc)), (yr, .inl (g 1, 2, .inl f_yr)), (al, .inl (g 1, 39, .inl (upd (upd (upd (upd (upd (upd (upd (upd (upd (upd (upd (upd (upd (upd (upd f_3 0 (-1)) 22 0) 29 0) 1 (-1)) 23 0) 30 0) 2 (-1)) 24 0) 31 0) 3 (-1)) 25 0) 32 0) 4 (-1)) 26 0) 33 0))), (dw, .inl (g 1, 2, .inl f_dw))] H := hP
        have hD : va_D A [(y, .inr (9, fs_y)), (yt, .inl (g 1, 2, .inl f_yt)), (yc, .inl (g 1, 2, .inl f_yc)), (yr, .inl (g 1, 2, .inl f_yr)), (al, .inl (g 1, 39, .inl (upd (upd (upd (upd (upd (upd (upd (upd (upd (upd (upd (upd (upd (upd (upd f_3 0 (-1)) 22 0) 29 0) 1 (-1)) 23 0) 30 0) 2 (-1)) 24 0) 31 0) 3 (-1)) 25 0) 32 0) 4 (-1)) 26 0) 33 0))), (dw, .inl (g 1, 2, .inl f_dw))] := hD
        refine lv_iinc (v := 5) (lv' := [(1, .int 5), (2, .int 0), (0, .ref y)]) hx hb dX9_layTold_135 hl (k := 1) rfl (by decide) (by decide) rfl (fun ls hl => ?_)
        refine lv_goto (tgt := 23) hx hb dX9_layTold_138 (by decide) ?_
        refine lv_iload_n hx hb dX9_layTold_23 rfl (lv_at hl 0 rfl) ?_
        refine lv_bipush (v := 7) hx hb dX9_layTold_24 (by decide) ?_
        refine lv_icmp_ge (tgt := 141) hx hb dX9_layTold_26 (by decide) (fun c9 => absurd c9 (by first | decide | simp)) (fun _ => ?_)
        refine lv_iload_n hx hb dX9_layTold_29 rfl (lv_at hl 0 rfl) ?_
        refine lv_aload_n hx hb dX9_layTold_30 rfl (lv_at hl 2 rfl) ?_
        refine k_goi (wr := [(yc, .inl (g 1, 2, .inl f_yc)), (yr, .inl (g 1, 2, .inl f_yr)), (al, .inl (g 1, 39, .inl (upd (upd (upd (upd (upd (upd (upd (upd (upd (upd (upd (upd (upd (upd (upd f_3 0 (-1)) 22 0) 29 0) 1 (-1)) 23 0) 30 0) 2 (-1)) 24 0) 31 0) 3 (-1)) 25 0) 32 0) 4 (-1)) 26 0) 33 0))), (dw, .inl (g 1, 2, .inl f_dw))]) hP hD hS hA [0, 1] [2, 3, 4, 5] rfl rfl (by decide) (by decide) (va_runV (As := []) (rest := [.int 5]) ⟨hx, hb, hml, hown, hts⟩ (m_many1 l D g _ y yt fs_y f_yt h_y_tenants h_y_bank h_yt_at1) (cwV 0 hts gX9_layTold_X9_many rfl rfl rfl (by decide +kernel) ⟨Nat.le_of_ble_eq_true rfl, Nat.le_of_ble_eq_true rfl⟩) (k_preV hK (hP.sub [0, 1] rfl) (hD.sub [0, 1] (by decide) rfl) 9 0 rfl rfl) rfl rfl hl.1 rfl (lv_room (Nat.le_of_ble_eq_true rfl)) dX9_layTold_31 ⟨(Nat.le_of_ble_eq_true rfl), (Nat.le_of_ble_eq_true rfl)⟩) (fun r_20 u_21 H locs hw hP hD hS => ?_)
        rcases hw with ⟨rfl, rfl⟩
        have hP := hP.sub (ws' := [(y, .inr (9, fs_y)), (yt, .inl (g 1, 2, .inl f_yt)), (yc, .inl (g 1, 2, .inl f_yc)), (yr, .inl (g 1, 2, .inl f_yr)), (al, .inl (g 1, 39, .inl (upd (upd (upd (upd (upd (upd (upd (upd (upd (upd (upd (upd (upd (upd (upd f_3 0 (-1)) 22 0) 29 0) 1 (-1)) 23 0) 30 0) 2 (-1)) 24 0) 31 0) 3 (-1)) 25 0) 32 0) 4 (-1)) 26 0) 33 0))), (dw, .inl (g 1, 2, .inl f_dw))]) [4, 5, 0, 1, 2, 3] rfl
        have hD := hD.sub (ws' := [(y, .inr (9, fs_y)), (yt, .inl (g 1, 2, .inl f_yt)), (yc, .inl (g 1, 2, .inl f_yc)), (yr, .inl (g 1, 2, .inl f_yr)), (al, .inl (g 1, 39, .inl (upd (upd (upd (upd (upd (upd (upd (upd (upd (upd (upd (upd (upd (upd (upd f_3 0 (-1)) 22 0) 29 0) 1 (-1)) 23 0) 30 0) 2 (-1)) 24 0) 31 0) 3 (-1)) 25 0) 32 0) 4 (-1)) 26 0) 33 0))), (dw, .inl (g 1, 2, .inl f_dw))]) [4, 5, 0, 1, 2, 3] (by decide) rfl
        refine lv_icmp_ge (tgt := 41) hx hb dX9_layTold_34 (by decide) (fun _ => ?_) (fun c9 => absurd (by first | decide | rfl) c9)
        refine lv_iconst (v := 0) hx hb dX9_layTold_41 (by decide) ?_
        refine lv_istore_n (lv' := [(2, .int 0), (1, .int 5), (0, .ref y)]) hx hb dX9_layTold_42 rfl hl (by decide) rfl (fun ls hl => ?_)
        refine lv_aload_n hx hb dX9_layTold_43 rfl (lv_at hl 2 rfl) ?_
        refine va_get (D := D) (ci := 9) (v := .ref al) (C := RX9) (T := TX9) (N := 67) hx hb hts iX9_layTold_X9 hown hK hP 0 rfl rfl 45 (by decide) (hts (.fieldLink RX9 94 "CatLeasesModel" "all" "[I") (List.mem_of_getElem? (i := 1) rfl)) (fun _ h9 => h9) h_y_all dX9_layTold_44 ?_
        refine lv_iconst (v := 0) hx hb dX9_layTold_47 (by decide) ?_
        refine lv_iload_n hx hb dX9_layTold_48 rfl (lv_at hl 1 rfl) ?_
        refine lv_iadd hx hb dX9_layTold_49 ?_
        refine k_top (v := 5) (by decide) ?_
        refine lv_iload_n hx hb dX9_layTold_50 rfl (lv_at hl 0 rfl) ?_
        refine lv_if_eq (tgt := 71) hx hb dX9_layTold_51 (by decide) (fun _ => ?_) (fun c9 => absurd (by first | decide | rfl) c9)
        refine lv_iconst (v := (-1)) hx hb dX9_layTold_71 (by decide) ?_
        refine va_iast hx hb hK hP hD hS 4 1 rfl rfl (k_in (i := 5) (n := 39) (by decide)) dX9_layTold_72 (fun H locs hP hD hS => ?_)
        have hP : va_P D vwCl [(y, .inr (9, fs_y)), (yt, .inl (g 1, 2, .inl f_yt)), (yc, .inl (g 1, 2, .inl f_yc)), (yr, .inl (g 1, 2, .inl f_yr)), (al, .inl (g 1, 39, .inl (upd (upd (upd (upd (upd (upd (upd (upd (upd (upd (upd (upd (upd (upd (upd (upd f_3 0 (-1)) 22 0) 29 0) 1 (-1)) 23 0) 30 0) 2 (-1)) 24 0) 31 0) 3 (-1)) 25 0) 32 0) 4 (-1)) 26 0) 33 0) 5 (-1)))), (dw, .inl (g 1, 2, .inl f_dw))] H := hP
        have hD : va_D A [(y, .inr (9, fs_y)), (yt, .inl (g 1, 2, .inl f_yt)), (yc, .inl (g 1, 2, .inl f_yc)), (yr, .inl (g 1, 2, .inl f_yr)), (al, .inl (g 1, 39, .inl (upd (upd (upd (upd (upd (upd (upd (upd (upd (upd (upd (upd (upd (upd (upd (upd f_3 0 (-1)) 22 0) 29 0) 1 (-1)) 23 0) 30 0) 2 (-1)) 24 0) 31 0) 3 (-1)) 25 0) 32 0) 4 (-1)) 26 0) 33 0) 5 (-1)))), (dw, .inl (g 1, 2, .inl f_dw))] := hD
        refine lv_aload_n hx hb dX9_layTold_73 rfl (lv_at hl 2 rfl) ?_
        refine va_get (D := D) (ci := 9) (v := .ref al) (C := RX9) (T := TX9) (N := 67) hx hb hts iX9_layTold_X9 hown hK hP 0 rfl rfl 45 (by decide) (hts (.fieldLink RX9 94 "CatLeasesModel" "all" "[I") (List.mem_of_getElem? (i := 1) rfl)) (fun _ h9 => h9) h_y_all dX9_layTold_74 ?_
        refine lv_bipush (v := 22) hx hb dX9_layTold_77 (by decide) ?_
        refine lv_iload_n hx hb dX9_layTold_79 rfl (lv_at hl 1 rfl) ?_
        refine lv_iadd hx hb dX9_layTold_80 ?_
        refine k_top (v := 27) (by decide) ?_
        refine lv_iload_n hx hb dX9_layTold_81 rfl (lv_at hl 0 rfl) ?_
        refine lv_if_eq (tgt := 102) hx hb dX9_layTold_82 (by decide) (fun _ => ?_) (fun c9 => absurd (by first | decide | rfl) c9)
        refine lv_iconst (v := 0) hx hb dX9_layTold_102 (by decide) ?_
        refine va_iast hx hb hK hP hD hS 4 1 rfl rfl (k_in (i := 27) (n := 39) (by decide)) dX9_layTold_103 (fun H locs hP hD hS => ?_)
        have hP : va_P D vwCl [(y, .inr (9, fs_y)), (yt, .inl (g 1, 2, .inl f_yt)), (yc, .inl (g 1, 2, .inl f_yc)), (yr, .inl (g 1, 2, .inl f_yr)), (al, .inl (g 1, 39, .inl (upd (upd (upd (upd (upd (upd (upd (upd (upd (upd (upd (upd (upd (upd (upd (upd (upd f_3 0 (-1)) 22 0) 29 0) 1 (-1)) 23 0) 30 0) 2 (-1)) 24 0) 31 0) 3 (-1)) 25 0) 32 0) 4 (-1)) 26 0) 33 0) 5 (-1)) 27 0))), (dw, .inl (g 1, 2, .inl f_dw))] H := hP
        have hD : va_D A [(y, .inr (9, fs_y)), (yt, .inl (g 1, 2, .inl f_yt)), (yc, .inl (g 1, 2, .inl f_yc)), (yr, .inl (g 1, 2, .inl f_yr)), (al, .inl (g 1, 39, .inl (upd (upd (upd (upd (upd (upd (upd (upd (upd (upd (upd (upd (upd (upd (upd (upd (upd f_3 0 (-1)) 22 0) 29 0) 1 (-1)) 23 0) 30 0) 2 (-1)) 24 0) 31 0) 3 (-1)) 25 0) 32 0) 4 (-1)) 26 0) 33 0) 5 (-1)) 27 0))), (dw, .inl (g 1, 2, .inl f_dw))] := hD
        refine lv_aload_n hx hb dX9_layTold_104 rfl (lv_at hl 2 rfl) ?_
        refine va_get (D := D) (ci := 9) (v := .ref al) (C := RX9) (T := TX9) (N := 67) hx hb hts iX9_layTold_X9 hown hK hP 0 rfl rfl 45 (by decide) (hts (.fieldLink RX9 94 "CatLeasesModel" "all" "[I") (List.mem_of_getElem? (i := 1) rfl)) (fun _ h9 => h9) h_y_all dX9_layTold_105 ?_
        refine lv_bipush (v := 29) hx hb dX9_layTold_108 (by decide) ?_
        refine lv_iload_n hx hb dX9_layTold_110 rfl (lv_at hl 1 rfl) ?_
        refine lv_iadd hx hb dX9_layTold_111 ?_
        refine k_top (v := 34) (by decide) ?_
        refine lv_iload_n hx hb dX9_layTold_112 rfl (lv_at hl 0 rfl) ?_
        refine lv_if_eq (tgt := 133) hx hb dX9_layTold_113 (by decide) (fun _ => ?_) (fun c9 => absurd (by first | decide | rfl) c9)
        refine lv_iconst (v := 0) hx hb dX9_layTold_133 (by decide) ?_
        refine va_iast hx hb hK hP hD hS 4 1 rfl rfl (k_in (i := 34) (n := 39) (by decide)) dX9_layTold_134 (fun H locs hP hD hS => ?_)
        have hP : va_P D vwCl [(y, .inr (9, fs_y)), (yt, .inl (g 1, 2, .inl f_yt)), (yc, .inl (g 1, 2, .inl f_yc)), (yr, .inl (g 1, 2, .inl f_yr)), (al, .inl (g 1, 39, .inl (upd (upd (upd (upd (upd (upd (upd (upd (upd (upd (upd (upd (upd (upd (upd (upd (upd (upd f_3 0 (-1)) 22 0) 29 0) 1 (-1)) 23 0) 30 0) 2 (-1)) 24 0) 31 0) 3 (-1)) 25 0) 32 0) 4 (-1)) 26 0) 33 0) 5 (-1)) 27 0) 34 0))), (dw, .inl (g 1, 2, .inl f_dw))] H := hP
        have hD : va_D A [(y, .inr (9, fs_y)), (yt, .inl (g 1, 2, .inl f_yt)), (yc, .inl (g 1, 2, .inl f_yc)), (yr, .inl (g 1, 2, .inl f_yr)), (al, .inl (g 1, 39, .inl (upd (upd (upd (upd (upd (upd (upd (upd (upd (upd (upd (upd (upd (upd (upd (upd (upd (upd f_3 0 (-1)) 22 0) 29 0) 1 (-1)) 23 0) 30 0) 2 (-1)) 24 0) 31 0) 3 (-1)) 25 0) 32 0) 4 (-1)) 26 0) 33 0) 5 (-1)) 27 0) 34 0))), (dw, .inl (g 1, 2, .inl f_dw))] := hD
        refine lv_iinc (v := 6) (lv' := [(1, .int 6), (2, .int 0), (0, .ref y)]) hx hb dX9_layTold_135 hl (k := 1) rfl (by decide) (by decide) rfl (fun ls hl => ?_)
        refine lv_goto (tgt := 23) hx hb dX9_layTold_138 (by decide) ?_
        refine lv_iload_n hx hb dX9_layTold_23 rfl (lv_at hl 0 rfl) ?_
        refine lv_bipush (v := 7) hx hb dX9_layTold_24 (by decide) ?_
        refine lv_icmp_ge (tgt := 141) hx hb dX9_layTold_26 (by decide) (fun c9 => absurd c9 (by first | decide | simp)) (fun _ => ?_)
        refine lv_iload_n hx hb dX9_layTold_29 rfl (lv_at hl 0 rfl) ?_
        refine lv_aload_n hx hb dX9_layTold_30 rfl (lv_at hl 2 rfl) ?_
        refine k_goi (wr := [(yc, .inl (g 1, 2, .inl f_yc)), (yr, .inl (g 1, 2, .inl f_yr)), (al, .inl (g 1, 39, .inl (upd (upd (upd (upd (upd (upd (upd (upd (upd (upd (upd (upd (upd (upd (upd (upd (upd (upd f_3 0 (-1)) 22 0) 29 0) 1 (-1)) 23 0) 30 0) 2 (-1)) 24 0) 31 0) 3 (-1)) 25 0) 32 0) 4 (-1)) 26 0) 33 0) 5 (-1)) 27 0) 34 0))), (dw, .inl (g 1, 2, .inl f_dw))]) hP hD hS hA [0, 1] [2, 3, 4, 5] rfl rfl (by decide) (by decide) (va_runV (As := []) (rest := [.int 6]) ⟨hx, hb, hml, hown, hts⟩ (m_many1 l D g _ y yt fs_y f_yt h_y_tenants h_y_bank h_yt_at1) (cwV 0 hts gX9_layTold_X9_many rfl rfl rfl (by decide +kernel) ⟨Nat.le_of_ble_eq_true rfl, Nat.le_of_ble_eq_true rfl⟩) (k_preV hK (hP.sub [0, 1] rfl) (hD.sub [0, 1] (by decide) rfl) 9 0 rfl rfl) rfl rfl hl.1 rfl (lv_room (Nat.le_of_ble_eq_true rfl)) dX9_layTold_31 ⟨(Nat.le_of_ble_eq_true rfl), (Nat.le_of_ble_eq_true rfl)⟩) (fun r_22 u_23 H locs hw hP hD hS => ?_)
        rcases hw with ⟨rfl, rfl⟩
        have hP := hP.sub (ws' := [(y, .inr (9, fs_y)), (yt, .inl (g 1, 2, .inl f_yt)), (yc, .inl (g 1, 2, .inl f_yc)), (yr, .inl (g 1, 2, .inl f_yr)), (al, .inl (g 1, 39, .inl (upd (upd (upd (upd (upd (upd (upd (upd (upd (upd (upd (upd (upd (upd (upd (upd (upd (upd f_3 0 (-1)) 22 0) 29 0) 1 (-1)) 23 0) 30 0) 2 (-1)) 24 0) 31 0) 3 (-1)) 25 0) 32 0) 4 (-1)) 26 0) 33 0) 5 (-1)) 27 0) 34 0))), (dw, .inl (g 1, 2, .inl f_dw))]) [4, 5, 0, 1, 2, 3] rfl
        have hD := hD.sub (ws' := [(y, .inr (9, fs_y)), (yt, .inl (g 1, 2, .inl f_yt)), (yc, .inl (g 1, 2, .inl f_yc)), (yr, .inl (g 1, 2, .inl f_yr)), (al, .inl (g 1, 39, .inl (upd (upd (upd (upd (upd (upd (upd (upd (upd (upd (upd (upd (upd (upd (upd (upd (upd (upd f_3 0 (-1)) 22 0) 29 0) 1 (-1)) 23 0) 30 0) 2 (-1)) 24 0) 31 0) 3 (-1)) 25 0) 32 0) 4 (-1)) 26 0) 33 0) 5 (-1)) 27 0) 34 0))), (dw, .inl (g 1, 2, .inl f_dw))]) [4, 5, 0, 1, 2, 3] (by decide) rfl
        refine lv_icmp_ge (tgt := 41) hx hb dX9_layTold_34 (by decide) (fun _ => ?_) (fun c9 => absurd (by first | decide | rfl) c9)
        refine lv_iconst (v := 0) hx hb dX9_layTold_41 (by decide) ?_
        refine lv_istore_n (lv' := [(2, .int 0), (1, .int 6), (0, .ref y)]) hx hb dX9_layTold_42 rfl hl (by decide) rfl (fun ls hl => ?_)
        refine lv_aload_n hx hb dX9_layTold_43 rfl (lv_at hl 2 rfl) ?_
        refine va_get (D := D) (ci := 9) (v := .ref al) (C := RX9) (T := TX9) (N := 67) hx hb hts iX9_layTold_X9 hown hK hP 0 rfl rfl 45 (by decide) (hts (.fieldLink RX9 94 "CatLeasesModel" "all" "[I") (List.mem_of_getElem? (i := 1) rfl)) (fun _ h9 => h9) h_y_all dX9_layTold_44 ?_
        refine lv_iconst (v := 0) hx hb dX9_layTold_47 (by decide) ?_
        refine lv_iload_n hx hb dX9_layTold_48 rfl (lv_at hl 1 rfl) ?_
        refine lv_iadd hx hb dX9_layTold_49 ?_
        refine k_top (v := 6) (by decide) ?_
        refine lv_iload_n hx hb dX9_layTold_50 rfl (lv_at hl 0 rfl) ?_
        refine lv_if_eq (tgt := 71) hx hb dX9_layTold_51 (by decide) (fun _ => ?_) (fun c9 => absurd (by first | decide | rfl) c9)
        refine lv_iconst (v := (-1)) hx hb dX9_layTold_71 (by decide) ?_
        refine va_iast hx hb hK hP hD hS 4 1 rfl rfl (k_in (i := 6) (n := 39) (by decide)) dX9_layTold_72 (fun H locs hP hD hS => ?_)
        have hP : va_P D vwCl [(y, .inr (9, fs_y)), (yt, .inl (g 1, 2, .inl f_yt)), (yc, .inl (g 1, 2, .inl f_yc)), (yr, .inl (g 1, 2, .inl f_yr)), (al, .inl (g 1, 39, .inl (upd (upd (upd (upd (upd (upd (upd (upd (upd (upd (upd (upd (upd (upd (upd (upd (upd (upd (upd f_3 0 (-1)) 22 0) 29 0) 1 (-1)) 23 0) 30 0) 2 (-1)) 24 0) 31 0) 3 (-1)) 25 0) 32 0) 4 (-1)) 26 0) 33 0) 5 (-1)) 27 0) 34 0) 6 (-1)))), (dw, .inl (g 1, 2, .inl f_dw))] H := hP
        have hD : va_D A [(y, .inr (9, fs_y)), (yt, .inl (g 1, 2, .inl f_yt)), (yc, .inl (g 1, 2, .inl f_yc)), (yr, .inl (g 1, 2, .inl f_yr)), (al, .inl (g 1, 39, .inl (upd (upd (upd (upd (upd (upd (upd (upd (upd (upd (upd (upd (upd (upd (upd (upd (upd (upd (upd f_3 0 (-1)) 22 0) 29 0) 1 (-1)) 23 0) 30 0) 2 (-1)) 24 0) 31 0) 3 (-1)) 25 0) 32 0) 4 (-1)) 26 0) 33 0) 5 (-1)) 27 0) 34 0) 6 (-1)))), (dw, .inl (g 1, 2, .inl f_dw))] := hD
        refine lv_aload_n hx hb dX9_layTold_73 rfl (lv_at hl 2 rfl) ?_
        refine va_get (D := D) (ci := 9) (v := .ref al) (C := RX9) (T := TX9) (N := 67) hx hb hts iX9_layTold_X9 hown hK hP 0 rfl rfl 45 (by decide) (hts (.fieldLink RX9 94 "CatLeasesModel" "all" "[I") (List.mem_of_getElem? (i := 1) rfl)) (fun _ h9 => h9) h_y_all dX9_layTold_74 ?_
        refine lv_bipush (v := 22) hx hb dX9_layTold_77 (by decide) ?_
        refine lv_iload_n hx hb dX9_layTold_79 rfl (lv_at hl 1 rfl) ?_
        refine lv_iadd hx hb dX9_layTold_80 ?_
        refine k_top (v := 28) (by decide) ?_
        refine lv_iload_n hx hb dX9_layTold_81 rfl (lv_at hl 0 rfl) ?_
        refine lv_if_eq (tgt := 102) hx hb dX9_layTold_82 (by decide) (fun _ => ?_) (fun c9 => absurd (by first | decide | rfl) c9)
        refine lv_iconst (v := 0) hx hb dX9_layTold_102 (by decide) ?_
        refine va_iast hx hb hK hP hD hS 4 1 rfl rfl (k_in (i := 28) (n := 39) (by decide)) dX9_layTold_103 (fun H locs hP hD hS => ?_)
        have hP : va_P D vwCl [(y, .inr (9, fs_y)), (yt, .inl (g 1, 2, .inl f_yt)), (yc, .inl (g 1, 2, .inl f_yc)), (yr, .inl (g 1, 2, .inl f_yr)), (al, .inl (g 1, 39, .inl (upd (upd (upd (upd (upd (upd (upd (upd (upd (upd (upd (upd (upd (upd (upd (upd (upd (upd (upd (upd f_3 0 (-1)) 22 0) 29 0) 1 (-1)) 23 0) 30 0) 2 (-1)) 24 0) 31 0) 3 (-1)) 25 0) 32 0) 4 (-1)) 26 0) 33 0) 5 (-1)) 27 0) 34 0) 6 (-1)) 28 0))), (dw, .inl (g 1, 2, .inl f_dw))] H := hP
        have hD : va_D A [(y, .inr (9, fs_y)), (yt, .inl (g 1, 2, .inl f_yt)), (yc, .inl (g 1, 2, .inl f_yc)), (yr, .inl (g 1, 2, .inl f_yr)), (al, .inl (g 1, 39, .inl (upd (upd (upd (upd (upd (upd (upd (upd (upd (upd (upd (upd (upd (upd (upd (upd (upd (upd (upd (upd f_3 0 (-1)) 22 0) 29 0) 1 (-1)) 23 0) 30 0) 2 (-1)) 24 0) 31 0) 3 (-1)) 25 0) 32 0) 4 (-1)) 26 0) 33 0) 5 (-1)) 27 0) 34 0) 6 (-1)) 28 0))), (dw, .inl (g 1, 2, .inl f_dw))] := hD
        refine lv_aload_n hx hb dX9_layTold_104 rfl (lv_at hl 2 rfl) ?_
        refine va_get (D := D) (ci := 9) (v := .ref al) (C := RX9) (T := TX9) (N := 67) hx hb hts iX9_layTold_X9 hown hK hP 0 rfl rfl 45 (by decide) (hts (.fieldLink RX9 94 "CatLeasesModel" "all" "[I") (List.mem_of_getElem? (i := 1) rfl)) (fun _ h9 => h9) h_y_all dX9_layTold_105 ?_
        refine lv_bipush (v := 29) hx hb dX9_layTold_108 (by decide) ?_
        refine lv_iload_n hx hb dX9_layTold_110 rfl (lv_at hl 1 rfl) ?_
        refine lv_iadd hx hb dX9_layTold_111 ?_
        refine k_top (v := 35) (by decide) ?_
        refine lv_iload_n hx hb dX9_layTold_112 rfl (lv_at hl 0 rfl) ?_
        refine lv_if_eq (tgt := 133) hx hb dX9_layTold_113 (by decide) (fun _ => ?_) (fun c9 => absurd (by first | decide | rfl) c9)
        refine lv_iconst (v := 0) hx hb dX9_layTold_133 (by decide) ?_
        refine va_iast hx hb hK hP hD hS 4 1 rfl rfl (k_in (i := 35) (n := 39) (by decide)) dX9_layTold_134 (fun H locs hP hD hS => ?_)
        have hP : va_P D vwCl [(y, .inr (9, fs_y)), (yt, .inl (g 1, 2, .inl f_yt)), (yc, .inl (g 1, 2, .inl f_yc)), (yr, .inl (g 1, 2, .inl f_yr)), (al, .inl (g 1, 39, .inl (upd (upd (upd (upd (upd (upd (upd (upd (upd (upd (upd (upd (upd (upd (upd (upd (upd (upd (upd (upd (upd f_3 0 (-1)) 22 0) 29 0) 1 (-1)) 23 0) 30 0) 2 (-1)) 24 0) 31 0) 3 (-1)) 25 0) 32 0) 4 (-1)) 26 0) 33 0) 5 (-1)) 27 0) 34 0) 6 (-1)) 28 0) 35 0))), (dw, .inl (g 1, 2, .inl f_dw))] H := hP
        have hD : va_D A [(y, .inr (9, fs_y)), (yt, .inl (g 1, 2, .inl f_yt)), (yc, .inl (g 1, 2, .inl f_yc)), (yr, .inl (g 1, 2, .inl f_yr)), (al, .inl (g 1, 39, .inl (upd (upd (upd (upd (upd (upd (upd (upd (upd (upd (upd (upd (upd (upd (upd (upd (upd (upd (upd (upd (upd f_3 0 (-1)) 22 0) 29 0) 1 (-1)) 23 0) 30 0) 2 (-1)) 24 0) 31 0) 3 (-1)) 25 0) 32 0) 4 (-1)) 26 0) 33 0) 5 (-1)) 27 0) 34 0) 6 (-1)) 28 0) 35 0))), (dw, .inl (g 1, 2, .inl f_dw))] := hD
        refine lv_iinc (v := 7) (lv' := [(1, .int 7), (2, .int 0), (0, .ref y)]) hx hb dX9_layTold_135 hl (k := 1) rfl (by decide) (by decide) rfl (fun ls hl => ?_)
        refine lv_goto (tgt := 23) hx hb dX9_layTold_138 (by decide) ?_
        refine lv_iload_n hx hb dX9_layTold_23 rfl (lv_at hl 0 rfl) ?_
        refine lv_bipush (v := 7) hx hb dX9_layTold_24 (by decide) ?_
        refine lv_icmp_ge (tgt := 141) hx hb dX9_layTold_26 (by decide) (fun _ => ?_) (fun c9 => absurd (by first | decide | rfl) c9)
        refine lv_iconst (v := 0) hx hb dX9_layTold_141 (by decide) ?_
        refine lv_istore_n (lv' := [(1, .int 0), (2, .int 0), (0, .ref y)]) hx hb dX9_layTold_142 rfl hl (by decide) rfl (fun ls hl => ?_)
        refine lv_iload_n hx hb dX9_layTold_143 rfl (lv_at hl 0 rfl) ?_
        refine lv_bipush (v := 8) hx hb dX9_layTold_144 (by decide) ?_
        refine lv_icmp_ge (tgt := 190) hx hb dX9_layTold_146 (by decide) (fun c9 => absurd c9 (by first | decide | simp)) (fun _ => ?_)
        refine lv_aload_n hx hb dX9_layTold_149 rfl (lv_at hl 2 rfl) ?_
        refine va_get (D := D) (ci := 9) (v := .ref al) (C := RX9) (T := TX9) (N := 67) hx hb hts iX9_layTold_X9 hown hK hP 0 rfl rfl 45 (by decide) (hts (.fieldLink RX9 94 "CatLeasesModel" "all" "[I") (List.mem_of_getElem? (i := 1) rfl)) (fun _ h9 => h9) h_y_all dX9_layTold_150 ?_
        refine lv_bipush (v := 14) hx hb dX9_layTold_153 (by decide) ?_
        refine lv_iload_n hx hb dX9_layTold_155 rfl (lv_at hl 0 rfl) ?_
        refine lv_iadd hx hb dX9_layTold_156 ?_
        refine k_top (v := 14) (by decide) ?_
        refine lv_iload_n hx hb dX9_layTold_157 rfl (lv_at hl 0 rfl) ?_
        refine lv_aload_n hx hb dX9_layTold_158 rfl (lv_at hl 2 rfl) ?_
        refine k_goi (wr := [(yt, .inl (g 1, 2, .inl f_yt)), (yc, .inl (g 1, 2, .inl f_yc)), (al, .inl (g 1, 39, .inl (upd (upd (upd (upd (upd (upd (upd (upd (upd (upd (upd (upd (upd (upd (upd (upd (upd (upd (upd (upd (upd f_3 0 (-1)) 22 0) 29 0) 1 (-1)) 23 0) 30 0) 2 (-1)) 24 0) 31 0) 3 (-1)) 25 0) 32 0) 4 (-1)) 26 0) 33 0) 5 (-1)) 27 0) 34 0) 6 (-1)) 28 0) 35 0))), (dw, .inl (g 1, 2, .inl f_dw))]) hP hD hS hA [0, 3] [1, 2, 4, 5] rfl rfl (by decide) (by decide) (va_runV (As := []) (rest := [.int 0, .int 14, .ref al]) ⟨hx, hb, hml, hown, hts⟩ (m_chambers1 l D g _ y yr fs_y f_yr h_y_rooms h_y_bank h_yr_at1) (cwV 0 hts gX9_layTold_X9_chambers rfl rfl rfl (by decide +kernel) ⟨Nat.le_of_ble_eq_true rfl, Nat.le_of_ble_eq_true rfl⟩) (k_preV hK (hP.sub [0, 3] rfl) (hD.sub [0, 3] (by decide) rfl) 9 0 rfl rfl) rfl rfl hl.1 rfl (lv_room (Nat.le_of_ble_eq_true rfl)) dX9_layTold_159 ⟨(Nat.le_of_ble_eq_true rfl), (Nat.le_of_ble_eq_true rfl)⟩) (fun r_24 u_25 H locs hw hP hD hS => ?_)
        rcases hw with ⟨rfl, rfl⟩
        have hP := hP.sub (ws' := [(y, .inr (9, fs_y)), (yt, .inl (g 1, 2, .inl f_yt)), (yc, .inl (g 1, 2, .inl f_yc)), (yr, .inl (g 1, 2, .inl f_yr)), (al, .inl (g 1, 39, .inl (upd (upd (upd (upd (upd (upd (upd (upd (upd (upd (upd (upd (upd (upd (upd (upd (upd (upd (upd (upd (upd f_3 0 (-1)) 22 0) 29 0) 1 (-1)) 23 0) 30 0) 2 (-1)) 24 0) 31 0) 3 (-1)) 25 0) 32 0) 4 (-1)) 26 0) 33 0) 5 (-1)) 27 0) 34 0) 6 (-1)) 28 0) 35 0))), (dw, .inl (g 1, 2, .inl f_dw))]) [4, 0, 1, 5, 2, 3] rfl
        have hD := hD.sub (ws' := [(y, .inr (9, fs_y)), (yt, .inl (g 1, 2, .inl f_yt)), (yc, .inl (g 1, 2, .inl f_yc)), (yr, .inl (g 1, 2, .inl f_yr)), (al, .inl (g 1, 39, .inl (upd (upd (upd (upd (upd (upd (upd (upd (upd (upd (upd (upd (upd (upd (upd (upd (upd (upd (upd (upd (upd f_3 0 (-1)) 22 0) 29 0) 1 (-1)) 23 0) 30 0) 2 (-1)) 24 0) 31 0) 3 (-1)) 25 0) 32 0) 4 (-1)) 26 0) 33 0) 5 (-1)) 27 0) 34 0) 6 (-1)) 28 0) 35 0))), (dw, .inl (g 1, 2, .inl f_dw))]) [4, 0, 1, 5, 2, 3] (by decide) rfl
        refine lv_icmp_ge (tgt := 182) hx hb dX9_layTold_162 (by decide) (fun _ => ?_) (fun c9 => absurd (by first | decide | rfl) c9)
        refine lv_iconst (v := (-1)) hx hb dX9_layTold_182 (by decide) ?_
        refine va_iast hx hb hK hP hD hS 4 1 rfl rfl (k_in (i := 14) (n := 39) (by decide)) dX9_layTold_183 (fun H locs hP hD hS => ?_)
        have hP : va_P D vwCl [(y, .inr (9, fs_y)), (yt, .inl (g 1, 2, .inl f_yt)), (yc, .inl (g 1, 2, .inl f_yc)), (yr, .inl (g 1, 2, .inl f_yr)), (al, .inl (g 1, 39, .inl (upd (upd (upd (upd (upd (upd (upd (upd (upd (upd (upd (upd (upd (upd (upd (upd (upd (upd (upd (upd (upd (upd f_3 0 (-1)) 22 0) 29 0) 1 (-1)) 23 0) 30 0) 2 (-1)) 24 0) 31 0) 3 (-1)) 25 0) 32 0) 4 (-1)) 26 0) 33 0) 5 (-1)) 27 0) 34 0) 6 (-1)) 28 0) 35 0) 14 (-1)))), (dw, .inl (g 1, 2, .inl f_dw))] H := hP
        have hD : va_D A [(y, .inr (9, fs_y)), (yt, .inl (g 1, 2, .inl f_yt)), (yc, .inl (g 1, 2, .inl f_yc)), (yr, .inl (g 1, 2, .inl f_yr)), (al, .inl (g 1, 39, .inl (upd (upd (upd (upd (upd (upd (upd (upd (upd (upd (upd (upd (upd (upd (upd (upd (upd (upd (upd (upd (upd (upd f_3 0 (-1)) 22 0) 29 0) 1 (-1)) 23 0) 30 0) 2 (-1)) 24 0) 31 0) 3 (-1)) 25 0) 32 0) 4 (-1)) 26 0) 33 0) 5 (-1)) 27 0) 34 0) 6 (-1)) 28 0) 35 0) 14 (-1)))), (dw, .inl (g 1, 2, .inl f_dw))] := hD
        refine lv_iinc (v := 1) (lv' := [(1, .int 1), (2, .int 0), (0, .ref y)]) hx hb dX9_layTold_184 hl (k := 0) rfl (by decide) (by decide) rfl (fun ls hl => ?_)
        refine lv_goto (tgt := 143) hx hb dX9_layTold_187 (by decide) ?_
        refine lv_iload_n hx hb dX9_layTold_143 rfl (lv_at hl 0 rfl) ?_
        refine lv_bipush (v := 8) hx hb dX9_layTold_144 (by decide) ?_
        refine lv_icmp_ge (tgt := 190) hx hb dX9_layTold_146 (by decide) (fun c9 => absurd c9 (by first | decide | simp)) (fun _ => ?_)
        refine lv_aload_n hx hb dX9_layTold_149 rfl (lv_at hl 2 rfl) ?_
        refine va_get (D := D) (ci := 9) (v := .ref al) (C := RX9) (T := TX9) (N := 67) hx hb hts iX9_layTold_X9 hown hK hP 0 rfl rfl 45 (by decide) (hts (.fieldLink RX9 94 "CatLeasesModel" "all" "[I") (List.mem_of_getElem? (i := 1) rfl)) (fun _ h9 => h9) h_y_all dX9_layTold_150 ?_
        refine lv_bipush (v := 14) hx hb dX9_layTold_153 (by decide) ?_
        refine lv_iload_n hx hb dX9_layTold_155 rfl (lv_at hl 0 rfl) ?_
        refine lv_iadd hx hb dX9_layTold_156 ?_
        refine k_top (v := 15) (by decide) ?_
        refine lv_iload_n hx hb dX9_layTold_157 rfl (lv_at hl 0 rfl) ?_
        refine lv_aload_n hx hb dX9_layTold_158 rfl (lv_at hl 2 rfl) ?_
        refine k_goi (wr := [(yt, .inl (g 1, 2, .inl f_yt)), (yc, .inl (g 1, 2, .inl f_yc)), (al, .inl (g 1, 39, .inl (upd (upd (upd (upd (upd (upd (upd (upd (upd (upd (upd (upd (upd (upd (upd (upd (upd (upd (upd (upd (upd (upd f_3 0 (-1)) 22 0) 29 0) 1 (-1)) 23 0) 30 0) 2 (-1)) 24 0) 31 0) 3 (-1)) 25 0) 32 0) 4 (-1)) 26 0) 33 0) 5 (-1)) 27 0) 34 0) 6 (-1)) 28 0) 35 0) 14 (-1)))), (dw, .inl (g 1, 2, .inl f_dw))]) hP hD hS hA [0, 3] [1, 2, 4, 5] rfl rfl (by decide) (by decide) (va_runV (As := []) (rest := [.int 1, .int 15, .ref al]) ⟨hx, hb, hml, hown, hts⟩ (m_chambers1 l D g _ y yr fs_y f_yr h_y_rooms h_y_bank h_yr_at1) (cwV 0 hts gX9_layTold_X9_chambers rfl rfl rfl (by decide +kernel) ⟨Nat.le_of_ble_eq_true rfl, Nat.le_of_ble_eq_true rfl⟩) (k_preV hK (hP.sub [0, 3] rfl) (hD.sub [0, 3] (by decide) rfl) 9 0 rfl rfl) rfl rfl hl.1 rfl (lv_room (Nat.le_of_ble_eq_true rfl)) dX9_layTold_159 ⟨(Nat.le_of_ble_eq_true rfl), (Nat.le_of_ble_eq_true rfl)⟩) (fun r_26 u_27 H locs hw hP hD hS => ?_)
        rcases hw with ⟨rfl, rfl⟩
        have hP := hP.sub (ws' := [(y, .inr (9, fs_y)), (yt, .inl (g 1, 2, .inl f_yt)), (yc, .inl (g 1, 2, .inl f_yc)), (yr, .inl (g 1, 2, .inl f_yr)), (al, .inl (g 1, 39, .inl (upd (upd (upd (upd (upd (upd (upd (upd (upd (upd (upd (upd (upd (upd (upd (upd (upd (upd (upd (upd (upd (upd f_3 0 (-1)) 22 0) 29 0) 1 (-1)) 23 0) 30 0) 2 (-1)) 24 0) 31 0) 3 (-1)) 25 0) 32 0) 4 (-1)) 26 0) 33 0) 5 (-1)) 27 0) 34 0) 6 (-1)) 28 0) 35 0) 14 (-1)))), (dw, .inl (g 1, 2, .inl f_dw))]) [4, 0, 1, 5, 2, 3] rfl
        have hD := hD.sub (ws' := [(y, .inr (9, fs_y)), (yt, .inl (g 1, 2, .inl f_yt)), (yc, .inl (g 1, 2, .inl f_yc)), (yr, .inl (g 1, 2, .inl f_yr)), (al, .inl (g 1, 39, .inl (upd (upd (upd (upd (upd (upd (upd (upd (upd (upd (upd (upd (upd (upd (upd (upd (upd (upd (upd (upd (upd (upd f_3 0 (-1)) 22 0) 29 0) 1 (-1)) 23 0) 30 0) 2 (-1)) 24 0) 31 0) 3 (-1)) 25 0) 32 0) 4 (-1)) 26 0) 33 0) 5 (-1)) 27 0) 34 0) 6 (-1)) 28 0) 35 0) 14 (-1)))), (dw, .inl (g 1, 2, .inl f_dw))]) [4, 0, 1, 5, 2, 3] (by decide) rfl
        refine lv_icmp_ge (tgt := 182) hx hb dX9_layTold_162 (by decide) (fun _ => ?_) (fun c9 => absurd (by first | decide | rfl) c9)
        refine lv_iconst (v := (-1)) hx hb dX9_layTold_182 (by decide) ?_
        refine va_iast hx hb hK hP hD hS 4 1 rfl rfl (k_in (i := 15) (n := 39) (by decide)) dX9_layTold_183 (fun H locs hP hD hS => ?_)
        have hP : va_P D vwCl [(y, .inr (9, fs_y)), (yt, .inl (g 1, 2, .inl f_yt)), (yc, .inl (g 1, 2, .inl f_yc)), (yr, .inl (g 1, 2, .inl f_yr)), (al, .inl (g 1, 39, .inl (upd (upd (upd (upd (upd (upd (upd (upd (upd (upd (upd (upd (upd (upd (upd (upd (upd (upd (upd (upd (upd (upd (upd f_3 0 (-1)) 22 0) 29 0) 1 (-1)) 23 0) 30 0) 2 (-1)) 24 0) 31 0) 3 (-1)) 25 0) 32 0) 4 (-1)) 26 0) 33 0) 5 (-1)) 27 0) 34 0) 6 (-1)) 28 0) 35 0) 14 (-1)) 15 (-1)))), (dw, .inl (g 1, 2, .inl f_dw))] H := hP
        have hD : va_D A [(y, .inr (9, fs_y)), (yt, .inl (g 1, 2, .inl f_yt)), (yc, .inl (g 1, 2, .inl f_yc)), (yr, .inl (g 1, 2, .inl f_yr)), (al, .inl (g 1, 39, .inl (upd (upd (upd (upd (upd (upd (upd (upd (upd (upd (upd (upd (upd (upd (upd (upd (upd (upd (upd (upd (upd (upd (upd f_3 0 (-1)) 22 0) 29 0) 1 (-1)) 23 0) 30 0) 2 (-1)) 24 0) 31 0) 3 (-1)) 25 0) 32 0) 4 (-1)) 26 0) 33 0) 5 (-1)) 27 0) 34 0) 6 (-1)) 28 0) 35 0) 14 (-1)) 15 (-1)))), (dw, .inl (g 1, 2, .inl f_dw))] := hD
        refine lv_iinc (v := 2) (lv' := [(1, .int 2), (2, .int 0), (0, .ref y)]) hx hb dX9_layTold_184 hl (k := 0) rfl (by decide) (by decide) rfl (fun ls hl => ?_)
        refine lv_goto (tgt := 143) hx hb dX9_layTold_187 (by decide) ?_
        refine lv_iload_n hx hb dX9_layTold_143 rfl (lv_at hl 0 rfl) ?_
        refine lv_bipush (v := 8) hx hb dX9_layTold_144 (by decide) ?_
        refine lv_icmp_ge (tgt := 190) hx hb dX9_layTold_146 (by decide) (fun c9 => absurd c9 (by first | decide | simp)) (fun _ => ?_)
        refine lv_aload_n hx hb dX9_layTold_149 rfl (lv_at hl 2 rfl) ?_
        refine va_get (D := D) (ci := 9) (v := .ref al) (C := RX9) (T := TX9) (N := 67) hx hb hts iX9_layTold_X9 hown hK hP 0 rfl rfl 45 (by decide) (hts (.fieldLink RX9 94 "CatLeasesModel" "all" "[I") (List.mem_of_getElem? (i := 1) rfl)) (fun _ h9 => h9) h_y_all dX9_layTold_150 ?_
        refine lv_bipush (v := 14) hx hb dX9_layTold_153 (by decide) ?_
        refine lv_iload_n hx hb dX9_layTold_155 rfl (lv_at hl 0 rfl) ?_
        refine lv_iadd hx hb dX9_layTold_156 ?_
        refine k_top (v := 16) (by decide) ?_
        refine lv_iload_n hx hb dX9_layTold_157 rfl (lv_at hl 0 rfl) ?_
        refine lv_aload_n hx hb dX9_layTold_158 rfl (lv_at hl 2 rfl) ?_
        refine k_goi (wr := [(yt, .inl (g 1, 2, .inl f_yt)), (yc, .inl (g 1, 2, .inl f_yc)), (al, .inl (g 1, 39, .inl (upd (upd (upd (upd (upd (upd (upd (upd (upd (upd (upd (upd (upd (upd (upd (upd (upd (upd (upd (upd (upd (upd (upd f_3 0 (-1)) 22 0) 29 0) 1 (-1)) 23 0) 30 0) 2 (-1)) 24 0) 31 0) 3 (-1)) 25 0) 32 0) 4 (-1)) 26 0) 33 0) 5 (-1)) 27 0) 34 0) 6 (-1)) 28 0) 35 0) 14 (-1)) 15 (-1)))), (dw, .inl (g 1, 2, .inl f_dw))]) hP hD hS hA [0, 3] [1, 2, 4, 5] rfl rfl (by decide) (by decide) (va_runV (As := []) (rest := [.int 2, .int 16, .ref al]) ⟨hx, hb, hml, hown, hts⟩ (m_chambers1 l D g _ y yr fs_y f_yr h_y_rooms h_y_bank h_yr_at1) (cwV 0 hts gX9_layTold_X9_chambers rfl rfl rfl (by decide +kernel) ⟨Nat.le_of_ble_eq_true rfl, Nat.le_of_ble_eq_true rfl⟩) (k_preV hK (hP.sub [0, 3] rfl) (hD.sub [0, 3] (by decide) rfl) 9 0 rfl rfl) rfl rfl hl.1 rfl (lv_room (Nat.le_of_ble_eq_true rfl)) dX9_layTold_159 ⟨(Nat.le_of_ble_eq_true rfl), (Nat.le_of_ble_eq_true rfl)⟩) (fun r_28 u_29 H locs hw hP hD hS => ?_)
        rcases hw with ⟨rfl, rfl⟩
        have hP := hP.sub (ws' := [(y, .inr (9, fs_y)), (yt, .inl (g 1, 2, .inl f_yt)), (yc, .inl (g 1, 2, .inl f_yc)), (yr, .inl (g 1, 2, .inl f_yr)), (al, .inl (g 1, 39, .inl (upd (upd (upd (upd (upd (upd (upd (upd (upd (upd (upd (upd (upd (upd (upd (upd (upd (upd (upd (upd (upd (upd (upd f_3 0 (-1)) 22 0) 29 0) 1 (-1)) 23 0) 30 0) 2 (-1)) 24 0) 31 0) 3 (-1)) 25 0) 32 0) 4 (-1)) 26 0) 33 0) 5 (-1)) 27 0) 34 0) 6 (-1)) 28 0) 35 0) 14 (-1)) 15 (-1)))), (dw, .inl (g 1, 2, .inl f_dw))]) [4, 0, 1, 5, 2, 3] rfl
        have hD := hD.sub (ws' := [(y, .inr (9, fs_y)), (yt, .inl (g 1, 2, .inl f_yt)), (yc, .inl (g 1, 2, .inl f_yc)), (yr, .inl (g 1, 2, .inl f_yr)), (al, .inl (g 1, 39, .inl (upd (upd (upd (upd (upd (upd (upd (upd (upd (upd (upd (upd (upd (upd (upd (upd (upd (upd (upd (upd (upd (upd (upd f_3 0 (-1)) 22 0) 29 0) 1 (-1)) 23 0) 30 0) 2 (-1)) 24 0) 31 0) 3 (-1)) 25 0) 32 0) 4 (-1)) 26 0) 33 0) 5 (-1)) 27 0) 34 0) 6 (-1)) 28 0) 35 0) 14 (-1)) 15 (-1)))), (dw, .inl (g 1, 2, .inl f_dw))]) [4, 0, 1, 5, 2, 3] (by decide) rfl
        refine lv_icmp_ge (tgt := 182) hx hb dX9_layTold_162 (by decide) (fun _ => ?_) (fun c9 => absurd (by first | decide | rfl) c9)
        refine lv_iconst (v := (-1)) hx hb dX9_layTold_182 (by decide) ?_
        refine va_iast hx hb hK hP hD hS 4 1 rfl rfl (k_in (i := 16) (n := 39) (by decide)) dX9_layTold_183 (fun H locs hP hD hS => ?_)
        have hP : va_P D vwCl [(y, .inr (9, fs_y)), (yt, .inl (g 1, 2, .inl f_yt)), (yc, .inl (g 1, 2, .inl f_yc)), (yr, .inl (g 1, 2, .inl f_yr)), (al, .inl (g 1, 39, .inl (upd (upd (upd (upd (upd (upd (upd (upd (upd (upd (upd (upd (upd (upd (upd (upd (upd (upd (upd (upd (upd (upd (upd (upd f_3 0 (-1)) 22 0) 29 0) 1 (-1)) 23 0) 30 0) 2 (-1)) 24 0) 31 0) 3 (-1)) 25 0) 32 0) 4 (-1)) 26 0) 33 0) 5 (-1)) 27 0) 34 0) 6 (-1)) 28 0) 35 0) 14 (-1)) 15 (-1)) 16 (-1)))), (dw, .inl (g 1, 2, .inl f_dw))] H := hP
        have hD : va_D A [(y, .inr (9, fs_y)), (yt, .inl (g 1, 2, .inl f_yt)), (yc, .inl (g 1, 2, .inl f_yc)), (yr, .inl (g 1, 2, .inl f_yr)), (al, .inl (g 1, 39, .inl (upd (upd (upd (upd (upd (upd (upd (upd (upd (upd (upd (upd (upd (upd (upd (upd (upd (upd (upd (upd (upd (upd (upd (upd f_3 0 (-1)) 22 0) 29 0) 1 (-1)) 23 0) 30 0) 2 (-1)) 24 0) 31 0) 3 (-1)) 25 0) 32 0) 4 (-1)) 26 0) 33 0) 5 (-1)) 27 0) 34 0) 6 (-1)) 28 0) 35 0) 14 (-1)) 15 (-1)) 16 (-1)))), (dw, .inl (g 1, 2, .inl f_dw))] := hD
        refine lv_iinc (v := 3) (lv' := [(1, .int 3), (2, .int 0), (0, .ref y)]) hx hb dX9_layTold_184 hl (k := 0) rfl (by decide) (by decide) rfl (fun ls hl => ?_)
        refine lv_goto (tgt := 143) hx hb dX9_layTold_187 (by decide) ?_
        refine lv_iload_n hx hb dX9_layTold_143 rfl (lv_at hl 0 rfl) ?_
        refine lv_bipush (v := 8) hx hb dX9_layTold_144 (by decide) ?_
        refine lv_icmp_ge (tgt := 190) hx hb dX9_layTold_146 (by decide) (fun c9 => absurd c9 (by first | decide | simp)) (fun _ => ?_)
        refine lv_aload_n hx hb dX9_layTold_149 rfl (lv_at hl 2 rfl) ?_
        refine va_get (D := D) (ci := 9) (v := .ref al) (C := RX9) (T := TX9) (N := 67) hx hb hts iX9_layTold_X9 hown hK hP 0 rfl rfl 45 (by decide) (hts (.fieldLink RX9 94 "CatLeasesModel" "all" "[I") (List.mem_of_getElem? (i := 1) rfl)) (fun _ h9 => h9) h_y_all dX9_layTold_150 ?_
        refine lv_bipush (v := 14) hx hb dX9_layTold_153 (by decide) ?_
        refine lv_iload_n hx hb dX9_layTold_155 rfl (lv_at hl 0 rfl) ?_
        refine lv_iadd hx hb dX9_layTold_156 ?_
        refine k_top (v := 17) (by decide) ?_
        refine lv_iload_n hx hb dX9_layTold_157 rfl (lv_at hl 0 rfl) ?_
        refine lv_aload_n hx hb dX9_layTold_158 rfl (lv_at hl 2 rfl) ?_
        refine k_goi (wr := [(yt, .inl (g 1, 2, .inl f_yt)), (yc, .inl (g 1, 2, .inl f_yc)), (al, .inl (g 1, 39, .inl (upd (upd (upd (upd (upd (upd (upd (upd (upd (upd (upd (upd (upd (upd (upd (upd (upd (upd (upd (upd (upd (upd (upd (upd f_3 0 (-1)) 22 0) 29 0) 1 (-1)) 23 0) 30 0) 2 (-1)) 24 0) 31 0) 3 (-1)) 25 0) 32 0) 4 (-1)) 26 0) 33 0) 5 (-1)) 27 0) 34 0) 6 (-1)) 28 0) 35 0) 14 (-1)) 15 (-1)) 16 (-1)))), (dw, .inl (g 1, 2, .inl f_dw))]) hP hD hS hA [0, 3] [1, 2, 4, 5] rfl rfl (by decide) (by decide) (va_runV (As := []) (rest := [.int 3, .int 17, .ref al]) ⟨hx, hb, hml, hown, hts⟩ (m_chambers1 l D g _ y yr fs_y f_yr h_y_rooms h_y_bank h_yr_at1) (cwV 0 hts gX9_layTold_X9_chambers rfl rfl rfl (by decide +kernel) ⟨Nat.le_of_ble_eq_true rfl, Nat.le_of_ble_eq_true rfl⟩) (k_preV hK (hP.sub [0, 3] rfl) (hD.sub [0, 3] (by decide) rfl) 9 0 rfl rfl) rfl rfl hl.1 rfl (lv_room (Nat.le_of_ble_eq_true rfl)) dX9_layTold_159 ⟨(Nat.le_of_ble_eq_true rfl), (Nat.le_of_ble_eq_true rfl)⟩) (fun r_30 u_31 H locs hw hP hD hS => ?_)
        rcases hw with ⟨rfl, rfl⟩
        have hP := hP.sub (ws' := [(y, .inr (9, fs_y)), (yt, .inl (g 1, 2, .inl f_yt)), (yc, .inl (g 1, 2, .inl f_yc)), (yr, .inl (g 1, 2, .inl f_yr)), (al, .inl (g 1, 39, .inl (upd (upd (upd (upd (upd (upd (upd (upd (upd (upd (upd (upd (upd (upd (upd (upd (upd (upd (upd (upd (upd (upd (upd (upd f_3 0 (-1)) 22 0) 29 0) 1 (-1)) 23 0) 30 0) 2 (-1)) 24 0) 31 0) 3 (-1)) 25 0) 32 0) 4 (-1)) 26 0) 33 0) 5 (-1)) 27 0) 34 0) 6 (-1)) 28 0) 35 0) 14 (-1)) 15 (-1)) 16 (-1)))), (dw, .inl (g 1, 2, .inl f_dw))]) [4, 0, 1, 5, 2, 3] rfl
        have hD := hD.sub (ws' := [(y, .inr (9, fs_y)), (yt, .inl (g 1, 2, .inl f_yt)), (yc, .inl (g 1, 2, .inl f_yc)), (yr, .inl (g 1, 2, .inl f_yr)), (al, .inl (g 1, 39, .inl (upd (upd (upd (upd (upd (upd (upd (upd (upd (upd (upd (upd (upd (upd (upd (upd (upd (upd (upd (upd (upd (upd (upd (upd f_3 0 (-1)) 22 0) 29 0) 1 (-1)) 23 0) 30 0) 2 (-1)) 24 0) 31 0) 3 (-1)) 25 0) 32 0) 4 (-1)) 26 0) 33 0) 5 (-1)) 27 0) 34 0) 6 (-1)) 28 0) 35 0) 14 (-1)) 15 (-1)) 16 (-1)))), (dw, .inl (g 1, 2, .inl f_dw))]) [4, 0, 1, 5, 2, 3] (by decide) rfl
        refine lv_icmp_ge (tgt := 182) hx hb dX9_layTold_162 (by decide) (fun _ => ?_) (fun c9 => absurd (by first | decide | rfl) c9)
        refine lv_iconst (v := (-1)) hx hb dX9_layTold_182 (by decide) ?_
        refine va_iast hx hb hK hP hD hS 4 1 rfl rfl (k_in (i := 17) (n := 39) (by decide)) dX9_layTold_183 (fun H locs hP hD hS => ?_)
        have hP : va_P D vwCl [(y, .inr (9, fs_y)), (yt, .inl (g 1, 2, .inl f_yt)), (yc, .inl (g 1, 2, .inl f_yc)), (yr, .inl (g 1, 2, .inl f_yr)), (al, .inl (g 1, 39, .inl (upd (upd (upd (upd (upd (upd (upd (upd (upd (upd (upd (upd (upd (upd (upd (upd (upd (upd (upd (upd (upd (upd (upd (upd (upd f_3 0 (-1)) 22 0) 29 0) 1 (-1)) 23 0) 30 0) 2 (-1)) 24 0) 31 0) 3 (-1)) 25 0) 32 0) 4 (-1)) 26 0) 33 0) 5 (-1)) 27 0) 34 0) 6 (-1)) 28 0) 35 0) 14 (-1)) 15 (-1)) 16 (-1)) 17 (-1)))), (dw, .inl (g 1, 2, .inl f_dw))] H := hP
        have hD : va_D A [(y, .inr (9, fs_y)), (yt, .inl (g 1, 2, .inl f_yt)), (yc, .inl (g 1, 2, .inl f_yc)), (yr, .inl (g 1, 2, .inl f_yr)), (al, .inl (g 1, 39, .inl (upd (upd (upd (upd (upd (upd (upd (upd (upd (upd (upd (upd (upd (upd (upd (upd (upd (upd (upd (upd (upd (upd (upd (upd (upd f_3 0 (-1)) 22 0) 29 0) 1 (-1)) 23 0) 30 0) 2 (-1)) 24 0) 31 0) 3 (-1)) 25 0) 32 0) 4 (-1)) 26 0) 33 0) 5 (-1)) 27 0) 34 0) 6 (-1)) 28 0) 35 0) 14 (-1)) 15 (-1)) 16 (-1)) 17 (-1)))), (dw, .inl (g 1, 2, .inl f_dw))] := hD
        refine lv_iinc (v := 4) (lv' := [(1, .int 4), (2, .int 0), (0, .ref y)]) hx hb dX9_layTold_184 hl (k := 0) rfl (by decide) (by decide) rfl (fun ls hl => ?_)
        refine lv_goto (tgt := 143) hx hb dX9_layTold_187 (by decide) ?_
        refine lv_iload_n hx hb dX9_layTold_143 rfl (lv_at hl 0 rfl) ?_
        refine lv_bipush (v := 8) hx hb dX9_layTold_144 (by decide) ?_
        refine lv_icmp_ge (tgt := 190) hx hb dX9_layTold_146 (by decide) (fun c9 => absurd c9 (by first | decide | simp)) (fun _ => ?_)
        refine lv_aload_n hx hb dX9_layTold_149 rfl (lv_at hl 2 rfl) ?_
        refine va_get (D := D) (ci := 9) (v := .ref al) (C := RX9) (T := TX9) (N := 67) hx hb hts iX9_layTold_X9 hown hK hP 0 rfl rfl 45 (by decide) (hts (.fieldLink RX9 94 "CatLeasesModel" "all" "[I") (List.mem_of_getElem? (i := 1) rfl)) (fun _ h9 => h9) h_y_all dX9_layTold_150 ?_
        refine lv_bipush (v := 14) hx hb dX9_layTold_153 (by decide) ?_
        refine lv_iload_n hx hb dX9_layTold_155 rfl (lv_at hl 0 rfl) ?_
        refine lv_iadd hx hb dX9_layTold_156 ?_
        refine k_top (v := 18) (by decide) ?_
        refine lv_iload_n hx hb dX9_layTold_157 rfl (lv_at hl 0 rfl) ?_
        refine lv_aload_n hx hb dX9_layTold_158 rfl (lv_at hl 2 rfl) ?_
        refine k_goi (wr := [(yt, .inl (g 1, 2, .inl f_yt)), (yc, .inl (g 1, 2, .inl f_yc)), (al, .inl (g 1, 39, .inl (upd (upd (upd (upd (upd (upd (upd (upd (upd (upd (upd (upd (upd (upd (upd (upd (upd (upd (upd (upd (upd (upd (upd (upd (upd f_3 0 (-1)) 22 0) 29 0) 1 (-1)) 23 0) 30 0) 2 (-1)) 24 0) 31 0) 3 (-1)) 25 0) 32 0) 4 (-1)) 26 0) 33 0) 5 (-1)) 27 0) 34 0) 6 (-1)) 28 0) 35 0) 14 (-1)) 15 (-1)) 16 (-1)) 17 (-1)))), (dw, .inl (g 1, 2, .inl f_dw))]) hP hD hS hA [0, 3] [1, 2, 4, 5] rfl rfl (by decide) (by decide) (va_runV (As := []) (rest := [.int 4, .int 18, .ref al]) ⟨hx, hb, hml, hown, hts⟩ (m_chambers1 l D g _ y yr fs_y f_yr h_y_rooms h_y_bank h_yr_at1) (cwV 0 hts gX9_layTold_X9_chambers rfl rfl rfl (by decide +kernel) ⟨Nat.le_of_ble_eq_true rfl, Nat.le_of_ble_eq_true rfl⟩) (k_preV hK (hP.sub [0, 3] rfl) (hD.sub [0, 3] (by decide) rfl) 9 0 rfl rfl) rfl rfl hl.1 rfl (lv_room (Nat.le_of_ble_eq_true rfl)) dX9_layTold_159 ⟨(Nat.le_of_ble_eq_true rfl), (Nat.le_of_ble_eq_true rfl)⟩) (fun r_32 u_33 H locs hw hP hD hS => ?_)
        rcases hw with ⟨rfl, rfl⟩
        have hP := hP.sub (ws' := [(y, .inr (9, fs_y)), (yt, .inl (g 1, 2, .inl f_yt)), (yc, .inl (g 1, 2, .inl f_yc)), (yr, .inl (g 1, 2, .inl f_yr)), (al, .inl (g 1, 39, .inl (upd (upd (upd (upd (upd (upd (upd (upd (upd (upd (upd (upd (upd (upd (upd (upd (upd (upd (upd (upd (upd (upd (upd (upd (upd f_3 0 (-1)) 22 0) 29 0) 1 (-1)) 23 0) 30 0) 2 (-1)) 24 0) 31 0) 3 (-1)) 25 0) 32 0) 4 (-1)) 26 0) 33 0) 5 (-1)) 27 0) 34 0) 6 (-1)) 28 0) 35 0) 14 (-1)) 15 (-1)) 16 (-1)) 17 (-1)))), (dw, .inl (g 1, 2, .inl f_dw))]) [4, 0, 1, 5, 2, 3] rfl
        have hD := hD.sub (ws' := [(y, .inr (9, fs_y)), (yt, .inl (g 1, 2, .inl f_yt)), (yc, .inl (g 1, 2, .inl f_yc)), (yr, .inl (g 1, 2, .inl f_yr)), (al, .inl (g 1, 39, .inl (upd (upd (upd (upd (upd (upd (upd (upd (upd (upd (upd (upd (upd (upd (upd (upd (upd (upd (upd (upd (upd (upd (upd (upd (upd f_3 0 (-1)) 22 0) 29 0) 1 (-1)) 23 0) 30 0) 2 (-1)) 24 0) 31 0) 3 (-1)) 25 0) 32 0) 4 (-1)) 26 0) 33 0) 5 (-1)) 27 0) 34 0) 6 (-1)) 28 0) 35 0) 14 (-1)) 15 (-1)) 16 (-1)) 17 (-1)))), (dw, .inl (g 1, 2, .inl f_dw))]) [4, 0, 1, 5, 2, 3] (by decide) rfl
        refine lv_icmp_ge (tgt := 182) hx hb dX9_layTold_162 (by decide) (fun _ => ?_) (fun c9 => absurd (by first | decide | rfl) c9)
        refine lv_iconst (v := (-1)) hx hb dX9_layTold_182 (by decide) ?_
        refine va_iast hx hb hK hP hD hS 4 1 rfl rfl (k_in (i := 18) (n := 39) (by decide)) dX9_layTold_183 (fun H locs hP hD hS => ?_)
        have hP : va_P D vwCl [(y, .inr (9, fs_y)), (yt, .inl (g 1, 2, .inl f_yt)), (yc, .inl (g 1, 2, .inl f_yc)), (yr, .inl (g 1, 2, .inl f_yr)), (al, .inl (g 1, 39, .inl (upd (upd (upd (upd (upd (upd (upd (upd (upd (upd (upd (upd (upd (upd (upd (upd (upd (upd (upd (upd (upd (upd (upd (upd (upd (upd f_3 0 (-1)) 22 0) 29 0) 1 (-1)) 23 0) 30 0) 2 (-1)) 24 0) 31 0) 3 (-1)) 25 0) 32 0) 4 (-1)) 26 0) 33 0) 5 (-1)) 27 0) 34 0) 6 (-1)) 28 0) 35 0) 14 (-1)) 15 (-1)) 16 (-1)) 17 (-1)) 18 (-1)))), (dw, .inl (g 1, 2, .inl f_dw))] H := hP
        have hD : va_D A [(y, .inr (9, fs_y)), (yt, .inl (g 1, 2, .inl f_yt)), (yc, .inl (g 1, 2, .inl f_yc)), (yr, .inl (g 1, 2, .inl f_yr)), (al, .inl (g 1, 39, .inl (upd (upd (upd (upd (upd (upd (upd (upd (upd (upd (upd (upd (upd (upd (upd (upd (upd (upd (upd (upd (upd (upd (upd (upd (upd (upd f_3 0 (-1)) 22 0) 29 0) 1 (-1)) 23 0) 30 0) 2 (-1)) 24 0) 31 0) 3 (-1)) 25 0) 32 0) 4 (-1)) 26 0) 33 0) 5 (-1)) 27 0) 34 0) 6 (-1)) 28 0) 35 0) 14 (-1)) 15 (-1)) 16 (-1)) 17 (-1)) 18 (-1)))), (dw, .inl (g 1, 2, .inl f_dw))] := hD
        refine lv_iinc (v := 5) (lv' := [(1, .int 5), (2, .int 0), (0, .ref y)]) hx hb dX9_layTold_184 hl (k := 0) rfl (by decide) (by decide) rfl (fun ls hl => ?_)
        refine lv_goto (tgt := 143) hx hb dX9_layTold_187 (by decide) ?_
        refine lv_iload_n hx hb dX9_layTold_143 rfl (lv_at hl 0 rfl) ?_
        refine lv_bipush (v := 8) hx hb dX9_layTold_144 (by decide) ?_
        refine lv_icmp_ge (tgt := 190) hx hb dX9_layTold_146 (by decide) (fun c9 => absurd c9 (by first | decide | simp)) (fun _ => ?_)
        refine lv_aload_n hx hb dX9_layTold_149 rfl (lv_at hl 2 rfl) ?_
        refine va_get (D := D) (ci := 9) (v := .ref al) (C := RX9) (T := TX9) (N := 67) hx hb hts iX9_layTold_X9 hown hK hP 0 rfl rfl 45 (by decide) (hts (.fieldLink RX9 94 "CatLeasesModel" "all" "[I") (List.mem_of_getElem? (i := 1) rfl)) (fun _ h9 => h9) h_y_all dX9_layTold_150 ?_
        refine lv_bipush (v := 14) hx hb dX9_layTold_153 (by decide) ?_
        refine lv_iload_n hx hb dX9_layTold_155 rfl (lv_at hl 0 rfl) ?_
        refine lv_iadd hx hb dX9_layTold_156 ?_
        refine k_top (v := 19) (by decide) ?_
        refine lv_iload_n hx hb dX9_layTold_157 rfl (lv_at hl 0 rfl) ?_
        refine lv_aload_n hx hb dX9_layTold_158 rfl (lv_at hl 2 rfl) ?_
        refine k_goi (wr := [(yt, .inl (g 1, 2, .inl f_yt)), (yc, .inl (g 1, 2, .inl f_yc)), (al, .inl (g 1, 39, .inl (upd (upd (upd (upd (upd (upd (upd (upd (upd (upd (upd (upd (upd (upd (upd (upd (upd (upd (upd (upd (upd (upd (upd (upd (upd (upd f_3 0 (-1)) 22 0) 29 0) 1 (-1)) 23 0) 30 0) 2 (-1)) 24 0) 31 0) 3 (-1)) 25 0) 32 0) 4 (-1)) 26 0) 33 0) 5 (-1)) 27 0) 34 0) 6 (-1)) 28 0) 35 0) 14 (-1)) 15 (-1)) 16 (-1)) 17 (-1)) 18 (-1)))), (dw, .inl (g 1, 2, .inl f_dw))]) hP hD hS hA [0, 3] [1, 2, 4, 5] rfl rfl (by decide) (by decide) (va_runV (As := []) (rest := [.int 5, .int 19, .ref al]) ⟨hx, hb, hml, hown, hts⟩ (m_chambers1 l D g _ y yr fs_y f_yr h_y_rooms h_y_bank h_yr_at1) (cwV 0 hts gX9_layTold_X9_chambers rfl rfl rfl (by decide +kernel) ⟨Nat.le_of_ble_eq_true rfl, Nat.le_of_ble_eq_true rfl⟩) (k_preV hK (hP.sub [0, 3] rfl) (hD.sub [0, 3] (by decide) rfl) 9 0 rfl rfl) rfl rfl hl.1 rfl (lv_room (Nat.le_of_ble_eq_true rfl)) dX9_layTold_159 ⟨(Nat.le_of_ble_eq_true rfl), (Nat.le_of_ble_eq_true rfl)⟩) (fun r_34 u_35 H locs hw hP hD hS => ?_)
        rcases hw with ⟨rfl, rfl⟩
        have hP := hP.sub (ws' := [(y, .inr (9, fs_y)), (yt, .inl (g 1, 2, .inl f_yt)), (yc, .inl (g 1, 2, .inl f_yc)), (yr, .inl (g 1, 2, .inl f_yr)), (al, .inl (g 1, 39, .inl (upd (upd (upd (upd (upd (upd (upd (upd (upd (upd (upd (upd (upd (upd (upd (upd (upd (upd (upd (upd (upd (upd (upd (upd (upd (upd f_3 0 (-1)) 22 0) 29 0) 1 (-1)) 23 0) 30 0) 2 (-1)) 24 0) 31 0) 3 (-1)) 25 0) 32 0) 4 (-1)) 26 0) 33 0) 5 (-1)) 27 0) 34 0) 6 (-1)) 28 0) 35 0) 14 (-1)) 15 (-1)) 16 (-1)) 17 (-1)) 18 (-1)))), (dw, .inl (g 1, 2, .inl f_dw))]) [4, 0, 1, 5, 2, 3] rfl
        have hD := hD.sub (ws' := [(y, .inr (9, fs_y)), (yt, .inl (g 1, 2, .inl f_yt)), (yc, .inl (g 1, 2, .inl f_yc)), (yr, .inl (g 1, 2, .inl f_yr)), (al, .inl (g 1, 39, .inl (upd (upd (upd (upd (upd (upd (upd (upd (upd (upd (upd (upd (upd (upd (upd (upd (upd (upd (upd (upd (upd (upd (upd (upd (upd (upd f_3 0 (-1)) 22 0) 29 0) 1 (-1)) 23 0) 30 0) 2 (-1)) 24 0) 31 0) 3 (-1)) 25 0) 32 0) 4 (-1)) 26 0) 33 0) 5 (-1)) 27 0) 34 0) 6 (-1)) 28 0) 35 0) 14 (-1)) 15 (-1)) 16 (-1)) 17 (-1)) 18 (-1)))), (dw, .inl (g 1, 2, .inl f_dw))]) [4, 0, 1, 5, 2, 3] (by decide) rfl
        refine lv_icmp_ge (tgt := 182) hx hb dX9_layTold_162 (by decide) (fun _ => ?_) (fun c9 => absurd (by first | decide | rfl) c9)
        refine lv_iconst (v := (-1)) hx hb dX9_layTold_182 (by decide) ?_
        refine va_iast hx hb hK hP hD hS 4 1 rfl rfl (k_in (i := 19) (n := 39) (by decide)) dX9_layTold_183 (fun H locs hP hD hS => ?_)
        have hP : va_P D vwCl [(y, .inr (9, fs_y)), (yt, .inl (g 1, 2, .inl f_yt)), (yc, .inl (g 1, 2, .inl f_yc)), (yr, .inl (g 1, 2, .inl f_yr)), (al, .inl (g 1, 39, .inl (upd (upd (upd (upd (upd (upd (upd (upd (upd (upd (upd (upd (upd (upd (upd (upd (upd (upd (upd (upd (upd (upd (upd (upd (upd (upd (upd f_3 0 (-1)) 22 0) 29 0) 1 (-1)) 23 0) 30 0) 2 (-1)) 24 0) 31 0) 3 (-1)) 25 0) 32 0) 4 (-1)) 26 0) 33 0) 5 (-1)) 27 0) 34 0) 6 (-1)) 28 0) 35 0) 14 (-1)) 15 (-1)) 16 (-1)) 17 (-1)) 18 (-1)) 19 (-1)))), (dw, .inl (g 1, 2, .inl f_dw))] H := hP
        have hD : va_D A [(y, .inr (9, fs_y)), (yt, .inl (g 1, 2, .inl f_yt)), (yc, .inl (g 1, 2, .inl f_yc)), (yr, .inl (g 1, 2, .inl f_yr)), (al, .inl (g 1, 39, .inl (upd (upd (upd (upd (upd (upd (upd (upd (upd (upd (upd (upd (upd (upd (upd (upd (upd (upd (upd (upd (upd (upd (upd (upd (upd (upd (upd f_3 0 (-1)) 22 0) 29 0) 1 (-1)) 23 0) 30 0) 2 (-1)) 24 0) 31 0) 3 (-1)) 25 0) 32 0) 4 (-1)) 26 0) 33 0) 5 (-1)) 27 0) 34 0) 6 (-1)) 28 0) 35 0) 14 (-1)) 15 (-1)) 16 (-1)) 17 (-1)) 18 (-1)) 19 (-1)))), (dw, .inl (g 1, 2, .inl f_dw))] := hD
        refine lv_iinc (v := 6) (lv' := [(1, .int 6), (2, .int 0), (0, .ref y)]) hx hb dX9_layTold_184 hl (k := 0) rfl (by decide) (by decide) rfl (fun ls hl => ?_)
        refine lv_goto (tgt := 143) hx hb dX9_layTold_187 (by decide) ?_
        refine lv_iload_n hx hb dX9_layTold_143 rfl (lv_at hl 0 rfl) ?_
        refine lv_bipush (v := 8) hx hb dX9_layTold_144 (by decide) ?_
        refine lv_icmp_ge (tgt := 190) hx hb dX9_layTold_146 (by decide) (fun c9 => absurd c9 (by first | decide | simp)) (fun _ => ?_)
        refine lv_aload_n hx hb dX9_layTold_149 rfl (lv_at hl 2 rfl) ?_
        refine va_get (D := D) (ci := 9) (v := .ref al) (C := RX9) (T := TX9) (N := 67) hx hb hts iX9_layTold_X9 hown hK hP 0 rfl rfl 45 (by decide) (hts (.fieldLink RX9 94 "CatLeasesModel" "all" "[I") (List.mem_of_getElem? (i := 1) rfl)) (fun _ h9 => h9) h_y_all dX9_layTold_150 ?_
        refine lv_bipush (v := 14) hx hb dX9_layTold_153 (by decide) ?_
        refine lv_iload_n hx hb dX9_layTold_155 rfl (lv_at hl 0 rfl) ?_
        refine lv_iadd hx hb dX9_layTold_156 ?_
        refine k_top (v := 20) (by decide) ?_
        refine lv_iload_n hx hb dX9_layTold_157 rfl (lv_at hl 0 rfl) ?_
        refine lv_aload_n hx hb dX9_layTold_158 rfl (lv_at hl 2 rfl) ?_
        refine k_goi (wr := [(yt, .inl (g 1, 2, .inl f_yt)), (yc, .inl (g 1, 2, .inl f_yc)), (al, .inl (g 1, 39, .inl (upd (upd (upd (upd (upd (upd (upd (upd (upd (upd (upd (upd (upd (upd (upd (upd (upd (upd (upd (upd (upd (upd (upd (upd (upd (upd (upd f_3 0 (-1)) 22 0) 29 0) 1 (-1)) 23 0) 30 0) 2 (-1)) 24 0) 31 0) 3 (-1)) 25 0) 32 0) 4 (-1)) 26 0) 33 0) 5 (-1)) 27 0) 34 0) 6 (-1)) 28 0) 35 0) 14 (-1)) 15 (-1)) 16 (-1)) 17 (-1)) 18 (-1)) 19 (-1)))), (dw, .inl (g 1, 2, .inl f_dw))]) hP hD hS hA [0, 3] [1, 2, 4, 5] rfl rfl (by decide) (by decide) (va_runV (As := []) (rest := [.int 6, .int 20, .ref al]) ⟨hx, hb, hml, hown, hts⟩ (m_chambers1 l D g _ y yr fs_y f_yr h_y_rooms h_y_bank h_yr_at1) (cwV 0 hts gX9_layTold_X9_chambers rfl rfl rfl (by decide +kernel) ⟨Nat.le_of_ble_eq_true rfl, Nat.le_of_ble_eq_true rfl⟩) (k_preV hK (hP.sub [0, 3] rfl) (hD.sub [0, 3] (by decide) rfl) 9 0 rfl rfl) rfl rfl hl.1 rfl (lv_room (Nat.le_of_ble_eq_true rfl)) dX9_layTold_159 ⟨(Nat.le_of_ble_eq_true rfl), (Nat.le_of_ble_eq_true rfl)⟩) (fun r_36 u_37 H locs hw hP hD hS => ?_)
        rcases hw with ⟨rfl, rfl⟩
        have hP := hP.sub (ws' := [(y, .inr (9, fs_y)), (yt, .inl (g 1, 2, .inl f_yt)), (yc, .inl (g 1, 2, .inl f_yc)), (yr, .inl (g 1, 2, .inl f_yr)), (al, .inl (g 1, 39, .inl (upd (upd (upd (upd (upd (upd (upd (upd (upd (upd (upd (upd (upd (upd (upd (upd (upd (upd (upd (upd (upd (upd (upd (upd (upd (upd (upd f_3 0 (-1)) 22 0) 29 0) 1 (-1)) 23 0) 30 0) 2 (-1)) 24 0) 31 0) 3 (-1)) 25 0) 32 0) 4 (-1)) 26 0) 33 0) 5 (-1)) 27 0) 34 0) 6 (-1)) 28 0) 35 0) 14 (-1)) 15 (-1)) 16 (-1)) 17 (-1)) 18 (-1)) 19 (-1)))), (dw, .inl (g 1, 2, .inl f_dw))]) [4, 0, 1, 5, 2, 3] rfl
        have hD := hD.sub (ws' := [(y, .inr (9, fs_y)), (yt, .inl (g 1, 2, .inl f_yt)), (yc, .inl (g 1, 2, .inl f_yc)), (yr, .inl (g 1, 2, .inl f_yr)), (al, .inl (g 1, 39, .inl (upd (upd (upd (upd (upd (upd (upd (upd (upd (upd (upd (upd (upd (upd (upd (upd (upd (upd (upd (upd (upd (upd (upd (upd (upd (upd (upd f_3 0 (-1)) 22 0) 29 0) 1 (-1)) 23 0) 30 0) 2 (-1)) 24 0) 31 0) 3 (-1)) 25 0) 32 0) 4 (-1)) 26 0) 33 0) 5 (-1)) 27 0) 34 0) 6 (-1)) 28 0) 35 0) 14 (-1)) 15 (-1)) 16 (-1)) 17 (-1)) 18 (-1)) 19 (-1)))), (dw, .inl (g 1, 2, .inl f_dw))]) [4, 0, 1, 5, 2, 3] (by decide) rfl
        refine lv_icmp_ge (tgt := 182) hx hb dX9_layTold_162 (by decide) (fun _ => ?_) (fun c9 => absurd (by first | decide | rfl) c9)
        refine lv_iconst (v := (-1)) hx hb dX9_layTold_182 (by decide) ?_
        refine va_iast hx hb hK hP hD hS 4 1 rfl rfl (k_in (i := 20) (n := 39) (by decide)) dX9_layTold_183 (fun H locs hP hD hS => ?_)
        have hP : va_P D vwCl [(y, .inr (9, fs_y)), (yt, .inl (g 1, 2, .inl f_yt)), (yc, .inl (g 1, 2, .inl f_yc)), (yr, .inl (g 1, 2, .inl f_yr)), (al, .inl (g 1, 39, .inl (upd (upd (upd (upd (upd (upd (upd (upd (upd (upd (upd (upd (upd (upd (upd (upd (upd (upd (upd (upd (upd (upd (upd (upd (upd (upd (upd (upd f_3 0 (-1)) 22 0) 29 0) 1 (-1)) 23 0) 30 0) 2 (-1)) 24 0) 31 0) 3 (-1)) 25 0) 32 0) 4 (-1)) 26 0) 33 0) 5 (-1)) 27 0) 34 0) 6 (-1)) 28 0) 35 0) 14 (-1)) 15 (-1)) 16 (-1)) 17 (-1)) 18 (-1)) 19 (-1)) 20 (-1)))), (dw, .inl (g 1, 2, .inl f_dw))] H := hP
        have hD : va_D A [(y, .inr (9, fs_y)), (yt, .inl (g 1, 2, .inl f_yt)), (yc, .inl (g 1, 2, .inl f_yc)), (yr, .inl (g 1, 2, .inl f_yr)), (al, .inl (g 1, 39, .inl (upd (upd (upd (upd (upd (upd (upd (upd (upd (upd (upd (upd (upd (upd (upd (upd (upd (upd (upd (upd (upd (upd (upd (upd (upd (upd (upd (upd f_3 0 (-1)) 22 0) 29 0) 1 (-1)) 23 0) 30 0) 2 (-1)) 24 0) 31 0) 3 (-1)) 25 0) 32 0) 4 (-1)) 26 0) 33 0) 5 (-1)) 27 0) 34 0) 6 (-1)) 28 0) 35 0) 14 (-1)) 15 (-1)) 16 (-1)) 17 (-1)) 18 (-1)) 19 (-1)) 20 (-1)))), (dw, .inl (g 1, 2, .inl f_dw))] := hD
        refine lv_iinc (v := 7) (lv' := [(1, .int 7), (2, .int 0), (0, .ref y)]) hx hb dX9_layTold_184 hl (k := 0) rfl (by decide) (by decide) rfl (fun ls hl => ?_)
        refine lv_goto (tgt := 143) hx hb dX9_layTold_187 (by decide) ?_
        refine lv_iload_n hx hb dX9_layTold_143 rfl (lv_at hl 0 rfl) ?_
        refine lv_bipush (v := 8) hx hb dX9_layTold_144 (by decide) ?_
        refine lv_icmp_ge (tgt := 190) hx hb dX9_layTold_146 (by decide) (fun c9 => absurd c9 (by first | decide | simp)) (fun _ => ?_)
        refine lv_aload_n hx hb dX9_layTold_149 rfl (lv_at hl 2 rfl) ?_
        refine va_get (D := D) (ci := 9) (v := .ref al) (C := RX9) (T := TX9) (N := 67) hx hb hts iX9_layTold_X9 hown hK hP 0 rfl rfl 45 (by decide) (hts (.fieldLink RX9 94 "CatLeasesModel" "all" "[I") (List.mem_of_getElem? (i := 1) rfl)) (fun _ h9 => h9) h_y_all dX9_layTold_150 ?_
        refine lv_bipush (v := 14) hx hb dX9_layTold_153 (by decide) ?_
        refine lv_iload_n hx hb dX9_layTold_155 rfl (lv_at hl 0 rfl) ?_
        refine lv_iadd hx hb dX9_layTold_156 ?_
        refine k_top (v := 21) (by decide) ?_
        refine lv_iload_n hx hb dX9_layTold_157 rfl (lv_at hl 0 rfl) ?_
        refine lv_aload_n hx hb dX9_layTold_158 rfl (lv_at hl 2 rfl) ?_
        refine k_goi (wr := [(yt, .inl (g 1, 2, .inl f_yt)), (yc, .inl (g 1, 2, .inl f_yc)), (al, .inl (g 1, 39, .inl (upd (upd (upd (upd (upd (upd (upd (upd (upd (upd (upd (upd (upd (upd (upd (upd (upd (upd (upd (upd (upd (upd (upd (upd (upd (upd (upd (upd f_3 0 (-1)) 22 0) 29 0) 1 (-1)) 23 0) 30 0) 2 (-1)) 24 0) 31 0) 3 (-1)) 25 0) 32 0) 4 (-1)) 26 0) 33 0) 5 (-1)) 27 0) 34 0) 6 (-1)) 28 0) 35 0) 14 (-1)) 15 (-1)) 16 (-1)) 17 (-1)) 18 (-1)) 19 (-1)) 20 (-1)))), (dw, .inl (g 1, 2, .inl f_dw))]) hP hD hS hA [0, 3] [1, 2, 4, 5] rfl rfl (by decide) (by decide) (va_runV (As := []) (rest := [.int 7, .int 21, .ref al]) ⟨hx, hb, hml, hown, hts⟩ (m_chambers1 l D g _ y yr fs_y f_yr h_y_rooms h_y_bank h_yr_at1) (cwV 0 hts gX9_layTold_X9_chambers rfl rfl rfl (by decide +kernel) ⟨Nat.le_of_ble_eq_true rfl, Nat.le_of_ble_eq_true rfl⟩) (k_preV hK (hP.sub [0, 3] rfl) (hD.sub [0, 3] (by decide) rfl) 9 0 rfl rfl) rfl rfl hl.1 rfl (lv_room (Nat.le_of_ble_eq_true rfl)) dX9_layTold_159 ⟨(Nat.le_of_ble_eq_true rfl), (Nat.le_of_ble_eq_true rfl)⟩) (fun r_38 u_39 H locs hw hP hD hS => ?_)
        rcases hw with ⟨rfl, rfl⟩
        have hP := hP.sub (ws' := [(y, .inr (9, fs_y)), (yt, .inl (g 1, 2, .inl f_yt)), (yc, .inl (g 1, 2, .inl f_yc)), (yr, .inl (g 1, 2, .inl f_yr)), (al, .inl (g 1, 39, .inl (upd (upd (upd (upd (upd (upd (upd (upd (upd (upd (upd (upd (upd (upd (upd (upd (upd (upd (upd (upd (upd (upd (upd (upd (upd (upd (upd (upd f_3 0 (-1)) 22 0) 29 0) 1 (-1)) 23 0) 30 0) 2 (-1)) 24 0) 31 0) 3 (-1)) 25 0) 32 0) 4 (-1)) 26 0) 33 0) 5 (-1)) 27 0) 34 0) 6 (-1)) 28 0) 35 0) 14 (-1)) 15 (-1)) 16 (-1)) 17 (-1)) 18 (-1)) 19 (-1)) 20 (-1)))), (dw, .inl (g 1, 2, .inl f_dw))]) [4, 0, 1, 5, 2, 3] rfl
        have hD := hD.sub (ws' := [(y, .inr (9, fs_y)), (yt, .inl (g 1, 2, .inl f_yt)), (yc, .inl (g 1, 2, .inl f_yc)), (yr, .inl (g 1, 2, .inl f_yr)), (al, .inl (g 1, 39, .inl (upd (upd (upd (upd (upd (upd (upd (upd (upd (upd (upd (upd (upd (upd (upd (upd (upd (upd (upd (upd (upd (upd (upd (upd (upd (upd (upd (upd f_3 0 (-1)) 22 0) 29 0) 1 (-1)) 23 0) 30 0) 2 (-1)) 24 0) 31 0) 3 (-1)) 25 0) 32 0) 4 (-1)) 26 0) 33 0) 5 (-1)) 27 0) 34 0) 6 (-1)) 28 0) 35 0) 14 (-1)) 15 (-1)) 16 (-1)) 17 (-1)) 18 (-1)) 19 (-1)) 20 (-1)))), (dw, .inl (g 1, 2, .inl f_dw))]) [4, 0, 1, 5, 2, 3] (by decide) rfl
        refine lv_icmp_ge (tgt := 182) hx hb dX9_layTold_162 (by decide) (fun _ => ?_) (fun c9 => absurd (by first | decide | rfl) c9)
        refine lv_iconst (v := (-1)) hx hb dX9_layTold_182 (by decide) ?_
        refine va_iast hx hb hK hP hD hS 4 1 rfl rfl (k_in (i := 21) (n := 39) (by decide)) dX9_layTold_183 (fun H locs hP hD hS => ?_)
        have hP : va_P D vwCl [(y, .inr (9, fs_y)), (yt, .inl (g 1, 2, .inl f_yt)), (yc, .inl (g 1, 2, .inl f_yc)), (yr, .inl (g 1, 2, .inl f_yr)), (al, .inl (g 1, 39, .inl (upd (upd (upd (upd (upd (upd (upd (upd (upd (upd (upd (upd (upd (upd (upd (upd (upd (upd (upd (upd (upd (upd (upd (upd (upd (upd (upd (upd (upd f_3 0 (-1)) 22 0) 29 0) 1 (-1)) 23 0) 30 0) 2 (-1)) 24 0) 31 0) 3 (-1)) 25 0) 32 0) 4 (-1)) 26 0) 33 0) 5 (-1)) 27 0) 34 0) 6 (-1)) 28 0) 35 0) 14 (-1)) 15 (-1)) 16 (-1)) 17 (-1)) 18 (-1)) 19 (-1)) 20 (-1)) 21 (-1)))), (dw, .inl (g 1, 2, .inl f_dw))] H := hP
        have hD : va_D A [(y, .inr (9, fs_y)), (yt, .inl (g 1, 2, .inl f_yt)), (yc, .inl (g 1, 2, .inl f_yc)), (yr, .inl (g 1, 2, .inl f_yr)), (al, .inl (g 1, 39, .inl (upd (upd (upd (upd (upd (upd (upd (upd (upd (upd (upd (upd (upd (upd (upd (upd (upd (upd (upd (upd (upd (upd (upd (upd (upd (upd (upd (upd (upd f_3 0 (-1)) 22 0) 29 0) 1 (-1)) 23 0) 30 0) 2 (-1)) 24 0) 31 0) 3 (-1)) 25 0) 32 0) 4 (-1)) 26 0) 33 0) 5 (-1)) 27 0) 34 0) 6 (-1)) 28 0) 35 0) 14 (-1)) 15 (-1)) 16 (-1)) 17 (-1)) 18 (-1)) 19 (-1)) 20 (-1)) 21 (-1)))), (dw, .inl (g 1, 2, .inl f_dw))] := hD
        refine lv_iinc (v := 8) (lv' := [(1, .int 8), (2, .int 0), (0, .ref y)]) hx hb dX9_layTold_184 hl (k := 0) rfl (by decide) (by decide) rfl (fun ls hl => ?_)
        refine lv_goto (tgt := 143) hx hb dX9_layTold_187 (by decide) ?_
        refine lv_iload_n hx hb dX9_layTold_143 rfl (lv_at hl 0 rfl) ?_
        refine lv_bipush (v := 8) hx hb dX9_layTold_144 (by decide) ?_
        refine lv_icmp_ge (tgt := 190) hx hb dX9_layTold_146 (by decide) (fun _ => ?_) (fun c9 => absurd (by first | decide | rfl) c9)
        refine lv_aload_n hx hb dX9_layTold_190 rfl (lv_at hl 2 rfl) ?_
        refine va_get (D := D) (ci := 9) (v := .ref al) (C := RX9) (T := TX9) (N := 67) hx hb hts iX9_layTold_X9 hown hK hP 0 rfl rfl 45 (by decide) (hts (.fieldLink RX9 94 "CatLeasesModel" "all" "[I") (List.mem_of_getElem? (i := 1) rfl)) (fun _ h9 => h9) h_y_all dX9_layTold_191 ?_
        refine lv_bipush (v := 36) hx hb dX9_layTold_194 (by decide) ?_
        refine lv_iconst (v := 1) hx hb dX9_layTold_196 (by decide) ?_
        refine lv_aload_n hx hb dX9_layTold_197 rfl (lv_at hl 2 rfl) ?_
        refine k_goi (wr := [(yt, .inl (g 1, 2, .inl f_yt)), (yr, .inl (g 1, 2, .inl f_yr)), (al, .inl (g 1, 39, .inl (upd (upd (upd (upd (upd (upd (upd (upd (upd (upd (upd (upd (upd (upd (upd (upd (upd (upd (upd (upd (upd (upd (upd (upd (upd (upd (upd (upd (upd f_3 0 (-1)) 22 0) 29 0) 1 (-1)) 23 0) 30 0) 2 (-1)) 24 0) 31 0) 3 (-1)) 25 0) 32 0) 4 (-1)) 26 0) 33 0) 5 (-1)) 27 0) 34 0) 6 (-1)) 28 0) 35 0) 14 (-1)) 15 (-1)) 16 (-1)) 17 (-1)) 18 (-1)) 19 (-1)) 20 (-1)) 21 (-1)))), (dw, .inl (g 1, 2, .inl f_dw))]) hP hD hS hA [0, 2] [1, 3, 4, 5] rfl rfl (by decide) (by decide) (va_runV (As := []) (rest := [.int 1, .int 36, .ref al]) ⟨hx, hb, hml, hown, hts⟩ (m_cattery1 l D g _ y yc fs_y f_yc h_y_cats h_y_bank h_yc_at1) (cwV 0 hts gX9_layTold_X9_cattery rfl rfl rfl (by decide +kernel) ⟨Nat.le_of_ble_eq_true rfl, Nat.le_of_ble_eq_true rfl⟩) (k_preV hK (hP.sub [0, 2] rfl) (hD.sub [0, 2] (by decide) rfl) 9 0 rfl rfl) rfl rfl hl.1 rfl (lv_room (Nat.le_of_ble_eq_true rfl)) dX9_layTold_198 ⟨(Nat.le_of_ble_eq_true rfl), (Nat.le_of_ble_eq_true rfl)⟩) (fun r_40 u_41 H locs hw hP hD hS => ?_)
        rcases hw with ⟨rfl, rfl⟩
        have hP := hP.sub (ws' := [(y, .inr (9, fs_y)), (yt, .inl (g 1, 2, .inl f_yt)), (yc, .inl (g 1, 2, .inl f_yc)), (yr, .inl (g 1, 2, .inl f_yr)), (al, .inl (g 1, 39, .inl (upd (upd (upd (upd (upd (upd (upd (upd (upd (upd (upd (upd (upd (upd (upd (upd (upd (upd (upd (upd (upd (upd (upd (upd (upd (upd (upd (upd (upd f_3 0 (-1)) 22 0) 29 0) 1 (-1)) 23 0) 30 0) 2 (-1)) 24 0) 31 0) 3 (-1)) 25 0) 32 0) 4 (-1)) 26 0) 33 0) 5 (-1)) 27 0) 34 0) 6 (-1)) 28 0) 35 0) 14 (-1)) 15 (-1)) 16 (-1)) 17 (-1)) 18 (-1)) 19 (-1)) 20 (-1)) 21 (-1)))), (dw, .inl (g 1, 2, .inl f_dw))]) [4, 0, 5, 1, 2, 3] rfl
        have hD := hD.sub (ws' := [(y, .inr (9, fs_y)), (yt, .inl (g 1, 2, .inl f_yt)), (yc, .inl (g 1, 2, .inl f_yc)), (yr, .inl (g 1, 2, .inl f_yr)), (al, .inl (g 1, 39, .inl (upd (upd (upd (upd (upd (upd (upd (upd (upd (upd (upd (upd (upd (upd (upd (upd (upd (upd (upd (upd (upd (upd (upd (upd (upd (upd (upd (upd (upd f_3 0 (-1)) 22 0) 29 0) 1 (-1)) 23 0) 30 0) 2 (-1)) 24 0) 31 0) 3 (-1)) 25 0) 32 0) 4 (-1)) 26 0) 33 0) 5 (-1)) 27 0) 34 0) 6 (-1)) 28 0) 35 0) 14 (-1)) 15 (-1)) 16 (-1)) 17 (-1)) 18 (-1)) 19 (-1)) 20 (-1)) 21 (-1)))), (dw, .inl (g 1, 2, .inl f_dw))]) [4, 0, 5, 1, 2, 3] (by decide) rfl
        refine lv_ishl hx hb dX9_layTold_201 ?_
        refine k_top (v := 1) (by decide) ?_
        refine lv_iconst (v := 1) hx hb dX9_layTold_202 (by decide) ?_
        refine lv_isub hx hb dX9_layTold_203 ?_
        refine k_top (v := 0) (by decide) ?_
        refine va_iast hx hb hK hP hD hS 4 1 rfl rfl (k_in (i := 36) (n := 39) (by decide)) dX9_layTold_204 (fun H locs hP hD hS => ?_)
        have hP : va_P D vwCl [(y, .inr (9, fs_y)), (yt, .inl (g 1, 2, .inl f_yt)), (yc, .inl (g 1, 2, .inl f_yc)), (yr, .inl (g 1, 2, .inl f_yr)), (al, .inl (g 1, 39, .inl (upd (upd (upd (upd (upd (upd (upd (upd (upd (upd (upd (upd (upd (upd (upd (upd (upd (upd (upd (upd (upd (upd (upd (upd (upd (upd (upd (upd (upd (upd f_3 0 (-1)) 22 0) 29 0) 1 (-1)) 23 0) 30 0) 2 (-1)) 24 0) 31 0) 3 (-1)) 25 0) 32 0) 4 (-1)) 26 0) 33 0) 5 (-1)) 27 0) 34 0) 6 (-1)) 28 0) 35 0) 14 (-1)) 15 (-1)) 16 (-1)) 17 (-1)) 18 (-1)) 19 (-1)) 20 (-1)) 21 (-1)) 36 0))), (dw, .inl (g 1, 2, .inl f_dw))] H := hP
        have hD : va_D A [(y, .inr (9, fs_y)), (yt, .inl (g 1, 2, .inl f_yt)), (yc, .inl (g 1, 2, .inl f_yc)), (yr, .inl (g 1, 2, .inl f_yr)), (al, .inl (g 1, 39, .inl (upd (upd (upd (upd (upd (upd (upd (upd (upd (upd (upd (upd (upd (upd (upd (upd (upd (upd (upd (upd (upd (upd (upd (upd (upd (upd (upd (upd (upd (upd f_3 0 (-1)) 22 0) 29 0) 1 (-1)) 23 0) 30 0) 2 (-1)) 24 0) 31 0) 3 (-1)) 25 0) 32 0) 4 (-1)) 26 0) 33 0) 5 (-1)) 27 0) 34 0) 6 (-1)) 28 0) 35 0) 14 (-1)) 15 (-1)) 16 (-1)) 17 (-1)) 18 (-1)) 19 (-1)) 20 (-1)) 21 (-1)) 36 0))), (dw, .inl (g 1, 2, .inl f_dw))] := hD
        refine lv_aload_n hx hb dX9_layTold_205 rfl (lv_at hl 2 rfl) ?_
        refine va_get (D := D) (ci := 9) (v := .ref al) (C := RX9) (T := TX9) (N := 67) hx hb hts iX9_layTold_X9 hown hK hP 0 rfl rfl 45 (by decide) (hts (.fieldLink RX9 94 "CatLeasesModel" "all" "[I") (List.mem_of_getElem? (i := 1) rfl)) (fun _ h9 => h9) h_y_all dX9_layTold_206 ?_
        refine lv_bipush (v := 38) hx hb dX9_layTold_209 (by decide) ?_
        refine lv_aload_n hx hb dX9_layTold_211 rfl (lv_at hl 2 rfl) ?_
        refine va_get (D := D) (ci := 9) (v := .ref dw) (C := RX9) (T := TX9) (N := 67) hx hb hts iX9_layTold_X9 hown hK hP 0 rfl rfl 16 (by decide) (hts (.fieldLink RX9 36 "CatLeasesModel" "draw" "[I") (List.mem_of_getElem? (i := 7) rfl)) (fun _ h9 => h9) h_y_draw dX9_layTold_212 ?_
        refine lv_aload_n hx hb dX9_layTold_215 rfl (lv_at hl 2 rfl) ?_
        refine va_get (D := D) (ci := 9) (v := .int 1) (C := RX9) (T := TX9) (N := 67) hx hb hts iX9_layTold_X9 hown hK hP 0 rfl rfl 35 (by decide) (hts (.fieldLink RX9 268 "CatLeasesModel" "bank" "I") (List.mem_of_getElem? (i := 3) rfl)) (fun _ h9 => h9) h_y_bank dX9_layTold_216 ?_
        refine va_iald hx hb hK hP 5 1 rfl rfl (k_in (i := 1) (n := 2) (by decide)) dX9_layTold_219 ?_
        refine k_top (v := 0) h_dw_at1 ?_
        refine va_iast hx hb hK hP hD hS 4 1 rfl rfl (k_in (i := 38) (n := 39) (by decide)) dX9_layTold_220 (fun H locs hP hD hS => ?_)
        have hP : va_P D vwCl [(y, .inr (9, fs_y)), (yt, .inl (g 1, 2, .inl f_yt)), (yc, .inl (g 1, 2, .inl f_yc)), (yr, .inl (g 1, 2, .inl f_yr)), (al, .inl (g 1, 39, .inl (upd (upd (upd (upd (upd (upd (upd (upd (upd (upd (upd (upd (upd (upd (upd (upd (upd (upd (upd (upd (upd (upd (upd (upd (upd (upd (upd (upd (upd (upd (upd f_3 0 (-1)) 22 0) 29 0) 1 (-1)) 23 0) 30 0) 2 (-1)) 24 0) 31 0) 3 (-1)) 25 0) 32 0) 4 (-1)) 26 0) 33 0) 5 (-1)) 27 0) 34 0) 6 (-1)) 28 0) 35 0) 14 (-1)) 15 (-1)) 16 (-1)) 17 (-1)) 18 (-1)) 19 (-1)) 20 (-1)) 21 (-1)) 36 0) 38 0))), (dw, .inl (g 1, 2, .inl f_dw))] H := hP
        have hD : va_D A [(y, .inr (9, fs_y)), (yt, .inl (g 1, 2, .inl f_yt)), (yc, .inl (g 1, 2, .inl f_yc)), (yr, .inl (g 1, 2, .inl f_yr)), (al, .inl (g 1, 39, .inl (upd (upd (upd (upd (upd (upd (upd (upd (upd (upd (upd (upd (upd (upd (upd (upd (upd (upd (upd (upd (upd (upd (upd (upd (upd (upd (upd (upd (upd (upd (upd f_3 0 (-1)) 22 0) 29 0) 1 (-1)) 23 0) 30 0) 2 (-1)) 24 0) 31 0) 3 (-1)) 25 0) 32 0) 4 (-1)) 26 0) 33 0) 5 (-1)) 27 0) 34 0) 6 (-1)) 28 0) 35 0) 14 (-1)) 15 (-1)) 16 (-1)) 17 (-1)) 18 (-1)) 19 (-1)) 20 (-1)) 21 (-1)) 36 0) 38 0))), (dw, .inl (g 1, 2, .inl f_dw))] := hD
        rw [hQ]
        exact k_vret hx hb hr hlocks hK hP hD hS ⟨(upd (upd (upd (upd (upd (upd (upd (upd (upd (upd (upd (upd (upd (upd (upd (upd (upd (upd (upd (upd (upd (upd (upd (upd (upd (upd (upd (upd (upd (upd (upd f_3 0 (-1)) 22 0) 29 0) 1 (-1)) 23 0) 30 0) 2 (-1)) 24 0) 31 0) 3 (-1)) 25 0) 32 0) 4 (-1)) 26 0) 33 0) 5 (-1)) 27 0) 34 0) 6 (-1)) 28 0) 35 0) 14 (-1)) 15 (-1)) 16 (-1)) 17 (-1)) 18 (-1)) 19 (-1)) 20 (-1)) 21 (-1)) 36 0) 38 0), rfl, ((pk_un (by decide)).trans ((pk_un (by decide)).trans ((pk_un (by decide)).trans ((pk_un (by decide)).trans ((pk_un (by decide)).trans ((pk_un (by decide)).trans ((pk_un (by decide)).trans ((pk_un (by decide)).trans ((pk_un (by decide)).trans ((pk_un (by decide)).trans ((pk_un (by decide)).trans ((pk_un (by decide)).trans ((pk_un (by decide)).trans ((pk_un (by decide)).trans ((pk_un (by decide)).trans ((pk_un (by decide)).trans ((pk_un (by decide)).trans ((pk_un (by decide)).trans ((pk_un (by decide)).trans ((pk_un (by decide)).trans ((pk_un (by decide)).trans ((pk_un (by decide)).trans ((pk_un (by decide)).trans ((pk_un (by decide)).trans ((pk_un (by decide)).trans ((pk_un (by decide)).trans ((pk_un (by decide)).trans ((pk_un (by decide)).trans ((pk_un (by decide)).trans ((pk_un (by decide)).trans ((pk_un (by decide)).trans (v_6 37 (by decide))))))))))))))))))))))))))))))))), rfl, rfl⟩ dX9_layTold_221
      · have h_9 : i_1 < 39 := k_ge2 (N := 39) rfl h_4 (by first | decide | omega) c_8
        refine lv_aload_n hx hb dX9_layTold_8 rfl (lv_at hl 1 rfl) ?_
        refine va_get (D := D) (ci := 9) (v := .ref al) (C := RX9) (T := TX9) (N := 67) hx hb hts iX9_layTold_X9 hown hK hP 0 rfl rfl 45 (by decide) (hts (.fieldLink RX9 94 "CatLeasesModel" "all" "[I") (List.mem_of_getElem? (i := 1) rfl)) (fun _ h9 => h9) h_y_all dX9_layTold_9 ?_
        refine lv_iload_n hx hb dX9_layTold_12 rfl (lv_at hl 0 rfl) ?_
        refine lv_iconst (v := 0) hx hb dX9_layTold_13 (by decide) ?_
        refine va_iast hx hb hK hP hD hS 4 1 rfl rfl (vp_in_nI (n := i_1) (N := 39) (by omega) (by decide)) dX9_layTold_14 (fun H locs hP hD hS => ?_)
        rw [nI_clamp (n := i_1) (by omega)] at hP hD
        have hP : va_P D vwCl [(y, .inr (9, fs_y)), (yt, .inl (g 1, 2, .inl f_yt)), (yc, .inl (g 1, 2, .inl f_yc)), (yr, .inl (g 1, 2, .inl f_yr)), (al, .inl (g 1, 39, .inl (upd f_3 i_1 0))), (dw, .inl (g 1, 2, .inl f_dw))] H := hP
        have hD : va_D A [(y, .inr (9, fs_y)), (yt, .inl (g 1, 2, .inl f_yt)), (yc, .inl (g 1, 2, .inl f_yc)), (yr, .inl (g 1, 2, .inl f_yr)), (al, .inl (g 1, 39, .inl (upd f_3 i_1 0))), (dw, .inl (g 1, 2, .inl f_dw))] := hD
        refine lv_iinc (v := nI (i_1 + 1)) (lv' := [(1, .int (nI (i_1 + 1))), (0, .ref y)]) hx hb dX9_layTold_15 hl (k := 0) rfl (k_inc i_1) (by decide) rfl (fun ls hl => ?_)
        refine lv_goto (tgt := 2) hx hb dX9_layTold_18 (by decide) ?_
        exact ih (i_1 + 1) (upd f_3 i_1 0) (by omega) (by omega) (fun j hj => (Classical.em (j = i_1)).elim (fun h => by rw [h]; exact pk_us) (fun h => (pk_un h).trans (v_6 j (by omega)))) _ _ _ hP hD hS (lv_sub hl [0, 1] rfl)
  exact hloop_7 (39 + 1) 0 f_al (by omega) (by omega) (fun j hj => absurd hj (Nat.not_lt_zero j)) _ _ _ hP hD hS hl
set_option maxHeartbeats 4000000 in
set_option maxRecDepth 100000 in
theorem m_startAnew1 (l : Launch) (D : va_G) (g : Nat → ClassId) (sz : Nat) (y : Nat) (yt : Nat) (yc : Nat) (yr : Nat) (al : Nat) (dw : Nat) (ib : Nat) (fs_y : List Value) (v_y_acts : Value) (v_y_undone : Value) (v_y_laid : Value) (v_y_seens : Value) (f_yt : Nat → Int32) (f_yc : Nat → Int32) (f_yr : Nat → Int32) (f_al : Nat → Int32) (f_dw : Nat → Int32) (f_ib : Nat → Int32) (h_y_cats : fs_y[11]? = some (.ref yc)) (h_y_rooms : fs_y[12]? = some (.ref yr)) (h_y_tenants : fs_y[13]? = some (.ref yt)) (h_y_draw : fs_y[16]? = some (.ref dw)) (h_y_bank : fs_y[35]? = some (.int 1)) (h_y_all : fs_y[45]? = some (.ref al)) (h_y_acts : fs_y[50]? = some (v_y_acts)) (h_y_undone : fs_y[51]? = some (v_y_undone)) (h_y_laid : fs_y[54]? = some (v_y_laid)) (h_y_seens : fs_y[63]? = some (v_y_seens)) (h_y_isBoxed : fs_y[66]? = some (.ref ib)) (h_yt_at1 : f_yt 1 = 0) (h_yc_at1 : f_yc 1 = 0) (h_yr_at1 : f_yr 1 = 0) (h_dw_at1 : f_dw 1 = 0) : Met l yX9_startAnew wsX9_startAnew ({ frames := 2, cells := 0, slots := 0, locals := 42 }) (va_Pc [.ref y] (kPre D g [(y, .inr (9, fs_y)), (yt, .inl (g 1, 2, .inl f_yt)), (yc, .inl (g 1, 2, .inl f_yc)), (yr, .inl (g 1, 2, .inl f_yr)), (al, .inl (g 1, 39, .inl f_al)), (dw, .inl (g 1, 2, .inl f_dw)), (ib, .inl (g 3, 3, .inl f_ib))] sz)) (kQv D g (fun (u : va_W) => ∃ (fe_al : Nat → Int32) (fe_ib : Nat → Int32), (fe_al 36 = 0) ∧ (fe_al 37 = 0) ∧ (fe_al 38 = 0) ∧ (fe_ib 0 = 0) ∧ (fe_ib 1 = 0) ∧ (fe_ib 2 = 0) ∧ u = [(y, .inr (9, ((((fs_y.set 50 (.int 0)).set 51 (.int 0)).set 63 (.int 0)).set 54 (.int 0)))), (yt, .inl (g 1, 2, .inl f_yt)), (yc, .inl (g 1, 2, .inl f_yc)), (yr, .inl (g 1, 2, .inl f_yr)), (al, .inl (g 1, 39, .inl fe_al)), (dw, .inl (g 1, 2, .inl f_dw)), (ib, .inl (g 3, 3, .inl fe_ib))]) (va_A [(y, .inr (9, fs_y)), (yt, .inl (g 1, 2, .inl f_yt)), (yc, .inl (g 1, 2, .inl f_yc)), (yr, .inl (g 1, 2, .inl f_yr)), (al, .inl (g 1, 39, .inl f_al)), (dw, .inl (g 1, 2, .inl f_dw)), (ib, .inl (g 3, 3, .inl f_ib))] sz)) 0 0 (va_A [(y, .inr (9, fs_y)), (yt, .inl (g 1, 2, .inl f_yt)), (yc, .inl (g 1, 2, .inl f_yc)), (yr, .inl (g 1, 2, .inl f_yr)), (al, .inl (g 1, 39, .inl f_al)), (dw, .inl (g 1, 2, .inl f_dw)), (ib, .inl (g 3, 3, .inl f_ib))] sz) := by
  refine k_head (cc := cX9_startAnew) (maxL := 2) (ret := none) (by decide) rfl (Nat.le_of_ble_eq_true rfl) ?_
  intro p e s m below meth c ls A hx hb hr hlocks hml hown hin hts hA hP hK hD hS hl
  have hown : s.vm.findClass RX9 = some m.cls := hown
  have hl : lv_has ls 2 [(0, .ref y)] := hl
  refine lv_aload_n hx hb dX9_startAnew_0 rfl (lv_at hl 0 rfl) ?_
  refine k_gov (wr := [(ib, .inl (g 3, 3, .inl f_ib))]) hP hD hS hA [0, 1, 2, 3, 4, 5] [6] rfl rfl (by decide) (by decide) (va_runV (As := []) (rest := []) ⟨hx, hb, hml, hown, hts⟩ (m_layTold1 l D g _ y yt yc yr al dw fs_y f_yt f_yc f_yr f_al f_dw h_y_cats h_y_rooms h_y_tenants h_y_draw h_y_bank h_y_all h_yt_at1 h_yc_at1 h_yr_at1 h_dw_at1) (cwV 0 hts gX9_startAnew_X9_layTold rfl rfl rfl (by decide +kernel) ⟨Nat.le_of_ble_eq_true rfl, Nat.le_of_ble_eq_true rfl⟩) (k_preV hK (hP.sub [0, 1, 2, 3, 4, 5] rfl) (hD.sub [0, 1, 2, 3, 4, 5] (by decide) rfl) 9 0 rfl rfl) rfl rfl hl.1 rfl (lv_room (Nat.le_of_ble_eq_true rfl)) dX9_startAnew_1 ⟨(Nat.le_of_ble_eq_true rfl), (Nat.le_of_ble_eq_true rfl)⟩) (fun u_2 H locs hw hP hD hS => ?_)
  rcases hw with ⟨f_3, c_4, c_5, c_6, rfl⟩
  have hP := hP.sub (ws' := [(y, .inr (9, fs_y)), (yt, .inl (g 1, 2, .inl f_yt)), (yc, .inl (g 1, 2, .inl f_yc)), (yr, .inl (g 1, 2, .inl f_yr)), (al, .inl (g 1, 39, .inl f_3)), (dw, .inl (g 1, 2, .inl f_dw)), (ib, .inl (g 3, 3, .inl f_ib))]) [1, 2, 3, 4, 5, 6, 0] rfl
  have hD := hD.sub (ws' := [(y, .inr (9, fs_y)), (yt, .inl (g 1, 2, .inl f_yt)), (yc, .inl (g 1, 2, .inl f_yc)), (yr, .inl (g 1, 2, .inl f_yr)), (al, .inl (g 1, 39, .inl f_3)), (dw, .inl (g 1, 2, .inl f_dw)), (ib, .inl (g 3, 3, .inl f_ib))]) [1, 2, 3, 4, 5, 6, 0] (by decide) rfl
  refine lv_aload_n hx hb dX9_startAnew_4 rfl (lv_at hl 0 rfl) ?_
  refine lv_iconst (v := 0) hx hb dX9_startAnew_5 (by decide) ?_
  refine va_put (D := D) (ci := 9) (v := .int 0) (ty := .int) (C := RX9) (T := TX9) (N := 67) hx hb hts iX9_startAnew_X9 tyX9 tyX9_ok nmX9 hown hK hP hD hS 0 rfl rfl 50 (by decide) (hts (.fieldLink RX9 398 "CatLeasesModel" "acts" "I") (List.mem_of_getElem? (i := 1) rfl)) (fun _ h9 => h9) rfl (by decide +kernel) rfl rfl ((k_len h_y_acts)) dX9_startAnew_6 (fun H locs hP hD hS => ?_)
  have hP : va_P D vwCl [(y, .inr (9, (fs_y.set 50 (.int 0)))), (yt, .inl (g 1, 2, .inl f_yt)), (yc, .inl (g 1, 2, .inl f_yc)), (yr, .inl (g 1, 2, .inl f_yr)), (al, .inl (g 1, 39, .inl f_3)), (dw, .inl (g 1, 2, .inl f_dw)), (ib, .inl (g 3, 3, .inl f_ib))] H := hP
  have hD : va_D A [(y, .inr (9, (fs_y.set 50 (.int 0)))), (yt, .inl (g 1, 2, .inl f_yt)), (yc, .inl (g 1, 2, .inl f_yc)), (yr, .inl (g 1, 2, .inl f_yr)), (al, .inl (g 1, 39, .inl f_3)), (dw, .inl (g 1, 2, .inl f_dw)), (ib, .inl (g 3, 3, .inl f_ib))] := hD
  refine lv_aload_n hx hb dX9_startAnew_9 rfl (lv_at hl 0 rfl) ?_
  refine lv_iconst (v := 0) hx hb dX9_startAnew_10 (by decide) ?_
  refine va_put (D := D) (ci := 9) (v := .int 0) (ty := .int) (C := RX9) (T := TX9) (N := 67) hx hb hts iX9_startAnew_X9 tyX9 tyX9_ok nmX9 hown hK hP hD hS 0 rfl rfl 51 (by decide) (hts (.fieldLink RX9 401 "CatLeasesModel" "undone" "I") (List.mem_of_getElem? (i := 2) rfl)) (fun _ h9 => h9) rfl (by decide +kernel) rfl rfl ((k_len (k_sn (by decide) h_y_undone))) dX9_startAnew_11 (fun H locs hP hD hS => ?_)
  have hP : va_P D vwCl [(y, .inr (9, ((fs_y.set 50 (.int 0)).set 51 (.int 0)))), (yt, .inl (g 1, 2, .inl f_yt)), (yc, .inl (g 1, 2, .inl f_yc)), (yr, .inl (g 1, 2, .inl f_yr)), (al, .inl (g 1, 39, .inl f_3)), (dw, .inl (g 1, 2, .inl f_dw)), (ib, .inl (g 3, 3, .inl f_ib))] H := hP
  have hD : va_D A [(y, .inr (9, ((fs_y.set 50 (.int 0)).set 51 (.int 0)))), (yt, .inl (g 1, 2, .inl f_yt)), (yc, .inl (g 1, 2, .inl f_yc)), (yr, .inl (g 1, 2, .inl f_yr)), (al, .inl (g 1, 39, .inl f_3)), (dw, .inl (g 1, 2, .inl f_dw)), (ib, .inl (g 3, 3, .inl f_ib))] := hD
  refine lv_aload_n hx hb dX9_startAnew_14 rfl (lv_at hl 0 rfl) ?_
  refine lv_iconst (v := 0) hx hb dX9_startAnew_15 (by decide) ?_
  refine va_put (D := D) (ci := 9) (v := .int 0) (ty := .int) (C := RX9) (T := TX9) (N := 67) hx hb hts iX9_startAnew_X9 tyX9 tyX9_ok nmX9 hown hK hP hD hS 0 rfl rfl 63 (by decide) (hts (.fieldLink RX9 404 "CatLeasesModel" "seens" "I") (List.mem_of_getElem? (i := 3) rfl)) (fun _ h9 => h9) rfl (by decide +kernel) rfl rfl ((k_len (k_sn (by decide) (k_sn (by decide) h_y_seens)))) dX9_startAnew_16 (fun H locs hP hD hS => ?_)
  have hP : va_P D vwCl [(y, .inr (9, (((fs_y.set 50 (.int 0)).set 51 (.int 0)).set 63 (.int 0)))), (yt, .inl (g 1, 2, .inl f_yt)), (yc, .inl (g 1, 2, .inl f_yc)), (yr, .inl (g 1, 2, .inl f_yr)), (al, .inl (g 1, 39, .inl f_3)), (dw, .inl (g 1, 2, .inl f_dw)), (ib, .inl (g 3, 3, .inl f_ib))] H := hP
  have hD : va_D A [(y, .inr (9, (((fs_y.set 50 (.int 0)).set 51 (.int 0)).set 63 (.int 0)))), (yt, .inl (g 1, 2, .inl f_yt)), (yc, .inl (g 1, 2, .inl f_yc)), (yr, .inl (g 1, 2, .inl f_yr)), (al, .inl (g 1, 39, .inl f_3)), (dw, .inl (g 1, 2, .inl f_dw)), (ib, .inl (g 3, 3, .inl f_ib))] := hD
  refine lv_aload_n hx hb dX9_startAnew_19 rfl (lv_at hl 0 rfl) ?_
  refine lv_iconst (v := 0) hx hb dX9_startAnew_20 (by decide) ?_
  refine va_put (D := D) (ci := 9) (v := .int 0) (ty := .int) (C := RX9) (T := TX9) (N := 67) hx hb hts iX9_startAnew_X9 tyX9 tyX9_ok nmX9 hown hK hP hD hS 0 rfl rfl 54 (by decide) (hts (.fieldLink RX9 407 "CatLeasesModel" "laid" "I") (List.mem_of_getElem? (i := 4) rfl)) (fun _ h9 => h9) rfl (by decide +kernel) rfl rfl ((k_len (k_sn (by decide) (k_sn (by decide) (k_sn (by decide) h_y_laid))))) dX9_startAnew_21 (fun H locs hP hD hS => ?_)
  have hP : va_P D vwCl [(y, .inr (9, ((((fs_y.set 50 (.int 0)).set 51 (.int 0)).set 63 (.int 0)).set 54 (.int 0)))), (yt, .inl (g 1, 2, .inl f_yt)), (yc, .inl (g 1, 2, .inl f_yc)), (yr, .inl (g 1, 2, .inl f_yr)), (al, .inl (g 1, 39, .inl f_3)), (dw, .inl (g 1, 2, .inl f_dw)), (ib, .inl (g 3, 3, .inl f_ib))] H := hP
  have hD : va_D A [(y, .inr (9, ((((fs_y.set 50 (.int 0)).set 51 (.int 0)).set 63 (.int 0)).set 54 (.int 0)))), (yt, .inl (g 1, 2, .inl f_yt)), (yc, .inl (g 1, 2, .inl f_yc)), (yr, .inl (g 1, 2, .inl f_yr)), (al, .inl (g 1, 39, .inl f_3)), (dw, .inl (g 1, 2, .inl f_dw)), (ib, .inl (g 3, 3, .inl f_ib))] := hD
  refine lv_iconst (v := 0) hx hb dX9_startAnew_24 (by decide) ?_
  refine lv_istore_n (lv' := [(1, .int 0), (0, .ref y)]) hx hb dX9_startAnew_25 rfl hl (by decide) rfl (fun ls hl => ?_)
  refine lv_iload_n hx hb dX9_startAnew_26 rfl (lv_at hl 0 rfl) ?_
  refine lv_iconst (v := 3) hx hb dX9_startAnew_27 (by decide) ?_
  refine lv_icmp_ge (tgt := 44) hx hb dX9_startAnew_28 (by decide) (fun c9 => absurd c9 (by first | decide | simp)) (fun _ => ?_)
  refine lv_aload_n hx hb dX9_startAnew_31 rfl (lv_at hl 1 rfl) ?_
  refine va_get (D := D) (ci := 9) (v := .ref ib) (C := RX9) (T := TX9) (N := 67) hx hb hts iX9_startAnew_X9 hown hK hP 0 rfl rfl 66 (by decide) (hts (.fieldLink RX9 142 "CatLeasesModel" "isBoxed" "[Z") (List.mem_of_getElem? (i := 5) rfl)) (fun _ h9 => h9) (k_sn (by decide) (k_sn (by decide) (k_sn (by decide) (k_sn (by decide) h_y_isBoxed)))) dX9_startAnew_32 ?_
  refine lv_iload_n hx hb dX9_startAnew_35 rfl (lv_at hl 0 rfl) ?_
  refine lv_iconst (v := 0) hx hb dX9_startAnew_36 (by decide) ?_
  refine va_zast hx hb hK hP hD hS 6 3 rfl rfl (k_in (i := 0) (n := 3) (by decide)) dX9_startAnew_37 (fun H locs hP hD hS => ?_)
  have hP : va_P D vwCl [(y, .inr (9, ((((fs_y.set 50 (.int 0)).set 51 (.int 0)).set 63 (.int 0)).set 54 (.int 0)))), (yt, .inl (g 1, 2, .inl f_yt)), (yc, .inl (g 1, 2, .inl f_yc)), (yr, .inl (g 1, 2, .inl f_yr)), (al, .inl (g 1, 39, .inl f_3)), (dw, .inl (g 1, 2, .inl f_dw)), (ib, .inl (g 3, 3, .inl (upd f_ib 0 0)))] H := hP
  have hD : va_D A [(y, .inr (9, ((((fs_y.set 50 (.int 0)).set 51 (.int 0)).set 63 (.int 0)).set 54 (.int 0)))), (yt, .inl (g 1, 2, .inl f_yt)), (yc, .inl (g 1, 2, .inl f_yc)), (yr, .inl (g 1, 2, .inl f_yr)), (al, .inl (g 1, 39, .inl f_3)), (dw, .inl (g 1, 2, .inl f_dw)), (ib, .inl (g 3, 3, .inl (upd f_ib 0 0)))] := hD
  refine lv_iinc (v := 1) (lv' := [(1, .int 1), (0, .ref y)]) hx hb dX9_startAnew_38 hl (k := 0) rfl (by decide) (by decide) rfl (fun ls hl => ?_)
  refine lv_goto (tgt := 26) hx hb dX9_startAnew_41 (by decide) ?_
  refine lv_iload_n hx hb dX9_startAnew_26 rfl (lv_at hl 0 rfl) ?_
  refine lv_iconst (v := 3) hx hb dX9_startAnew_27 (by decide) ?_
  refine lv_icmp_ge (tgt := 44) hx hb dX9_startAnew_28 (by decide) (fun c9 => absurd c9 (by first | decide | simp)) (fun _ => ?_)
  refine lv_aload_n hx hb dX9_startAnew_31 rfl (lv_at hl 1 rfl) ?_
  refine va_get (D := D) (ci := 9) (v := .ref ib) (C := RX9) (T := TX9) (N := 67) hx hb hts iX9_startAnew_X9 hown hK hP 0 rfl rfl 66 (by decide) (hts (.fieldLink RX9 142 "CatLeasesModel" "isBoxed" "[Z") (List.mem_of_getElem? (i := 5) rfl)) (fun _ h9 => h9) (k_sn (by decide) (k_sn (by decide) (k_sn (by decide) (k_sn (by decide) h_y_isBoxed)))) dX9_startAnew_32 ?_
  refine lv_iload_n hx hb dX9_startAnew_35 rfl (lv_at hl 0 rfl) ?_
  refine lv_iconst (v := 0) hx hb dX9_startAnew_36 (by decide) ?_
  refine va_zast hx hb hK hP hD hS 6 3 rfl rfl (k_in (i := 1) (n := 3) (by decide)) dX9_startAnew_37 (fun H locs hP hD hS => ?_)
  have hP : va_P D vwCl [(y, .inr (9, ((((fs_y.set 50 (.int 0)).set 51 (.int 0)).set 63 (.int 0)).set 54 (.int 0)))), (yt, .inl (g 1, 2, .inl f_yt)), (yc, .inl (g 1, 2, .inl f_yc)), (yr, .inl (g 1, 2, .inl f_yr)), (al, .inl (g 1, 39, .inl f_3)), (dw, .inl (g 1, 2, .inl f_dw)), (ib, .inl (g 3, 3, .inl (upd (upd f_ib 0 0) 1 0)))] H := hP
  have hD : va_D A [(y, .inr (9, ((((fs_y.set 50 (.int 0)).set 51 (.int 0)).set 63 (.int 0)).set 54 (.int 0)))), (yt, .inl (g 1, 2, .inl f_yt)), (yc, .inl (g 1, 2, .inl f_yc)), (yr, .inl (g 1, 2, .inl f_yr)), (al, .inl (g 1, 39, .inl f_3)), (dw, .inl (g 1, 2, .inl f_dw)), (ib, .inl (g 3, 3, .inl (upd (upd f_ib 0 0) 1 0)))] := hD
  refine lv_iinc (v := 2) (lv' := [(1, .int 2), (0, .ref y)]) hx hb dX9_startAnew_38 hl (k := 0) rfl (by decide) (by decide) rfl (fun ls hl => ?_)
  refine lv_goto (tgt := 26) hx hb dX9_startAnew_41 (by decide) ?_
  refine lv_iload_n hx hb dX9_startAnew_26 rfl (lv_at hl 0 rfl) ?_
  refine lv_iconst (v := 3) hx hb dX9_startAnew_27 (by decide) ?_
  refine lv_icmp_ge (tgt := 44) hx hb dX9_startAnew_28 (by decide) (fun c9 => absurd c9 (by first | decide | simp)) (fun _ => ?_)
  refine lv_aload_n hx hb dX9_startAnew_31 rfl (lv_at hl 1 rfl) ?_
  refine va_get (D := D) (ci := 9) (v := .ref ib) (C := RX9) (T := TX9) (N := 67) hx hb hts iX9_startAnew_X9 hown hK hP 0 rfl rfl 66 (by decide) (hts (.fieldLink RX9 142 "CatLeasesModel" "isBoxed" "[Z") (List.mem_of_getElem? (i := 5) rfl)) (fun _ h9 => h9) (k_sn (by decide) (k_sn (by decide) (k_sn (by decide) (k_sn (by decide) h_y_isBoxed)))) dX9_startAnew_32 ?_
  refine lv_iload_n hx hb dX9_startAnew_35 rfl (lv_at hl 0 rfl) ?_
  refine lv_iconst (v := 0) hx hb dX9_startAnew_36 (by decide) ?_
  refine va_zast hx hb hK hP hD hS 6 3 rfl rfl (k_in (i := 2) (n := 3) (by decide)) dX9_startAnew_37 (fun H locs hP hD hS => ?_)
  have hP : va_P D vwCl [(y, .inr (9, ((((fs_y.set 50 (.int 0)).set 51 (.int 0)).set 63 (.int 0)).set 54 (.int 0)))), (yt, .inl (g 1, 2, .inl f_yt)), (yc, .inl (g 1, 2, .inl f_yc)), (yr, .inl (g 1, 2, .inl f_yr)), (al, .inl (g 1, 39, .inl f_3)), (dw, .inl (g 1, 2, .inl f_dw)), (ib, .inl (g 3, 3, .inl (upd (upd (upd f_ib 0 0) 1 0) 2 0)))] H := hP
  have hD : va_D A [(y, .inr (9, ((((fs_y.set 50 (.int 0)).set 51 (.int 0)).set 63 (.int 0)).set 54 (.int 0)))), (yt, .inl (g 1, 2, .inl f_yt)), (yc, .inl (g 1, 2, .inl f_yc)), (yr, .inl (g 1, 2, .inl f_yr)), (al, .inl (g 1, 39, .inl f_3)), (dw, .inl (g 1, 2, .inl f_dw)), (ib, .inl (g 3, 3, .inl (upd (upd (upd f_ib 0 0) 1 0) 2 0)))] := hD
  refine lv_iinc (v := 3) (lv' := [(1, .int 3), (0, .ref y)]) hx hb dX9_startAnew_38 hl (k := 0) rfl (by decide) (by decide) rfl (fun ls hl => ?_)
  refine lv_goto (tgt := 26) hx hb dX9_startAnew_41 (by decide) ?_
  refine lv_iload_n hx hb dX9_startAnew_26 rfl (lv_at hl 0 rfl) ?_
  refine lv_iconst (v := 3) hx hb dX9_startAnew_27 (by decide) ?_
  refine lv_icmp_ge (tgt := 44) hx hb dX9_startAnew_28 (by decide) (fun _ => ?_) (fun c9 => absurd (by first | decide | rfl) c9)
  exact k_vret hx hb hr hlocks hK hP hD hS ⟨f_3, (upd (upd (upd f_ib 0 0) 1 0) 2 0), c_4, c_5, c_6, rfl, rfl, rfl, rfl⟩ dX9_startAnew_44
set_option maxHeartbeats 4000000 in
set_option maxRecDepth 100000 in
theorem m_clearBank1 (l : Launch) (D : va_G) (g : Nat → ClassId) (sz : Nat) (y : Nat) (yca : Nat) (yro : Nat) (yte : Nat) (yun : Nat) (ydi : Nat) (ydr : Nat) (yto : Nat) (fs_y : List Value) (v_y_codes : Value) (f_yca : Nat → Int32) (f_yro : Nat → Int32) (f_yte : Nat → Int32) (f_yun : Nat → Int32) (f_ydi : Nat → Int32) (f_ydr : Nat → Int32) (f_yto : Nat → Int32) (h_y_cats : fs_y[11]? = some (.ref yca)) (h_y_rooms : fs_y[12]? = some (.ref yro)) (h_y_tenants : fs_y[13]? = some (.ref yte)) (h_y_units : fs_y[14]? = some (.ref yun)) (h_y_dies : fs_y[15]? = some (.ref ydi)) (h_y_draw : fs_y[16]? = some (.ref ydr)) (h_y_told : fs_y[17]? = some (.ref yto)) (h_y_rb : fs_y[36]? = some (.int 1)) (h_y_codes : fs_y[37]? = some (v_y_codes)) : Met l yX9_clearBank wsX9_clearBank ({ frames := 0, cells := 0, slots := 0, locals := 0 }) (va_Pc [.ref y] (kPre D g [(y, .inr (9, fs_y)), (yca, .inl (g 1, 2, .inl f_yca)), (yro, .inl (g 1, 2, .inl f_yro)), (yte, .inl (g 1, 2, .inl f_yte)), (yun, .inl (g 1, 2, .inl f_yun)), (ydi, .inl (g 1, 2, .inl f_ydi)), (ydr, .inl (g 1, 2, .inl f_ydr)), (yto, .inl (g 1, 2, .inl f_yto))] sz)) (kQv D g (fun (u : va_W) => ∃ (fe_yca : Nat → Int32) (fe_yro : Nat → Int32) (fe_yte : Nat → Int32) (fe_yun : Nat → Int32) (fe_ydi : Nat → Int32) (fe_ydr : Nat → Int32) (fe_yto : Nat → Int32), (fe_yca 1 = 0) ∧ (fe_yro 1 = 0) ∧ (fe_yte 1 = 0) ∧ (fe_yun 1 = 0) ∧ (fe_ydi 1 = 0) ∧ (fe_ydr 1 = 0) ∧ (fe_yto 1 = 0) ∧ u = [(y, .inr (9, (fs_y.set 37 (.int 560)))), (yca, .inl (g 1, 2, .inl fe_yca)), (yro, .inl (g 1, 2, .inl fe_yro)), (yte, .inl (g 1, 2, .inl fe_yte)), (yun, .inl (g 1, 2, .inl fe_yun)), (ydi, .inl (g 1, 2, .inl fe_ydi)), (ydr, .inl (g 1, 2, .inl fe_ydr)), (yto, .inl (g 1, 2, .inl fe_yto))]) (va_A [(y, .inr (9, fs_y)), (yca, .inl (g 1, 2, .inl f_yca)), (yro, .inl (g 1, 2, .inl f_yro)), (yte, .inl (g 1, 2, .inl f_yte)), (yun, .inl (g 1, 2, .inl f_yun)), (ydi, .inl (g 1, 2, .inl f_ydi)), (ydr, .inl (g 1, 2, .inl f_ydr)), (yto, .inl (g 1, 2, .inl f_yto))] sz)) 0 0 (va_A [(y, .inr (9, fs_y)), (yca, .inl (g 1, 2, .inl f_yca)), (yro, .inl (g 1, 2, .inl f_yro)), (yte, .inl (g 1, 2, .inl f_yte)), (yun, .inl (g 1, 2, .inl f_yun)), (ydi, .inl (g 1, 2, .inl f_ydi)), (ydr, .inl (g 1, 2, .inl f_ydr)), (yto, .inl (g 1, 2, .inl f_yto))] sz) := by
  refine k_head (cc := cX9_clearBank) (maxL := 1) (ret := none) (by decide) rfl (Nat.le_of_ble_eq_true rfl) ?_
  intro p e s m below meth c ls A hx hb hr hlocks hml hown hin hts hA hP hK hD hS hl
  have hown : s.vm.findClass RX9 = some m.cls := hown
  have hl : lv_has ls 1 [(0, .ref y)] := hl
  refine lv_aload_n hx hb dX9_clearBank_0 rfl (lv_at hl 0 rfl) ?_
  refine va_get (D := D) (ci := 9) (v := .ref yca) (C := RX9) (T := TX9) (N := 67) hx hb hts iX9_clearBank_X9 hown hK hP 0 rfl rfl 11 (by decide) (hts (.fieldLink RX9 20 "CatLeasesModel" "cats" "[I") (List.mem_of_getElem? (i := 1) rfl)) (fun _ h9 => h9) h_y_cats dX9_clearBank_1 ?_
  refine lv_aload_n hx hb dX9_clearBank_4 rfl (lv_at hl 0 rfl) ?_
  refine va_get (D := D) (ci := 9) (v := .int 1) (C := RX9) (T := TX9) (N := 67) hx hb hts iX9_clearBank_X9 hown hK hP 0 rfl rfl 36 (by decide) (hts (.fieldLink RX9 259 "CatLeasesModel" "rb" "I") (List.mem_of_getElem? (i := 2) rfl)) (fun _ h9 => h9) h_y_rb dX9_clearBank_5 ?_
  refine lv_iconst (v := 0) hx hb dX9_clearBank_8 (by decide) ?_
  refine va_iast hx hb hK hP hD hS 1 1 rfl rfl (k_in (i := 1) (n := 2) (by decide)) dX9_clearBank_9 (fun H locs hP hD hS => ?_)
  have hP : va_P D vwCl [(y, .inr (9, fs_y)), (yca, .inl (g 1, 2, .inl (upd f_yca 1 0))), (yro, .inl (g 1, 2, .inl f_yro)), (yte, .inl (g 1, 2, .inl f_yte)), (yun, .inl (g 1, 2, .inl f_yun)), (ydi, .inl (g 1, 2, .inl f_ydi)), (ydr, .inl (g 1, 2, .inl f_ydr)), (yto, .inl (g 1, 2, .inl f_yto))] H := hP
  have hD : va_D A [(y, .inr (9, fs_y)), (yca, .inl (g 1, 2, .inl (upd f_yca 1 0))), (yro, .inl (g 1, 2, .inl f_yro)), (yte, .inl (g 1, 2, .inl f_yte)), (yun, .inl (g 1, 2, .inl f_yun)), (ydi, .inl (g 1, 2, .inl f_ydi)), (ydr, .inl (g 1, 2, .inl f_ydr)), (yto, .inl (g 1, 2, .inl f_yto))] := hD
  refine lv_aload_n hx hb dX9_clearBank_10 rfl (lv_at hl 0 rfl) ?_
  refine va_get (D := D) (ci := 9) (v := .ref yro) (C := RX9) (T := TX9) (N := 67) hx hb hts iX9_clearBank_X9 hown hK hP 0 rfl rfl 12 (by decide) (hts (.fieldLink RX9 24 "CatLeasesModel" "rooms" "[I") (List.mem_of_getElem? (i := 3) rfl)) (fun _ h9 => h9) h_y_rooms dX9_clearBank_11 ?_
  refine lv_aload_n hx hb dX9_clearBank_14 rfl (lv_at hl 0 rfl) ?_
  refine va_get (D := D) (ci := 9) (v := .int 1) (C := RX9) (T := TX9) (N := 67) hx hb hts iX9_clearBank_X9 hown hK hP 0 rfl rfl 36 (by decide) (hts (.fieldLink RX9 259 "CatLeasesModel" "rb" "I") (List.mem_of_getElem? (i := 2) rfl)) (fun _ h9 => h9) h_y_rb dX9_clearBank_15 ?_
  refine lv_iconst (v := 0) hx hb dX9_clearBank_18 (by decide) ?_
  refine va_iast hx hb hK hP hD hS 2 1 rfl rfl (k_in (i := 1) (n := 2) (by decide)) dX9_clearBank_19 (fun H locs hP hD hS => ?_)
  have hP : va_P D vwCl [(y, .inr (9, fs_y)), (yca, .inl (g 1, 2, .inl (upd f_yca 1 0))), (yro, .inl (g 1, 2, .inl (upd f_yro 1 0))), (yte, .inl (g 1, 2, .inl f_yte)), (yun, .inl (g 1, 2, .inl f_yun)), (ydi, .inl (g 1, 2, .inl f_ydi)), (ydr, .inl (g 1, 2, .inl f_ydr)), (yto, .inl (g 1, 2, .inl f_yto))] H := hP
  have hD : va_D A [(y, .inr (9, fs_y)), (yca, .inl (g 1, 2, .inl (upd f_yca 1 0))), (yro, .inl (g 1, 2, .inl (upd f_yro 1 0))), (yte, .inl (g 1, 2, .inl f_yte)), (yun, .inl (g 1, 2, .inl f_yun)), (ydi, .inl (g 1, 2, .inl f_ydi)), (ydr, .inl (g 1, 2, .inl f_ydr)), (yto, .inl (g 1, 2, .inl f_yto))] := hD
  refine lv_aload_n hx hb dX9_clearBank_20 rfl (lv_at hl 0 rfl) ?_
  refine va_get (D := D) (ci := 9) (v := .ref yte) (C := RX9) (T := TX9) (N := 67) hx hb hts iX9_clearBank_X9 hown hK hP 0 rfl rfl 13 (by decide) (hts (.fieldLink RX9 27 "CatLeasesModel" "tenants" "[I") (List.mem_of_getElem? (i := 4) rfl)) (fun _ h9 => h9) h_y_tenants dX9_clearBank_21 ?_
  refine lv_aload_n hx hb dX9_clearBank_24 rfl (lv_at hl 0 rfl) ?_
  refine va_get (D := D) (ci := 9) (v := .int 1) (C := RX9) (T := TX9) (N := 67) hx hb hts iX9_clearBank_X9 hown hK hP 0 rfl rfl 36 (by decide) (hts (.fieldLink RX9 259 "CatLeasesModel" "rb" "I") (List.mem_of_getElem? (i := 2) rfl)) (fun _ h9 => h9) h_y_rb dX9_clearBank_25 ?_
  refine lv_iconst (v := 0) hx hb dX9_clearBank_28 (by decide) ?_
  refine va_iast hx hb hK hP hD hS 3 1 rfl rfl (k_in (i := 1) (n := 2) (by decide)) dX9_clearBank_29 (fun H locs hP hD hS => ?_)
  have hP : va_P D vwCl [(y, .inr (9, fs_y)), (yca, .inl (g 1, 2, .inl (upd f_yca 1 0))), (yro, .inl (g 1, 2, .inl (upd f_yro 1 0))), (yte, .inl (g 1, 2, .inl (upd f_yte 1 0))), (yun, .inl (g 1, 2, .inl f_yun)), (ydi, .inl (g 1, 2, .inl f_ydi)), (ydr, .inl (g 1, 2, .inl f_ydr)), (yto, .inl (g 1, 2, .inl f_yto))] H := hP
  have hD : va_D A [(y, .inr (9, fs_y)), (yca, .inl (g 1, 2, .inl (upd f_yca 1 0))), (yro, .inl (g 1, 2, .inl (upd f_yro 1 0))), (yte, .inl (g 1, 2, .inl (upd f_yte 1 0))), (yun, .inl (g 1, 2, .inl f_yun)), (ydi, .inl (g 1, 2, .inl f_ydi)), (ydr, .inl (g 1, 2, .inl f_ydr)), (yto, .inl (g 1, 2, .inl f_yto))] := hD
  refine lv_aload_n hx hb dX9_clearBank_30 rfl (lv_at hl 0 rfl) ?_
  refine va_get (D := D) (ci := 9) (v := .ref yun) (C := RX9) (T := TX9) (N := 67) hx hb hts iX9_clearBank_X9 hown hK hP 0 rfl rfl 14 (by decide) (hts (.fieldLink RX9 30 "CatLeasesModel" "units" "[I") (List.mem_of_getElem? (i := 5) rfl)) (fun _ h9 => h9) h_y_units dX9_clearBank_31 ?_
  refine lv_aload_n hx hb dX9_clearBank_34 rfl (lv_at hl 0 rfl) ?_
  refine va_get (D := D) (ci := 9) (v := .int 1) (C := RX9) (T := TX9) (N := 67) hx hb hts iX9_clearBank_X9 hown hK hP 0 rfl rfl 36 (by decide) (hts (.fieldLink RX9 259 "CatLeasesModel" "rb" "I") (List.mem_of_getElem? (i := 2) rfl)) (fun _ h9 => h9) h_y_rb dX9_clearBank_35 ?_
  refine lv_iconst (v := 0) hx hb dX9_clearBank_38 (by decide) ?_
  refine va_iast hx hb hK hP hD hS 4 1 rfl rfl (k_in (i := 1) (n := 2) (by decide)) dX9_clearBank_39 (fun H locs hP hD hS => ?_)
  have hP : va_P D vwCl [(y, .inr (9, fs_y)), (yca, .inl (g 1, 2, .inl (upd f_yca 1 0))), (yro, .inl (g 1, 2, .inl (upd f_yro 1 0))), (yte, .inl (g 1, 2, .inl (upd f_yte 1 0))), (yun, .inl (g 1, 2, .inl (upd f_yun 1 0))), (ydi, .inl (g 1, 2, .inl f_ydi)), (ydr, .inl (g 1, 2, .inl f_ydr)), (yto, .inl (g 1, 2, .inl f_yto))] H := hP
  have hD : va_D A [(y, .inr (9, fs_y)), (yca, .inl (g 1, 2, .inl (upd f_yca 1 0))), (yro, .inl (g 1, 2, .inl (upd f_yro 1 0))), (yte, .inl (g 1, 2, .inl (upd f_yte 1 0))), (yun, .inl (g 1, 2, .inl (upd f_yun 1 0))), (ydi, .inl (g 1, 2, .inl f_ydi)), (ydr, .inl (g 1, 2, .inl f_ydr)), (yto, .inl (g 1, 2, .inl f_yto))] := hD
  refine lv_aload_n hx hb dX9_clearBank_40 rfl (lv_at hl 0 rfl) ?_
  refine va_get (D := D) (ci := 9) (v := .ref ydi) (C := RX9) (T := TX9) (N := 67) hx hb hts iX9_clearBank_X9 hown hK hP 0 rfl rfl 15 (by decide) (hts (.fieldLink RX9 33 "CatLeasesModel" "dies" "[I") (List.mem_of_getElem? (i := 6) rfl)) (fun _ h9 => h9) h_y_dies dX9_clearBank_41 ?_
  refine lv_aload_n hx hb dX9_clearBank_44 rfl (lv_at hl 0 rfl) ?_
  refine va_get (D := D) (ci := 9) (v := .int 1) (C := RX9) (T := TX9) (N := 67) hx hb hts iX9_clearBank_X9 hown hK hP 0 rfl rfl 36 (by decide) (hts (.fieldLink RX9 259 "CatLeasesModel" "rb" "I") (List.mem_of_getElem? (i := 2) rfl)) (fun _ h9 => h9) h_y_rb dX9_clearBank_45 ?_
  refine lv_iconst (v := 0) hx hb dX9_clearBank_48 (by decide) ?_
  refine va_iast hx hb hK hP hD hS 5 1 rfl rfl (k_in (i := 1) (n := 2) (by decide)) dX9_clearBank_49 (fun H locs hP hD hS => ?_)
  have hP : va_P D vwCl [(y, .inr (9, fs_y)), (yca, .inl (g 1, 2, .inl (upd f_yca 1 0))), (yro, .inl (g 1, 2, .inl (upd f_yro 1 0))), (yte, .inl (g 1, 2, .inl (upd f_yte 1 0))), (yun, .inl (g 1, 2, .inl (upd f_yun 1 0))), (ydi, .inl (g 1, 2, .inl (upd f_ydi 1 0))), (ydr, .inl (g 1, 2, .inl f_ydr)), (yto, .inl (g 1, 2, .inl f_yto))] H := hP
  have hD : va_D A [(y, .inr (9, fs_y)), (yca, .inl (g 1, 2, .inl (upd f_yca 1 0))), (yro, .inl (g 1, 2, .inl (upd f_yro 1 0))), (yte, .inl (g 1, 2, .inl (upd f_yte 1 0))), (yun, .inl (g 1, 2, .inl (upd f_yun 1 0))), (ydi, .inl (g 1, 2, .inl (upd f_ydi 1 0))), (ydr, .inl (g 1, 2, .inl f_ydr)), (yto, .inl (g 1, 2, .inl f_yto))] := hD
  refine lv_aload_n hx hb dX9_clearBank_50 rfl (lv_at hl 0 rfl) ?_
  refine va_get (D := D) (ci := 9) (v := .ref ydr) (C := RX9) (T := TX9) (N := 67) hx hb hts iX9_clearBank_X9 hown hK hP 0 rfl rfl 16 (by decide) (hts (.fieldLink RX9 36 "CatLeasesModel" "draw" "[I") (List.mem_of_getElem? (i := 7) rfl)) (fun _ h9 => h9) h_y_draw dX9_clearBank_51 ?_
  refine lv_aload_n hx hb dX9_clearBank_54 rfl (lv_at hl 0 rfl) ?_
  refine va_get (D := D) (ci := 9) (v := .int 1) (C := RX9) (T := TX9) (N := 67) hx hb hts iX9_clearBank_X9 hown hK hP 0 rfl rfl 36 (by decide) (hts (.fieldLink RX9 259 "CatLeasesModel" "rb" "I") (List.mem_of_getElem? (i := 2) rfl)) (fun _ h9 => h9) h_y_rb dX9_clearBank_55 ?_
  refine lv_iconst (v := 0) hx hb dX9_clearBank_58 (by decide) ?_
  refine va_iast hx hb hK hP hD hS 6 1 rfl rfl (k_in (i := 1) (n := 2) (by decide)) dX9_clearBank_59 (fun H locs hP hD hS => ?_)
  have hP : va_P D vwCl [(y, .inr (9, fs_y)), (yca, .inl (g 1, 2, .inl (upd f_yca 1 0))), (yro, .inl (g 1, 2, .inl (upd f_yro 1 0))), (yte, .inl (g 1, 2, .inl (upd f_yte 1 0))), (yun, .inl (g 1, 2, .inl (upd f_yun 1 0))), (ydi, .inl (g 1, 2, .inl (upd f_ydi 1 0))), (ydr, .inl (g 1, 2, .inl (upd f_ydr 1 0))), (yto, .inl (g 1, 2, .inl f_yto))] H := hP
  have hD : va_D A [(y, .inr (9, fs_y)), (yca, .inl (g 1, 2, .inl (upd f_yca 1 0))), (yro, .inl (g 1, 2, .inl (upd f_yro 1 0))), (yte, .inl (g 1, 2, .inl (upd f_yte 1 0))), (yun, .inl (g 1, 2, .inl (upd f_yun 1 0))), (ydi, .inl (g 1, 2, .inl (upd f_ydi 1 0))), (ydr, .inl (g 1, 2, .inl (upd f_ydr 1 0))), (yto, .inl (g 1, 2, .inl f_yto))] := hD
  refine lv_aload_n hx hb dX9_clearBank_60 rfl (lv_at hl 0 rfl) ?_
  refine va_get (D := D) (ci := 9) (v := .ref yto) (C := RX9) (T := TX9) (N := 67) hx hb hts iX9_clearBank_X9 hown hK hP 0 rfl rfl 17 (by decide) (hts (.fieldLink RX9 39 "CatLeasesModel" "told" "[I") (List.mem_of_getElem? (i := 8) rfl)) (fun _ h9 => h9) h_y_told dX9_clearBank_61 ?_
  refine lv_aload_n hx hb dX9_clearBank_64 rfl (lv_at hl 0 rfl) ?_
  refine va_get (D := D) (ci := 9) (v := .int 1) (C := RX9) (T := TX9) (N := 67) hx hb hts iX9_clearBank_X9 hown hK hP 0 rfl rfl 36 (by decide) (hts (.fieldLink RX9 259 "CatLeasesModel" "rb" "I") (List.mem_of_getElem? (i := 2) rfl)) (fun _ h9 => h9) h_y_rb dX9_clearBank_65 ?_
  refine lv_iconst (v := 0) hx hb dX9_clearBank_68 (by decide) ?_
  refine va_iast hx hb hK hP hD hS 7 1 rfl rfl (k_in (i := 1) (n := 2) (by decide)) dX9_clearBank_69 (fun H locs hP hD hS => ?_)
  have hP : va_P D vwCl [(y, .inr (9, fs_y)), (yca, .inl (g 1, 2, .inl (upd f_yca 1 0))), (yro, .inl (g 1, 2, .inl (upd f_yro 1 0))), (yte, .inl (g 1, 2, .inl (upd f_yte 1 0))), (yun, .inl (g 1, 2, .inl (upd f_yun 1 0))), (ydi, .inl (g 1, 2, .inl (upd f_ydi 1 0))), (ydr, .inl (g 1, 2, .inl (upd f_ydr 1 0))), (yto, .inl (g 1, 2, .inl (upd f_yto 1 0)))] H := hP
  have hD : va_D A [(y, .inr (9, fs_y)), (yca, .inl (g 1, 2, .inl (upd f_yca 1 0))), (yro, .inl (g 1, 2, .inl (upd f_yro 1 0))), (yte, .inl (g 1, 2, .inl (upd f_yte 1 0))), (yun, .inl (g 1, 2, .inl (upd f_yun 1 0))), (ydi, .inl (g 1, 2, .inl (upd f_ydi 1 0))), (ydr, .inl (g 1, 2, .inl (upd f_ydr 1 0))), (yto, .inl (g 1, 2, .inl (upd f_yto 1 0)))] := hD
  refine lv_aload_n hx hb dX9_clearBank_70 rfl (lv_at hl 0 rfl) ?_
  refine lv_sipush (v := 560) hx hb dX9_clearBank_71 (by decide) ?_
  refine lv_aload_n hx hb dX9_clearBank_74 rfl (lv_at hl 0 rfl) ?_
  refine va_get (D := D) (ci := 9) (v := .int 1) (C := RX9) (T := TX9) (N := 67) hx hb hts iX9_clearBank_X9 hown hK hP 0 rfl rfl 36 (by decide) (hts (.fieldLink RX9 259 "CatLeasesModel" "rb" "I") (List.mem_of_getElem? (i := 2) rfl)) (fun _ h9 => h9) h_y_rb dX9_clearBank_75 ?_
  refine lv_imul hx hb dX9_clearBank_78 ?_
  refine k_top (v := 560) (by decide) ?_
  refine va_put (D := D) (ci := 9) (v := .int 560) (ty := .int) (C := RX9) (T := TX9) (N := 67) hx hb hts iX9_clearBank_X9 tyX9 tyX9_ok nmX9 hown hK hP hD hS 0 rfl rfl 37 (by decide) (hts (.fieldLink RX9 262 "CatLeasesModel" "codes" "I") (List.mem_of_getElem? (i := 9) rfl)) (fun _ h9 => h9) rfl (by decide +kernel) rfl rfl ((k_len h_y_codes)) dX9_clearBank_79 (fun H locs hP hD hS => ?_)
  have hP : va_P D vwCl [(y, .inr (9, (fs_y.set 37 (.int 560)))), (yca, .inl (g 1, 2, .inl (upd f_yca 1 0))), (yro, .inl (g 1, 2, .inl (upd f_yro 1 0))), (yte, .inl (g 1, 2, .inl (upd f_yte 1 0))), (yun, .inl (g 1, 2, .inl (upd f_yun 1 0))), (ydi, .inl (g 1, 2, .inl (upd f_ydi 1 0))), (ydr, .inl (g 1, 2, .inl (upd f_ydr 1 0))), (yto, .inl (g 1, 2, .inl (upd f_yto 1 0)))] H := hP
  have hD : va_D A [(y, .inr (9, (fs_y.set 37 (.int 560)))), (yca, .inl (g 1, 2, .inl (upd f_yca 1 0))), (yro, .inl (g 1, 2, .inl (upd f_yro 1 0))), (yte, .inl (g 1, 2, .inl (upd f_yte 1 0))), (yun, .inl (g 1, 2, .inl (upd f_yun 1 0))), (ydi, .inl (g 1, 2, .inl (upd f_ydi 1 0))), (ydr, .inl (g 1, 2, .inl (upd f_ydr 1 0))), (yto, .inl (g 1, 2, .inl (upd f_yto 1 0)))] := hD
  exact k_vret hx hb hr hlocks hK hP hD hS ⟨(upd f_yca 1 0), (upd f_yro 1 0), (upd f_yte 1 0), (upd f_yun 1 0), (upd f_ydi 1 0), (upd f_ydr 1 0), (upd f_yto 1 0), rfl, rfl, rfl, rfl, rfl, rfl, rfl, rfl⟩ dX9_clearBank_82
