/-! what is beside the heap -/
theorem sEnv.same {aw vw : Nat} {A : Nat → Prop} {u U : State} {H : Heap} (hv : u.vm = U.vm) (h : sEnv aw vw A u H) : sEnv aw vw A U H := by
  obtain ⟨h2, h3, h4, h5, h6, h7⟩ := h
  have ha : u.vm.Alike U.vm := by rw [hv]; exact Vm.Alike.refl U.vm
  exact ⟨vk_R.same hv.symm h2, va_O.moved ha h3, va_OF.moved ha h4, va_OF.moved ha h5, va_T.moved ha h6, va_Z.moved ha h7⟩
theorem sEnv.pass {aw vw : Nat} {A B : Nat → Prop} {s U : State} {H : Heap} {locs : List Loc} (h : sEnv aw vw A s s.heap) (hS : va_S A s.heap H locs) (hF : ∀ q, B q → A q) (hW : s.WarmedH U.vm) : sEnv aw vw B U H := by
  obtain ⟨h2, h3, h4, h5, h6, h7⟩ := h
  exact ⟨vk_R.warm hW h2, va_O.moved hW.alike ((h3.kept hS.2.1).narrow hF), va_OF.moved hW.alike ((h4.kept hS.2.1).narrow hF), va_OF.moved hW.alike ((h5.kept hS.2.1).narrow hF), va_T.moved hW.alike ((h6.kept hS.2.1).narrow hF), va_Z.moved hW.alike ((h7.kept hS.2.1).narrow hF)⟩
def cEnv (ev : Nat → Nat) (A : Nat → Prop) (U : State) (H : Heap) : Prop := kEnv (ev 0) (ev 1) A U H ∧ sEnv (ev 2) (ev 3) A U H
def zE (ev : Nat → Nat) (σ : Nat → Option Nat) : State → Heap → Prop := fun U H => cEnv ev (hA σ) U H
theorem cEnv.same {ev : Nat → Nat} {A : Nat → Prop} {u U : State} {H : Heap} (hv : u.vm = U.vm) (h : cEnv ev A u H) : cEnv ev A U H := ⟨h.1.same hv, h.2.same hv⟩
theorem cEnv.pass {ev : Nat → Nat} {A B : Nat → Prop} {s U : State} {H : Heap} {locs : List Loc} (h : cEnv ev A s s.heap) (hS : va_S A s.heap H locs) (hF : ∀ q, B q → A q) (hW : s.WarmedH U.vm) : cEnv ev B U H := ⟨h.1.pass hS hF hW, h.2.pass hS hF hW⟩
theorem zE_ok {ev : Nat → Nat} {σ : Nat → Option Nat} : hZ σ (zE ev σ) :=
  ⟨fun U V H hv h => cEnv.same hv.symm h, fun s U H locs h hS hW => cEnv.pass h hS (fun _ q => q) hW, ev 2, ev 3, fun U H h => h.2⟩
def cA (z sz : Nat) : Nat → Prop := fun q => q = z ∨ sz ≤ q
/-- a constructor's start: its cell is blank -/
def cPre (D : va_G) (g : Nat → ClassId) (ev : Nat → Nat) (ci : Nat) (fs : List Value) (z sz : Nat) (U : State) : Prop := U.heap.size = sz ∧ va_at D vwCl (z, .inr (ci, fs)) U.heap ∧ va_K D vwCl (kY g) U ∧ cEnv ev (cA z sz) U U.heap
def cB (D : va_G) (g : Nat → ClassId) (A : Nat → Prop) (z ci : Nat) (P : hM → hR → Prop) (u : hC) (t : State) : Prop := HW D g u.1 u.2.1 u.2.2.1 u.2.2.2 t.heap ∧ hT u.1 u.2.1 u.2.2.2 ∧ u.1 z = some ci ∧ (∀ a, u.1 a ≠ none → A a) ∧ P u.2.1 u.2.2.2 ∧ va_K D vwCl (kY g) t
def cQ (D : va_G) (g : Nat → ClassId) (z ci : Nat) (P : hM → hR → Prop) (A : Nat → Prop) : Array Value → State → Outcome → State → Prop := va_Qv (fun _ : hC => True) (cB D g A z ci P) A
theorem c_blind {D : va_G} {g : Nat → ClassId} {ev : Nat → Nat} {ci z sz : Nat} {fs : List Value} {As : List Value} : FrameBlind (va_Pc As (cPre D g ev ci fs z sz)) := fun a U f mk q => by
  obtain ⟨q0, q1, q2, q3, q4⟩ := q
  exact ⟨q0, q1, q2, va_K.moved (u := U) (U := U.calling f mk a) (Vm.Alike.refl U.vm) q3, (show cEnv ev (cA z sz) (U.calling f mk a) U.heap from cEnv.same (u := U) (U := U.calling f mk a) rfl q4)⟩
theorem c_head {l : Launch} {y : MethodName} {cc : ByteArray} {maxL : Nat} {ws ws' : List Cond} {rm : Room} {D : va_G} {g : Nat → ClassId} {ev : Nat → Nat} {ci z sz : Nat} {fs : List Value} {P : hM → hR → Prop} {mc ms : Nat}
    (hy : plainName y.cls = true) (hw : ws = Cond.code y cc maxL none :: ws') (hn : (lg_sl [Value.ref z]).length ≤ maxL)
    (body : ∀ (p : Program) (e : Env) (s : State) (m : MethodId) (below : List Frame) (meth : Method) (c : Code) (ls : Array Slot) (A : Nat → Prop) (Q : State → Prop) (ar : Array Value), Q = MQ below (cQ D g z ci P A) ar s mc ms A → p.tables.exec = Jvm.exec → c.code = cc → meth.sig.returnType = none → meth.locks = false → c.maxLocals = maxL → s.vm.findClass y.cls = some m.cls → meth.name = y.name →
      (∀ w ∈ ws, w.before ar s = true) → (∀ q : Nat, s.heap.size ≤ q → A q) → A z → va_K D vwCl (kY g) s → cEnv ev A s s.heap → cJ D g A [(z, .inr (ci, fs))] [] true s.heap → va_S A s.heap s.heap [] → lv_has ls maxL (lv_args 0 [.ref z]) →
      W p l e (headSpec ws rm).room s m ar below meth c s.heap [] 0 0 Q (F0 m 0 ls [])) : Met l y ws rm (va_Pc [.ref z] (cPre D g ev ci fs z sz)) (cQ D g z ci P (cA z sz)) mc ms (cA z sz) := by
  refine Met.ofW (cc := cc) (maxL := maxL) (ret := none) hy hw ?_
  intro p e s m args below meth c s₁ B hml hv
  obtain ⟨rfl, hsz, hat, hK, hE⟩ := hv
  have hts := atoms_spec (ws := ws) B.pre
  have hl := lv_entry [Value.ref z] (n := maxL) hn
  rw [lg_entry_eq]
  generalize (lg_sl [Value.ref z] ++ List.replicate (maxL - (lg_sl [Value.ref z]).length) Slot.unset).toArray = ls at hl ⊢
  exact body p e s m below meth c ls (cA z sz) _ _ rfl B.exec B.bytes B.returns B.notSynchronized hml (findClass_of_methodNamed B.named) (name_of_methodNamed B.named B.method).1 hts (fun q h => Or.inr (by rw [← hsz]; exact h)) (Or.inl rfl) hK hE (cJ.start hat (Or.inl rfl)) va_S.rf hl
section CRW
variable {p : Program} {l : Launch} {e : Env} {Rm : Room} {s : State} {m : MethodId} {args : Array Value} {below : List Frame} {meth : Method} {c : Code} {H : Heap} {locs : List Loc} {cells slots : Nat} {Q : State → Prop} {cc : ByteArray} {pc : Nat} {ls : Array Slot} {rest st0 : List Value}
  {D : va_G} {g : Nat → ClassId} {A : Nat → Prop} {we : va_W} {rs : List (Nat × Nat)} {zz : Bool} {ev : Nat → Nat} {σ : Nat → Option Nat} {M : hM} {N : hN} {R : hR}
theorem c_preS {As : List Value} (hK : va_K D vwCl (kY g) s) (hE : cEnv ev A s s.heap) (hS : va_S A s.heap H locs) (hF : ∀ q, hA σ q → A q) (hW : HW D g σ M N R H) (hTy : hT σ M R) : PreS s H (va_Pc As (hPre D g σ (zE ev σ) M N R)) As :=
  ⟨h_blind zE_ok, fun U hU hWm => ⟨rfl, by rw [hU]; exact hW, hTy, va_K.moved hWm.alike hK, by rw [hU]; exact hE.pass hS hF hWm⟩⟩
theorem c_preV {C : String} {b s0 : Nat} {As : List Value} {T : u_T} {N' : Nat} (hK : va_K D vwCl (kY g) s) (hE : cEnv ev A s s.heap) (hS : va_S A s.heap H locs) (hF : ∀ q, hA σ q → A q) (hW : HW D g σ M N R H) (hTy : hT σ M R) (ha : σ b = some s0) (hs : s0 < 10) (hc : vwCl[s0]? = some (C, T, N')) : PreV s H C b (va_Pc (.ref b :: As) (hPre D g σ (zE ev σ) M N R)) As :=
  ⟨h_blind zE_ok, by
    obtain ⟨cell, q1, q2, q3, -⟩ := (hW b s0 ha).1 hs
    exact ⟨cell, q1, by rw [q3]; rfl, by rw [q2]; exact (hK.1 s0 _ hc).2.1⟩, fun U hU hWm => ⟨rfl, by rw [hU]; exact hW, hTy, va_K.moved hWm.alike hK, by rw [hU]; exact hE.pass hS hF hWm⟩⟩
theorem c_preI {q ci : Nat} {fs : List Value} (hK : va_K D vwCl (kY g) s) (hE : cEnv ev A s s.heap) (hS : va_S A s.heap H locs) (hA : ∀ x, s.heap.size ≤ x → A x) (hAq : A q) (hat : va_at D vwCl (q, .inr (ci, fs)) H) : PreS s H (va_Pc [.ref q] (cPre D g ev ci fs q H.size)) [.ref q] :=
  ⟨c_blind, fun U hU hWm => ⟨rfl, by rw [hU], by rw [hU]; exact hat, va_K.moved hWm.alike hK, by rw [hU]; exact hE.pass hS (fun x h => h.elim (fun h => by rw [h]; exact hAq) (fun h => hA x (Nat.le_trans hS.1 h))) hWm⟩⟩
/-- a call over a typed heap, from a frame that may make cells -/
theorem c_gov {l1 : List (Nat × Nat)} {post : hM → hN → hR → Prop} {av : Array Value} (hS : va_S A s.heap H locs) (hF : ∀ q, hA σ q → A q) (hr : va_Run p l e Rm s m args below meth c H locs cells slots 0 0 (F0 m pc ls st0) rest (hQv D g σ l1 M post av) (hA σ))
    (kk : ∀ (M1 : hM) (N1 : hN) (R1 : hR) (H1 : Heap) (locs1 : List Loc), post M1 N1 R1 → hAg σ l1 M M1 → HW D g σ M1 N1 R1 H1 → hT σ M1 R1 → (∀ q : Nat, q < H.size → ¬ hA σ q → H1[q]? = H[q]?) → va_S A s.heap H1 locs1 → W p l e Rm s m args below meth c H1 locs1 cells slots Q (F0 m (pc + 3) ls rest)) : W p l e Rm s m args below meth c H locs cells slots Q (F0 m pc ls st0) :=
  va_callv hr hS (fun q _ h => hF q h) hF (fun u t H1 locs1 ht hvm hw hB hz1 hk1 hS1 => kk u.1 u.2.1 u.2.2 H1 locs1 hw hB.2.2.1 (by rw [← ht]; exact hB.1) hB.2.1 hk1 hS1)
theorem c_goi {l1 : List (Nat × Nat)} {post : Int32 → hM → hN → hR → Prop} {av : Array Value} (hS : va_S A s.heap H locs) (hF : ∀ q, hA σ q → A q) (hr : va_Run p l e Rm s m args below meth c H locs cells slots 0 0 (F0 m pc ls st0) rest (hQi D g σ l1 M post av) (hA σ))
    (kk : ∀ (r : Int32) (M1 : hM) (N1 : hN) (R1 : hR) (H1 : Heap) (locs1 : List Loc), post r M1 N1 R1 → hAg σ l1 M M1 → HW D g σ M1 N1 R1 H1 → hT σ M1 R1 → (∀ q : Nat, q < H.size → ¬ hA σ q → H1[q]? = H[q]?) → va_S A s.heap H1 locs1 → W p l e Rm s m args below meth c H1 locs1 cells slots Q (F0 m (pc + 3) ls (.int r :: rest))) : W p l e Rm s m args below meth c H locs cells slots Q (F0 m pc ls st0) :=
  va_calli hr hS (fun q _ h => hF q h) hF (fun r u t H1 locs1 ht hvm hw hB hz1 hk1 hS1 => kk r u.1 u.2.1 u.2.2 H1 locs1 hw hB.2.2.1 (by rw [← ht]; exact hB.1) hB.2.1 hk1 hS1)
/-- a typed row is filled -/
theorem c_fill {so a : Nat} {As : List Value} {l1 : List (Nat × Nat)} {av : Array Value} (hK : va_K D vwCl (kY g) s) (hE : cEnv ev A s s.heap) (hJ : cJ D g A we rs zz H) (hS : va_S A s.heap H locs) (har : (a, so) ∈ rs)
    (hrun : ∀ (σ : Nat → Option Nat) (M : hM) (N : hN) (R : hR), σ a = some so → PreS s H (va_Pc As (hPre D g σ (zE ev σ) M N R)) As → va_Run p l e Rm s m args below meth c H locs cells slots 0 0 (F0 m pc ls st0) rest (hQv D g σ l1 M (fun _ N1 R1 => N = N1 ∧ R = R1) av) (hA σ))
    (kk : ∀ (H1 : Heap) (locs1 : List Loc), cJ D g A we rs false H1 → va_S A s.heap H1 locs1 → W p l e Rm s m args below meth c H1 locs1 cells slots Q (F0 m (pc + 3) ls rest)) : W p l e Rm s m args below meth c H locs cells slots Q (F0 m pc ls st0) := by
  obtain ⟨g1, g2, σ, M, N, R, h3, h4, h5, h6, -⟩ := hJ
  have hF : ∀ q, hA σ q → A q := fun q h => (h5 q h).1
  refine c_gov hS hF (hrun σ M N R (h6 _ har) (c_preS hK hE hS hF h3 h4)) (fun M1 N1 R1 H1 locs1 _ _ hW hTy hk hS1 => kk H1 locs1 ⟨g1.kept (fun k x hx => hk x.1 (g1 k x hx).lt (fun q => (h5 x.1 q).2 k x hx rfl)), g2, σ, M1, N1, R1, hW, hTy, h5, h6, fun h => by cases h⟩ hS1)
theorem hw_v0 (t a j : Nat) : hw_v t (fun _ _ => 0) (fun _ _ => 0) (fun _ _ => 0) a j = hw_v t (fun _ _ => 0) (fun _ _ => 0) (fun _ _ => 0) 0 0 := by
  match t with
  | 0 => rfl
  | 1 => rfl
  | (n + 2) => rfl
theorem c_cA {t0 : Nat} {cT cA : ClassId} {ty : FieldType} (hK : va_K D vwCl (kY g) s) (ht : (kY g)[t0]? = some (cT, ty)) (h : s.vm.findClass ("[" ++ ty.toString) = some cA) : cA = cT := by
  have h1 := (hK.2 t0 _ ht).2
  cases ty with
  | object C =>
    obtain ⟨_, _, _, _, _, h1⟩ := h1
    exact Option.some.inj (h.symm.trans h1)
  | _ => exact Option.some.inj (h.symm.trans (show s.vm.findClass _ = some cT from h1))
theorem c_S1 {H1 : Heap} (hS : va_S A s.heap H locs) (z1 : H1.size = H.size + 1) (o1 : ∀ q : Nat, q < H.size → H1[q]? = H[q]?) : va_S A s.heap H1 locs := ⟨Nat.le_trans hS.1 (by omega), fun x h1 h2 => (o1 x (Nat.lt_of_lt_of_le h1 hS.1)).trans (hS.2.1 x h1 h2), hS.2.2⟩
theorem tiw0 (k : Nat) : (ti_w k).1 ≤ 0 ∧ 0 ≤ (ti_w k).2 := by
  unfold ti_w
  split
  · exact ⟨by decide, by decide⟩
  · split
    · exact ⟨by decide, by decide⟩
    · exact ⟨by decide, by decide⟩
theorem tic0 {so : Nat} {lo hi : Int} (h : ∀ k, ti so k = (lo, hi)) (h1 : lo ≤ 0) (h2 : 0 ≤ hi) (k : Nat) : (ti so k).1 ≤ 0 ∧ 0 ≤ (ti so k).2 := by rw [h k]; exact ⟨h1, h2⟩
/-- a row of numbers is made -/
theorem c_newa (hx : p.tables.exec = Jvm.exec) (hb : c.code = cc) {atype : ArrayType} (harr : (Cond.arrayClass (newarray.typeOf atype)).before args s = true) {ty : FieldType} (hty : newarray.typeOf atype = ty) (hK : va_K D vwCl (kY g) s) (hJ : cJ D g A we rs zz H) (hS : va_S A s.heap H locs) (hA : ∀ q, s.heap.size ≤ q → A q) (t0 : Nat) (ht : (kY g)[t0]? = some (g t0, ty)) {n : Int32} {N' : Nat} (so : Nat) (hso : 10 ≤ so) (hsa : hs_a so = (t0, N')) (hdv : defaultValue ty = hw_v (hs_k t0) (fun _ _ => 0) (fun _ _ => 0) (fun _ _ => 0) 0 0) (h0 : ∀ k, (ti so k).1 ≤ 0 ∧ 0 ≤ (ti so k).2) (htl : ∀ k, tl so k = [])
    (hn : ¬ n < 0) (hN : n.toNatClampNeg = N') (hbytes : N' * componentBytes ty ≤ 536870912) (hcells : cells + 1 ≤ Rm.cells) (hslots : slots + N' ≤ Rm.slots) (hdg : decode cc pc = .ok (.newarray atype, 2))
    (kk : ∀ (q : Nat) (H1 : Heap), cJ D g A we ((q, so) :: rs) zz H1 → va_S A s.heap H1 locs → W p l e Rm s m args below meth c H1 locs (cells + 1) (slots + N') Q (F0 m (pc + 2) ls (.ref q :: rest))) : W p l e Rm s m args below meth c H locs cells slots Q (F0 m pc ls (.int n :: rest)) := by
  subst hty
  refine va_newaK hx hb harr rfl hdg rfl hn hN hbytes hcells hslots rfl fun H1 cA e1 z1 o1 _ hNm => ?_
  have hcA := c_cA hK ht hNm
  subst hcA
  refine kk H.size H1 (hJ.add o1 (hA _ hS.1) ⟨fun q => absurd hso (by omega), fun _ => ?_⟩ (fun k _ => h0 k) (fun k _ => htl k)) (c_S1 hS z1 o1)
  rw [e1, hsa]
  congr 2
  funext j
  rw [hw_v0]
  exact hdv
/-- a field of the explicit cell is written -/
theorem c_put (hx : p.tables.exec = Jvm.exec) (hb : c.code = cc) {own ref C : String} {T : u_T} {N' ci index a : Nat} {Ts : List Cond} (hts : ∀ w ∈ Ts, w.before args s = true) (hin : ∀ w ∈ u_ws C T N', w ∈ Ts) (ty0 : Nat → FieldType) (hty : ∀ k, k < N' → parseFieldDescriptor (T k).2.2.1 = some (ty0 k)) (hnm : ∀ a, a < N' → ∀ b, b < N' → a ≠ b → (T a).2.1 ≠ (T b).2.1) (hown : s.vm.findClass own = some m.cls) (hK : va_K D vwCl (kY g) s) (hJ : cJ D g A we rs zz H) (hS0 : va_S A s.heap H locs) (q0 : Nat) {fs : List Value} (he : we[q0]? = some (a, .inr (ci, fs))) (hc : vwCl[ci]? = some (C, T, N')) (k : Nat) (hk : k < N') (hlink : (Cond.fieldLink own index ref (T k).2.1 (T k).2.2.1).before args s = true) (hsame : ∀ x, s.fieldFound? (T k).1 (T k).2.1 (T k).2.2.1 = some x → s.fieldFound? ref (T k).2.1 (T k).2.2.1 = some x) (hfin : (T k).2.2.2 = false) {ty : FieldType} {v : Value} (hd : parseFieldDescriptor (T k).2.2.1 = some ty) (hn : narrow ty v = v) (hfit : fits ty v = true) (hl : k < fs.length)
    (hdg : decode cc pc = .ok (.putfield index, 3)) (kk : ∀ (H1 : Heap) (locs1 : List Loc), cJ D g A (we.set q0 (a, .inr (ci, fs.set k v))) rs zz H1 → va_S A s.heap H1 locs1 → W p l e Rm s m args below meth c H1 locs1 cells slots Q (F0 m (pc + 3) ls rest)) : W p l e Rm s m args below meth c H locs cells slots Q (F0 m pc ls (v :: .ref a :: rest)) := by
  have hap := va_apart (own := own) hts hin ty0 hty hnm hK hc
  obtain ⟨r, h1, cell, q1, q2, q3, q4⟩ := hJ.1 q0 _ he
  have hr : r = (C, T, N') := Option.some.inj (h1.symm.trans hc)
  subst hr
  obtain ⟨hS, hfc, kC, hkC, hkind⟩ := hK.1 ci _ hc
  obtain ⟨cf, kf, fi, f, hi, hsl⟩ := hS k hk
  have hlay := hts _ (hin _ (u_in_lay hk))
  unfold u_lay at hlay
  rw [if_neg (by rw [hfin]; decide)] at hlay
  have hst := (u_facts hfc hkC (u_lays hts hin hk) hi).1
  have h6 := u_store hfc hkC hkind hlay hi hd hn hfit
  refine W.putK hx hb (f := f) ⟨hown, hlink, ⟨_, _, _, hsame _ hi⟩, hst⟩ (by rw [q2]; exact h6) q1 q3 (by rw [hsl]; exact k2_hasslot (q4 k hk)) rfl rfl hdg fun H' e1 e2 e3 => ?_
  rw [hsl] at e1 ⊢
  exact kk H' _ (hJ.set he ⟨_, hc, t_OB.to (V := updV (vp_V fs) k v) ⟨_, e1, q2, q3, t_set q4 hap hk v⟩ (fun j _ => vp_updV_set hl v j)⟩ e3) (hS0.put e2 e3 (hJ.2.1.2 q0 _ he))
theorem c_putF (hx : p.tables.exec = Jvm.exec) (hb : c.code = cc) {own ref C : String} {T : u_T} {N' ci index a : Nat} {Ts : List Cond} (hts : ∀ w ∈ Ts, w.before args s = true) (hin : ∀ w ∈ u_ws C T N', w ∈ Ts) (ty0 : Nat → FieldType) (hty : ∀ k, k < N' → parseFieldDescriptor (T k).2.2.1 = some (ty0 k)) (hnm : ∀ a, a < N' → ∀ b, b < N' → a ≠ b → (T a).2.1 ≠ (T b).2.1) (hown : s.vm.findClass own = some m.cls) (hK : va_K D vwCl (kY g) s) (hJ : cJ D g A we rs zz H) (hS0 : va_S A s.heap H locs) (q0 : Nat) {fs : List Value} (he : we[q0]? = some (a, .inr (ci, fs))) (hc : vwCl[ci]? = some (C, T, N')) (k : Nat) (hk : k < N') (hlink : (Cond.fieldLink own index ref (T k).2.1 (T k).2.2.1).before args s = true) (hsame : ∀ x, s.fieldFound? (T k).1 (T k).2.1 (T k).2.2.1 = some x → s.fieldFound? ref (T k).2.1 (T k).2.2.1 = some x) (hfin : (T k).2.2.2 = true) (hin2 : meth.name = "<init>") (hdecl : (T k).1 = own) {ty : FieldType} {v : Value} (hd : parseFieldDescriptor (T k).2.2.1 = some ty) (hn : narrow ty v = v) (hfit : fits ty v = true) (hl : k < fs.length)
    (hdg : decode cc pc = .ok (.putfield index, 3)) (kk : ∀ (H1 : Heap) (locs1 : List Loc), cJ D g A (we.set q0 (a, .inr (ci, fs.set k v))) rs zz H1 → va_S A s.heap H1 locs1 → W p l e Rm s m args below meth c H1 locs1 cells slots Q (F0 m (pc + 3) ls rest)) : W p l e Rm s m args below meth c H locs cells slots Q (F0 m pc ls (v :: .ref a :: rest)) := by
  have hap := va_apart (own := own) hts hin ty0 hty hnm hK hc
  obtain ⟨r, h1, cell, q1, q2, q3, q4⟩ := hJ.1 q0 _ he
  have hr : r = (C, T, N') := Option.some.inj (h1.symm.trans hc)
  subst hr
  obtain ⟨hS, hfc, kC, hkC, hkind⟩ := hK.1 ci _ hc
  obtain ⟨cf, kf, fi, f, hi, hsl⟩ := hS k hk
  have hlay := hts _ (hin _ (u_in_lay hk))
  unfold u_lay at hlay
  rw [if_pos hfin] at hlay
  have hst := (u_facts hfc hkC (u_lays hts hin hk) hi).1
  have hcf : m.cls = cf := by
    obtain ⟨_, _, c', _, _, _, -, -, hf', -, -, -, hown2, -⟩ := Cond.laysFinal_spec hlay
    have e1 : c' = cf := by have := hi.symm.trans hf'; simp at this; exact this.1.symm
    rw [hdecl] at hown2
    rw [← e1]; exact Option.some.inj (hown.symm.trans hown2)
  have h6 := u_fits hfc hkC hkind (Or.inr hlay) hi hd hn hfit
  refine W.putFinK hx hb hown hlink (hsame _ hi) hst hcf hin2 (by rw [q2]; exact h6) q1 q3 (by rw [hsl]; exact k2_hasslot (q4 k hk)) rfl rfl hdg fun H' e1 e2 e3 => ?_
  rw [hsl] at e1 ⊢
  exact kk H' _ (hJ.set he ⟨_, hc, t_OB.to (V := updV (vp_V fs) k v) ⟨_, e1, q2, q3, t_set q4 hap hk v⟩ (fun j _ => vp_updV_set hl v j)⟩ e3) (hS0.put e2 e3 (hJ.2.1.2 q0 _ he))
/-- new, dup, the constructor -/
theorem c_newr (hx : p.tables.exec = Jvm.exec) (hb : c.code = cc) {own C : String} {T : u_T} {N' ci index : Nat} {Ts : List Cond} (hts : ∀ w ∈ Ts, w.before args s = true) (hin : ∀ w ∈ u_ws C T N', w ∈ Ts) (ty : Nat → FieldType) (hty : ∀ k, k < N' → parseFieldDescriptor (T k).2.2.1 = some (ty k)) (hown : s.vm.findClass own = some m.cls) (hcl : (Cond.classLink own index C).before args s = true) (hinst : (Cond.instantiable C N').before args s = true) (hini : (Cond.initialized C).before args s = true)
    (hK : va_K D vwCl (kY g) s) (hS : va_S A s.heap H locs) (hA : ∀ q, s.heap.size ≤ q → A q) (hc : vwCl[ci]? = some (C, T, N')) {fs : List Value} (hfs : ∀ j, j < N' → defaultValue (ty j) = vp_V fs j) (hcells : cells + 1 ≤ Rm.cells) (hslots : slots + N' ≤ Rm.slots) (hdg : decode cc pc = .ok (.new index, 3)) (hdup : decode cc (pc + 3) = .ok (.dup, 1)) {mc ms : Nat} {P : Nat → hM → hR → Prop} {av : Nat → Array Value}
    (hrun : ∀ (q : Nat) (H1 : Heap), va_at D vwCl (q, .inr (ci, fs)) H1 → va_S A s.heap H1 locs → A q → va_Run p l e Rm s m args below meth c H1 locs (cells + 1) (slots + N') mc ms (F0 m (pc + 3 + 1) ls (.ref q :: .ref q :: rest)) (.ref q :: rest) (cQ D g q ci (P q) (cA q H1.size) (av q)) (cA q H1.size))
    (kk : ∀ (q : Nat) (H2 : Heap) (locs2 : List Loc) (σ2 : Nat → Option Nat) (M2 : hM) (N2 : hN) (R2 : hR), H.size ≤ H2.size → (∀ a : Nat, a < H.size → H2[a]? = H[a]?) → HW D g σ2 M2 N2 R2 H2 → hT σ2 M2 R2 → σ2 q = some ci → (∀ a, σ2 a ≠ none → H.size ≤ a) → P q M2 R2 → va_S A s.heap H2 locs2 → W p l e Rm s m args below meth c H2 locs2 (cells + 1 + mc) (slots + N' + ms) Q (F0 m (pc + 3 + 1 + 3) ls (.ref q :: rest))) : W p l e Rm s m args below meth c H locs cells slots Q (F0 m pc ls rest) := by
  have hKn := hK.1 ci _ hc
  refine W.newcK hx hb hown hcl hinst hini rfl hdg hcells hslots hKn.2.1 rfl fun H1 kC hkC e1 z1 o1 => ?_
  have hat : va_at D vwCl (H.size, .inr (ci, fs)) H1 := ⟨_, hc, (u_born ty hts hin hKn hkC e1 hty).to hfs⟩
  have hS1 := c_S1 hS z1 o1
  have hAq := hA H.size hS.1
  have hF : ∀ x, cA H.size H1.size x → A x := fun x h => h.elim (fun h => by rw [h]; exact hAq) (fun h => hA x (Nat.le_trans hS1.1 h))
  refine lv_dup (pc := pc + 3) (va := .ref H.size) hx hb hdup rfl ?_
  refine va_callv (hrun H.size H1 hat hS1 hAq) hS1 (fun q _ h => hF q h) hF (fun u t H2 locs2 ht hvm hw hB hz1 hk1 hS2 => ?_)
  obtain ⟨b1, b2, b3, b4, b5, b6⟩ := hB
  rw [ht] at b1
  refine kk H.size H2 locs2 u.1 u.2.1 u.2.2.1 u.2.2.2 (by omega) (fun a ha => ?_) b1 b2 b3 (fun a ha => ?_) b5 hS2
  · rw [hk1 a (by omega) (fun h => by rcases h with h | h <;> omega)]
    exact o1 a ha
  · rcases b4 a ha with h | h <;> omega
theorem c_newc (hx : p.tables.exec = Jvm.exec) (hb : c.code = cc) {own C : String} {T : u_T} {N' ci index : Nat} {Ts : List Cond} (hts : ∀ w ∈ Ts, w.before args s = true) (hin : ∀ w ∈ u_ws C T N', w ∈ Ts) (ty : Nat → FieldType) (hty : ∀ k, k < N' → parseFieldDescriptor (T k).2.2.1 = some (ty k)) (hown : s.vm.findClass own = some m.cls) (hcl : (Cond.classLink own index C).before args s = true) (hinst : (Cond.instantiable C N').before args s = true) (hini : (Cond.initialized C).before args s = true)
    (hK : va_K D vwCl (kY g) s) (hJ : cJ D g A we rs zz H) (hS : va_S A s.heap H locs) (hA : ∀ q, s.heap.size ≤ q → A q) (hc : vwCl[ci]? = some (C, T, N')) {fs : List Value} (hfs : ∀ j, j < N' → defaultValue (ty j) = vp_V fs j) (hcells : cells + 1 ≤ Rm.cells) (hslots : slots + N' ≤ Rm.slots) (hdg : decode cc pc = .ok (.new index, 3)) (hdup : decode cc (pc + 3) = .ok (.dup, 1)) {mc ms : Nat} {P : Nat → hM → hR → Prop} {av : Nat → Array Value}
    (hrun : ∀ (q : Nat) (H1 : Heap), va_at D vwCl (q, .inr (ci, fs)) H1 → va_S A s.heap H1 locs → A q → va_Run p l e Rm s m args below meth c H1 locs (cells + 1) (slots + N') mc ms (F0 m (pc + 3 + 1) ls (.ref q :: .ref q :: rest)) (.ref q :: rest) (cQ D g q ci (P q) (cA q H1.size) (av q)) (cA q H1.size))
    (kk : ∀ (q : Nat) (H2 : Heap) (locs2 : List Loc), cJ D g A we ((q, ci) :: rs) false H2 → va_S A s.heap H2 locs2 → W p l e Rm s m args below meth c H2 locs2 (cells + 1 + mc) (slots + N' + ms) Q (F0 m (pc + 3 + 1 + 3) ls (.ref q :: rest))) : W p l e Rm s m args below meth c H locs cells slots Q (F0 m pc ls rest) :=
  c_newr hx hb hts hin ty hty hown hcl hinst hini hK hS hA hc hfs hcells hslots hdg hdup hrun (fun q H2 locs2 σ2 M2 N2 R2 hz hk hW hTy hq hd _ hS2 => kk q H2 locs2 (hJ.join (rs2 := [(q, ci)]) hk hW hTy (fun a ha => ⟨hd a ha, hA a (Nat.le_trans hS.1 (hd a ha))⟩) (fun r hr => by rw [List.mem_singleton.mp hr]; exact hq) (fun h => by cases h)) hS2)
/-- an array of references is made: explicit, for it is empty yet -/
theorem c_newq (hx : p.tables.exec = Jvm.exec) (hb : c.code = cc) {own C : String} {index : Nat} (hown : s.vm.findClass own = some m.cls) (hclink : (Cond.classLink own index C).before args s = true) (hover : va_AO C s) (hK : va_K D vwCl (kY g) s) (hJ : cJ D g A we rs zz H) (hS : va_S A s.heap H locs) (hA : ∀ q, s.heap.size ≤ q → A q) (t0 : Nat) {cT : ClassId} (ht : (kY g)[t0]? = some (cT, .object C))
    {n : Int32} {N' : Nat} (hn : ¬ n < 0) (hN : n.toNatClampNeg = N') (hbytes : N' * 4 ≤ 536870912) (hcells : cells + 1 ≤ Rm.cells) (hslots : slots + N' ≤ Rm.slots) (hdg : decode cc pc = .ok (.anewarray index, 3))
    (kk : ∀ (q : Nat) (H1 : Heap), cJ D g A (we ++ [(q, .inl (cT, N', .inr (.inr (.inr (.inr (fun _ => none))))))]) rs zz H1 → va_S A s.heap H1 locs → W p l e Rm s m args below meth c H1 locs (cells + 1) (slots + N') Q (F0 m (pc + 3) ls (.ref q :: rest))) : W p l e Rm s m args below meth c H locs cells slots Q (F0 m pc ls (.int n :: rest)) := by
  subst hN
  refine W.anew hx hb hown hclink (va_AO.use hover) rfl hdg rfl hn hbytes hcells hslots fun cA kA comp f1 f2 f3 f4 => ?_
  have hcA := c_cA hK ht f1
  subst hcA
  generalize hH1 : H.push ({ cls := cA, slots := Array.replicate n.toNatClampNeg .null, vm := .none } : Cell) = H1
  have z1 : H1.size = H.size + 1 := by rw [← hH1, Array.size_push]
  have e1 : H1[H.size]? = some (arrV cA n.toNatClampNeg (fun _ => .null)) := by rw [← hH1, Array.getElem?_push_size, ← arrV_new]
  have o1 : ∀ q : Nat, q < H.size → H1[q]? = H[q]? := fun q hq => by rw [← hH1, Array.getElem?_push, if_neg (Nat.ne_of_lt hq)]
  obtain ⟨g1, g2, σ, M, N, R, h3, h4, h5, h6, h7⟩ := hJ
  refine kk H.size H1 ⟨(g1.kept (fun k x hx => o1 x.1 (g1 k x hx).lt)).app (va_P1 ?_), g2.push g1 rfl (hA _ hS.1), σ, M, N, R, h3.other (fun q h => o1 q (h3.in h)), h4, fun a ha => ⟨(h5 a ha).1, fun k p hp => ?_⟩, h6, h7⟩ (c_S1 hS z1 o1)
  · show H1[H.size]? = some (vp_cell _ _)
    rw [vp_cell_q]
    exact e1
  · rcases List.mem_append.mp (List.mem_of_getElem? hp) with q | q
    · obtain ⟨i, hi⟩ := List.getElem?_of_mem q
      exact (h5 a ha).2 i p hi
    · rw [List.mem_singleton.mp q]
      have := h3.in ha
      exact fun e => by
        have e' : H.size = a := e
        omega
/-- a typed cell into the explicit array of references -/
theorem c_astq (hx : p.tables.exec = Jvm.exec) (hb : c.code = cc) (hK : va_K D vwCl (kY g) s) (hJ : cJ D g A we rs zz H) (hS : va_S A s.heap H locs) (q0 t0 ci : Nat) {cT : ClassId} {r : vw_C} {n v a : Nat} {f : Nat → Option Nat} (ha : we[q0]? = some (a, .inl (cT, n, .inr (.inr (.inr (.inr f)))))) (ht : (kY g)[t0]? = some (cT, .object r.1)) (hv : (v, ci) ∈ rs) (hci : ci < 10) (hc : vwCl[ci]? = some r) {i : Int32} (hin : vp_in i n) (hdg : decode cc pc = .ok (.aastore, 1))
    (kk : ∀ (H1 : Heap) (locs1 : List Loc), cJ D g A (we.set q0 (a, .inl (cT, n, .inr (.inr (.inr (.inr (va_up f i.toNatClampNeg (some v)))))))) rs zz H1 → va_S A s.heap H1 locs1 → W p l e Rm s m args below meth c H1 locs1 cells slots Q (F0 m (pc + 1) ls rest)) : W p l e Rm s m args below meth c H locs cells slots Q (F0 m pc ls (.ref v :: .int i :: .ref a :: rest)) := by
  have hlt : i.toNatClampNeg < n := Nat.not_le.mp fun q => hin (Or.inr q)
  have h0 : ¬ i < 0 := fun q => hin (Or.inl q)
  obtain ⟨g1, g2, σ, M, N, R, h3, h4, h5, h6, h7⟩ := id hJ
  obtain ⟨cellV, v1, v2, v3, -⟩ := (h3 v ci (h6 _ hv)).1 hci
  have hcls := (hK.1 ci r hc).2
  obtain ⟨kA, comp, k1, k2, k3, -⟩ := (hK.2 t0 _ ht).2
  have hcomp : comp = D.1 ci := Option.some.inj (k3.symm.trans hcls.1)
  subst hcomp
  obtain ⟨kC, hkC, -⟩ := hcls.2
  refine W.aast hx hb (g1 q0 _ ha) (fun q h => by cases h) (fun h => by cases h) k1 k2 rfl hkC ⟨h0, by show _ < (arrV _ _ _).slots.size; rw [arrV_size]; exact hlt⟩ v1 (fun q h => by rw [v3] at h; cases h) (by rw [v2]; exact hkC) (by rw [v2]; exact va_assign hcls) rfl rfl hdg fun H1 e z oq => ?_
  refine kk H1 _ (hJ.set ha ?_ oq) (hS.put z oq (g2.2 q0 _ ha))
  show H1[a]? = some (vp_cell _ _)
  rw [e]
  rw [vp_cell_q, vp_cell_q, arrV_store]
  congr 2
  funext q
  by_cases hq : q = i.toNatClampNeg
  · subst hq
    simp [updV, va_up, va_rf]
  · simp [updV, va_up, hq]
theorem c_ret {z ci : Nat} {P : hM → hR → Prop} (hQ : Q = MQ below (cQ D g z ci P A) args s cells slots A) (hx : p.tables.exec = Jvm.exec) (hb : c.code = cc) (hr : meth.sig.returnType = none) (hlocks : meth.locks = false) (hK : va_K D vwCl (kY g) s) (hd : ∃ (σ : Nat → Option Nat) (M : hM) (N : hN) (R : hR), HW D g σ M N R H ∧ hT σ M R ∧ (∀ a, σ a ≠ none → A a) ∧ σ z = some ci ∧ P M R) (hS : va_S A s.heap H locs) (hdg : decode cc pc = .ok (.return_, 1)) : W p l e Rm s m args below meth c H locs cells slots Q (F0 m pc ls []) := by
  obtain ⟨σ, M, N, R, h1, h2, h3, h4, h5⟩ := hd
  rw [hQ]
  exact W.vret hx hb hr (fun t ht hW => ⟨⟨(σ, M, N, R), rfl, trivial, by rw [ht]; exact h1, h2, h4, h3, h5, va_K.moved hW.alike hK⟩, hS.F ht⟩) hS.2.2 hdg hlocks
/-- an object's fields as numbers, longs, references -/
def mOf (fs : List Value) (k : Nat) : Int32 := match vp_V fs k with
  | .int v => v
  | _ => 0
def nOf (fs : List Value) (k : Nat) : Int64 := match vp_V fs k with
  | .long v => v
  | _ => 0
def rOf (fs : List Value) (k : Nat) : Nat := match vp_V fs k with
  | .ref v => v
  | _ => 0
theorem c_obj {z so : Nat} {fs : List Value} {C : String} {T : u_T} {N' : Nat} (h : va_at D vwCl (z, .inr (so, fs)) H) (hs : so < 10) (hc : vwCl[so]? = some (C, T, N')) (hn : hs_n so = N') (hf : ∀ k, k < N' → vp_V fs k = hw_v (hs_f so k) (fun _ => mOf fs) (fun _ => nOf fs) (fun _ => rOf fs) z k) : hw_c D g (fun _ => mOf fs) (fun _ => nOf fs) (fun _ => rOf fs) z so H := by
  refine ⟨fun _ => ?_, fun q => absurd hs (by omega)⟩
  obtain ⟨r, h1, h2⟩ := h
  have hr : r = (C, T, N') := Option.some.inj (h1.symm.trans hc)
  subst hr
  rw [hn]
  exact h2.to hf
/-- a whole array of references -/
theorem c_arq {b so n : Nat} {f : Nat → Option Nat} (h : va_at D vwCl (b, .inl (g 4, n, .inr (.inr (.inr (.inr f))))) H) (hs : 10 ≤ so) (ha : hs_a so = (4, n)) (hf : ∀ j, j < n → ∃ a, f j = some a) : hw_c D g (fun _ _ => 0) (fun _ _ => 0) (fun _ j => (f j).getD 0) b so H := by
  refine ⟨fun q => absurd hs (by omega), fun _ => ?_⟩
  have h' : H[b]? = some (vp_cell (g 4) (n, .inr (.inr (.inr (.inr f))))) := h
  rw [h', ha, vp_cell_q]
  unfold arrV
  congr 3
  funext j
  obtain ⟨a, e⟩ := hf j.1 j.2
  show va_rf (f j.1) = Value.ref ((f j.1).getD 0)
  rw [e]
  rfl
end CRW
