def hPre (D : va_G) (g : Nat → ClassId) (σ : Nat → Option Nat) (Z : State → Heap → Prop) (M : hM) (N : hN) (R : hR) (U : State) : Prop := HW D g σ M N R U.heap ∧ hT σ M R ∧ va_K D vwCl (kY g) U ∧ Z U U.heap
def kST : String := ";()<>=+-*/%"
def kSB : List Int32 := [59, 40, 41, 60, 62, 61, 43, 45, 42, 47, 37]
/-- the text of the signs, as String has it -/
def sEnv (aw vw : Nat) (A : Nat → Prop) (U : State) (H : Heap) : Prop :=
  vk_R RX5 270 kST aw U ∧ va_O "java/lang/String" aw A U H ∧ va_OF "java/lang/String" "coder" "B" (.int 0) aw A U H ∧ va_OF "java/lang/String" "value" "[B" (.ref vw) aw A U H ∧ va_T .byte vw 11 (fun j => .int (kSB.getD j 0)) A U H ∧ va_Z "java/lang/String" "COMPACT_STRINGS" "Z" (.int 1) A U H
/-- what is beside the heap (texts, links): stays as long as nothing but the typed cells changes -/
def hZ (σ : Nat → Option Nat) (Z : State → Heap → Prop) : Prop := (∀ (U V : State) (H : Heap), V.vm = U.vm → Z U H → Z V H) ∧ (∀ (s U : State) (H : Heap) (locs : List Loc), Z s s.heap → va_S (hA σ) s.heap H locs → s.WarmedH U.vm → Z U H) ∧ ∃ aw vw, ∀ U H, Z U H → sEnv aw vw (hA σ) U H
def hB (D : va_G) (g : Nat → ClassId) (σ : Nat → Option Nat) (le : List (Nat × Nat)) (M0 : hM) (u : hM × hN × hR) (t : State) : Prop := HW D g σ u.1 u.2.1 u.2.2 t.heap ∧ hT σ u.1 u.2.2 ∧ hAg σ le M0 u.1 ∧ va_K D vwCl (kY g) t
def hQi (D : va_G) (g : Nat → ClassId) (σ : Nat → Option Nat) (le : List (Nat × Nat)) (M0 : hM) (post : Int32 → hM → hN → hR → Prop) : Array Value → State → Outcome → State → Prop := va_Qi (fun r (u : hM × hN × hR) => post r u.1 u.2.1 u.2.2) (hB D g σ le M0) (hA σ)
def hQl (D : va_G) (g : Nat → ClassId) (σ : Nat → Option Nat) (le : List (Nat × Nat)) (M0 : hM) (post : Int64 → hM → hN → hR → Prop) : Array Value → State → Outcome → State → Prop := va_Ql (fun r (u : hM × hN × hR) => post r u.1 u.2.1 u.2.2) (hB D g σ le M0) (hA σ)
def hQv (D : va_G) (g : Nat → ClassId) (σ : Nat → Option Nat) (le : List (Nat × Nat)) (M0 : hM) (post : hM → hN → hR → Prop) : Array Value → State → Outcome → State → Prop := va_Qv (fun (u : hM × hN × hR) => post u.1 u.2.1 u.2.2) (hB D g σ le M0) (hA σ)
def hQr (D : va_G) (g : Nat → ClassId) (σ : Nat → Option Nat) (le : List (Nat × Nat)) (M0 : hM) (post : Nat → hM → hN → hR → Prop) : Array Value → State → Outcome → State → Prop := va_Qr (fun (_ : hM × hN × hR) => True) (fun u a t => post a u.1 u.2.1 u.2.2 ∧ hB D g σ le M0 u t) (hA σ)
theorem h_blind {D : va_G} {g : Nat → ClassId} {σ : Nat → Option Nat} {Z : State → Heap → Prop} (hZ0 : hZ σ Z) {M : hM} {N : hN} {R : hR} {As : List Value} : FrameBlind (va_Pc As (hPre D g σ Z M N R)) := fun a U f mk q => by
  obtain ⟨q0, q1, q2, q3, q4⟩ := q
  exact ⟨q0, q1, q2, va_K.moved (u := U) (U := U.calling f mk a) (Vm.Alike.refl U.vm) q3, hZ0.1 U (U.calling f mk a) _ rfl q4⟩
theorem h_head {l : Launch} {y : MethodName} {cc : ByteArray} {maxL : Nat} {ret : Option FieldType} {ws ws' : List Cond} {rm : Room} {D : va_G} {g : Nat → ClassId} {σ : Nat → Option Nat} {Z : State → Heap → Prop} {M : hM} {N : hN} {R : hR} {As : List Value} {Qc : Array Value → State → Outcome → State → Prop}
    (hy : plainName y.cls = true) (hw : ws = Cond.code y cc maxL ret :: ws') (hn : (lg_sl As).length ≤ maxL) (le : List (Nat × Nat))
    (body : ∀ (p : Program) (e : Env) (s : State) (m : MethodId) (below : List Frame) (meth : Method) (c : Code) (ls : Array Slot) (Q : State → Prop) (ar : Array Value), Q = MQ below Qc ar s 0 0 (hA σ) → p.tables.exec = Jvm.exec → c.code = cc → meth.sig.returnType = ret → meth.locks = false → c.maxLocals = maxL → s.vm.findClass y.cls = some m.cls →
      (∀ w ∈ ws, w.before ar s = true) → va_K D vwCl (kY g) s → Z s s.heap → ∀ (H : Heap) (locs : List Loc), kI D g σ le M s.heap M N R H locs → lv_has ls maxL (lv_args 0 As) →
      W p l e (headSpec ws rm).room s m ar below meth c H locs 0 0 Q (F0 m 0 ls [])) : Met l y ws rm (va_Pc As (hPre D g σ Z M N R)) Qc 0 0 (hA σ) := by
  refine Met.ofW (cc := cc) (maxL := maxL) (ret := ret) hy hw ?_
  intro p e s m args below meth c s₁ B hml hv
  obtain ⟨rfl, hP, hTy, hK, hE⟩ := hv
  have hts := atoms_spec (ws := ws) B.pre
  have hl := lv_entry As (n := maxL) hn
  rw [lg_entry_eq]
  generalize (lg_sl As ++ List.replicate (maxL - (lg_sl As).length) Slot.unset).toArray = ls at hl ⊢
  exact body p e s m below meth c ls _ _ rfl B.exec B.bytes B.returns B.notSynchronized hml (findClass_of_methodNamed B.named) hts hK hE _ _ ⟨hP, hTy, hAg.rf, va_S.rf⟩ hl
section HRW
variable {p : Program} {l : Launch} {e : Env} {Rm : Room} {s : State} {m : MethodId} {args : Array Value} {below : List Frame} {meth : Method} {c : Code} {H H0 : Heap} {locs : List Loc} {Q : State → Prop} {cc : ByteArray} {pc : Nat} {ls : Array Slot} {rest st0 : List Value}
  {D : va_G} {g : Nat → ClassId} {σ : Nat → Option Nat} {le : List (Nat × Nat)} {Z : State → Heap → Prop} {M0 M : hM} {N : hN} {R : hR} {a s0 : Nat}
theorem kI.iv1 {n j : Nat} {lo hi : Int} (hI : kI D g σ le M0 H0 M N R H locs) (ha : σ a = some s0) (hn : hs_n s0 = n) (hj : j < n) (ht : ti s0 j = (lo, hi)) : iv (M a j) lo hi := by
  have h := hI.2.1.1 a s0 ha j (by rw [hn]; exact hj)
  rw [ht] at h
  exact h
theorem kI.iv2 {n j c d : Nat} {lo hi : Int} (hI : kI D g σ le M0 H0 M N R H locs) (ha : σ a = some s0) (hn : hs_n s0 = n) (hj : j < n) (h1 : c ≤ j) (h2 : j < d) (ht : ∀ k, k < d → c ≤ k → lo ≤ (ti s0 k).1 ∧ (ti s0 k).2 ≤ hi) : iv (M a j) lo hi :=
  iv_w (hI.2.1.1 a s0 ha j (by rw [hn]; exact hj)) (ht j h2 h1).1 (ht j h2 h1).2
/-- an object as a world of one cell -/
theorem kI.obj {C : String} {T : u_T} {N' : Nat} (hI : kI D g σ le M0 H0 M N R H locs) (ha : σ a = some s0) (hs : s0 < 10) (hc : vwCl[s0]? = some (C, T, N')) (hn : hs_n s0 = N') : va_P D vwCl [(a, .inr (s0, (List.range N').map (fun j => hw_v (hs_f s0 j) M N R a j)))] H := by
  intro k q hk
  cases k with
  | succ k => simp at hk
  | zero =>
    cases Option.some.inj hk
    have h := (hI.1 a s0 ha).1 hs
    rw [hn] at h
    exact ⟨_, hc, h.to (fun j hj => by simp [vp_V, hj])⟩
theorem h_get (hx : p.tables.exec = Jvm.exec) (hb : c.code = cc) {own ref C : String} {T : u_T} {N' index : Nat} {Ts : List Cond} (hts : ∀ w ∈ Ts, w.before args s = true) (hin : ∀ w ∈ u_ws C T N', w ∈ Ts) (hown : s.vm.findClass own = some m.cls) (hK : va_K D vwCl (kY g) s) (hI : kI D g σ le M0 H0 M N R H locs) (ha : σ a = some s0) (hs : s0 < 10) (hc : vwCl[s0]? = some (C, T, N')) (hn : hs_n s0 = N') (k : Nat) (hk : k < N') (hlink : (Cond.fieldLink own index ref (T k).2.1 (T k).2.2.1).before args s = true) (hsame : ∀ x, s.fieldFound? (T k).1 (T k).2.1 (T k).2.2.1 = some x → s.fieldFound? ref (T k).2.1 (T k).2.2.1 = some x) (hdg : decode cc pc = .ok (.getfield index, 3))
    (kk : W p l e Rm s m args below meth c H locs 0 0 Q (F0 m (pc + 3) ls (hw_v (hs_f s0 k) M N R a k :: rest))) : W p l e Rm s m args below meth c H locs 0 0 Q (F0 m pc ls (.ref a :: rest)) :=
  va_get (D := D) (ci := s0) (C := C) (T := T) (N := N') hx hb hts hin hown hK (hI.obj ha hs hc hn) 0 rfl hc k hk hlink hsame (by simp [hk]) hdg kk
theorem h_geti (hx : p.tables.exec = Jvm.exec) (hb : c.code = cc) {own ref C : String} {T : u_T} {N' index : Nat} {Ts : List Cond} {lo hi : Int} (hts : ∀ w ∈ Ts, w.before args s = true) (hin : ∀ w ∈ u_ws C T N', w ∈ Ts) (hown : s.vm.findClass own = some m.cls) (hK : va_K D vwCl (kY g) s) (hI : kI D g σ le M0 H0 M N R H locs) (ha : σ a = some s0) (hs : s0 < 10) (hc : vwCl[s0]? = some (C, T, N')) (hn : hs_n s0 = N') (k : Nat) (hk : k < N') (hf : hs_f s0 k = 0) (ht : ti s0 k = (lo, hi)) (hlink : (Cond.fieldLink own index ref (T k).2.1 (T k).2.2.1).before args s = true) (hsame : ∀ x, s.fieldFound? (T k).1 (T k).2.1 (T k).2.2.1 = some x → s.fieldFound? ref (T k).2.1 (T k).2.2.1 = some x) (hdg : decode cc pc = .ok (.getfield index, 3))
    (kk : ∀ v : Int32, v = M a k → iv v lo hi → W p l e Rm s m args below meth c H locs 0 0 Q (F0 m (pc + 3) ls (.int v :: rest))) : W p l e Rm s m args below meth c H locs 0 0 Q (F0 m pc ls (.ref a :: rest)) :=
  h_get hx hb hts hin hown hK hI ha hs hc hn k hk hlink hsame hdg (by rw [hf]; exact kk (M a k) rfl (hI.iv1 ha hn hk ht))
theorem h_getl (hx : p.tables.exec = Jvm.exec) (hb : c.code = cc) {own ref C : String} {T : u_T} {N' index : Nat} {Ts : List Cond} (hts : ∀ w ∈ Ts, w.before args s = true) (hin : ∀ w ∈ u_ws C T N', w ∈ Ts) (hown : s.vm.findClass own = some m.cls) (hK : va_K D vwCl (kY g) s) (hI : kI D g σ le M0 H0 M N R H locs) (ha : σ a = some s0) (hs : s0 < 10) (hc : vwCl[s0]? = some (C, T, N')) (hn : hs_n s0 = N') (k : Nat) (hk : k < N') (hf : hs_f s0 k = 1) (hlink : (Cond.fieldLink own index ref (T k).2.1 (T k).2.2.1).before args s = true) (hsame : ∀ x, s.fieldFound? (T k).1 (T k).2.1 (T k).2.2.1 = some x → s.fieldFound? ref (T k).2.1 (T k).2.2.1 = some x) (hdg : decode cc pc = .ok (.getfield index, 3))
    (kk : ∀ v : Int64, v = N a k → W p l e Rm s m args below meth c H locs 0 0 Q (F0 m (pc + 3) ls (.long v :: rest))) : W p l e Rm s m args below meth c H locs 0 0 Q (F0 m pc ls (.ref a :: rest)) :=
  h_get hx hb hts hin hown hK hI ha hs hc hn k hk hlink hsame hdg (by rw [hf]; exact kk (N a k) rfl)
theorem h_getr (hx : p.tables.exec = Jvm.exec) (hb : c.code = cc) {own ref C : String} {T : u_T} {N' index : Nat} {Ts : List Cond} (hts : ∀ w ∈ Ts, w.before args s = true) (hin : ∀ w ∈ u_ws C T N', w ∈ Ts) (hown : s.vm.findClass own = some m.cls) (hK : va_K D vwCl (kY g) s) (hI : kI D g σ le M0 H0 M N R H locs) (ha : σ a = some s0) (hs : s0 < 10) (hc : vwCl[s0]? = some (C, T, N')) (hn : hs_n s0 = N') (k : Nat) (hk : k < N') (hf : hs_f s0 k = 2) (t : Nat) (ht : tl s0 k = [t]) (hlink : (Cond.fieldLink own index ref (T k).2.1 (T k).2.2.1).before args s = true) (hsame : ∀ x, s.fieldFound? (T k).1 (T k).2.1 (T k).2.2.1 = some x → s.fieldFound? ref (T k).2.1 (T k).2.2.1 = some x) (hdg : decode cc pc = .ok (.getfield index, 3))
    (kk : ∀ v : Nat, v = R a k → σ v = some t → W p l e Rm s m args below meth c H locs 0 0 Q (F0 m (pc + 3) ls (.ref v :: rest))) : W p l e Rm s m args below meth c H locs 0 0 Q (F0 m pc ls (.ref a :: rest)) :=
  h_get hx hb hts hin hown hK hI ha hs hc hn k hk hlink hsame hdg (by rw [hf]; exact kk (R a k) rfl (hI.2.1.r1 ha k t (by rw [hn]; exact hk) ht))
theorem h_getr2 (hx : p.tables.exec = Jvm.exec) (hb : c.code = cc) {own ref C : String} {T : u_T} {N' index : Nat} {Ts : List Cond} (hts : ∀ w ∈ Ts, w.before args s = true) (hin : ∀ w ∈ u_ws C T N', w ∈ Ts) (hown : s.vm.findClass own = some m.cls) (hK : va_K D vwCl (kY g) s) (hI : kI D g σ le M0 H0 M N R H locs) (ha : σ a = some s0) (hs : s0 < 10) (hc : vwCl[s0]? = some (C, T, N')) (hn : hs_n s0 = N') (k : Nat) (hk : k < N') (hf : hs_f s0 k = 2) (t1 t2 : Nat) (ht : tl s0 k = [t1, t2]) (hlink : (Cond.fieldLink own index ref (T k).2.1 (T k).2.2.1).before args s = true) (hsame : ∀ x, s.fieldFound? (T k).1 (T k).2.1 (T k).2.2.1 = some x → s.fieldFound? ref (T k).2.1 (T k).2.2.1 = some x) (hdg : decode cc pc = .ok (.getfield index, 3))
    (kk : ∀ v : Nat, v = R a k → σ v = some t1 ∨ σ v = some t2 → W p l e Rm s m args below meth c H locs 0 0 Q (F0 m (pc + 3) ls (.ref v :: rest))) : W p l e Rm s m args below meth c H locs 0 0 Q (F0 m pc ls (.ref a :: rest)) :=
  h_get hx hb hts hin hown hK hI ha hs hc hn k hk hlink hsame hdg (by rw [hf]; exact kk (R a k) rfl (hI.2.1.r2 ha k t1 t2 (by rw [hn]; exact hk) ht))
/-- a field is written: the heap behind it -/
theorem h_put (hx : p.tables.exec = Jvm.exec) (hb : c.code = cc) {own ref C : String} {T : u_T} {N' index : Nat} {Ts : List Cond} (hts : ∀ w ∈ Ts, w.before args s = true) (hin : ∀ w ∈ u_ws C T N', w ∈ Ts) (ty0 : Nat → FieldType) (hty : ∀ k, k < N' → parseFieldDescriptor (T k).2.2.1 = some (ty0 k)) (hnm : ∀ a, a < N' → ∀ b, b < N' → a ≠ b → (T a).2.1 ≠ (T b).2.1) (hown : s.vm.findClass own = some m.cls) (hK : va_K D vwCl (kY g) s) (hI : kI D g σ le M0 H0 M N R H locs) (ha : σ a = some s0) (hs : s0 < 10) (hc : vwCl[s0]? = some (C, T, N')) (hn' : hs_n s0 = N') (k : Nat) (hk : k < N') (hlink : (Cond.fieldLink own index ref (T k).2.1 (T k).2.2.1).before args s = true) (hsame : ∀ x, s.fieldFound? (T k).1 (T k).2.1 (T k).2.2.1 = some x → s.fieldFound? ref (T k).2.1 (T k).2.2.1 = some x) (hfin : (T k).2.2.2 = false) {ty : FieldType} {v : Value} (hd : parseFieldDescriptor (T k).2.2.1 = some ty) (hn : narrow ty v = v) (hfit : fits ty v = true) {M1 : hM} {N1 : hN} {R1 : hR}
    (hM : ∀ b j, b ≠ a → M1 b j = M b j) (hN : ∀ b j, b ≠ a → N1 b j = N b j) (hR : ∀ b j, b ≠ a → R1 b j = R b j) (hv : ∀ j, j < N' → updV (fun j => hw_v (hs_f s0 j) M N R a j) k v j = hw_v (hs_f s0 j) M1 N1 R1 a j) (hT1 : hT σ M1 R1) (hE1 : hAg σ le M0 M1)
    (hdg : decode cc pc = .ok (.putfield index, 3)) (kk : ∀ (H1 : Heap) (locs1 : List Loc), kI D g σ le M0 H0 M1 N1 R1 H1 locs1 → W p l e Rm s m args below meth c H1 locs1 0 0 Q (F0 m (pc + 3) ls rest)) : W p l e Rm s m args below meth c H locs 0 0 Q (F0 m pc ls (v :: .ref a :: rest)) := by
  have hap := va_apart (own := own) hts hin ty0 hty hnm hK hc
  obtain ⟨cell, q1, q2, q3, q4⟩ := (hI.1 a s0 ha).1 hs
  rw [hn'] at q4
  obtain ⟨hS, hfc, kC, hkC, hkind⟩ := hK.1 s0 _ hc
  obtain ⟨cf, kf, fi, f, hi, hsl⟩ := hS k hk
  have hlay := hts _ (hin _ (u_in_lay hk))
  unfold u_lay at hlay
  rw [if_neg (by rw [hfin]; decide)] at hlay
  have hst := (u_facts hfc hkC (u_lays hts hin hk) hi).1
  have h6 := u_store hfc hkC hkind hlay hi hd hn hfit
  refine W.putK hx hb (f := f) ⟨hown, hlink, ⟨_, _, _, hsame _ hi⟩, hst⟩ (by rw [q2]; exact h6) q1 q3 (by rw [hsl]; exact k2_hasslot (q4 k hk)) rfl rfl hdg fun H' e1 e2 e3 => ?_
  rw [hsl] at e1 ⊢
  refine kk H' _ ⟨hI.1.step ha e3 hM hN hR ⟨fun _ => ?_, fun q => absurd hs (by omega)⟩, hT1, hE1, hI.2.2.2.put e2 e3 (by rw [hA, ha]; exact fun q => by cases q)⟩
  rw [hn']
  exact t_OB.to (V := updV (fun j => hw_v (hs_f s0 j) M N R a j) k v) ⟨_, e1, q2, q3, t_set q4 hap hk v⟩ hv
theorem h_puti (hx : p.tables.exec = Jvm.exec) (hb : c.code = cc) {own ref C : String} {T : u_T} {N' index : Nat} {Ts : List Cond} (hts : ∀ w ∈ Ts, w.before args s = true) (hin : ∀ w ∈ u_ws C T N', w ∈ Ts) (ty0 : Nat → FieldType) (hty : ∀ k, k < N' → parseFieldDescriptor (T k).2.2.1 = some (ty0 k)) (hnm : ∀ a, a < N' → ∀ b, b < N' → a ≠ b → (T a).2.1 ≠ (T b).2.1) (hown : s.vm.findClass own = some m.cls) (hK : va_K D vwCl (kY g) s) (hI : kI D g σ le M0 H0 M N R H locs) (ha : σ a = some s0) (hs : s0 < 10) (hc : vwCl[s0]? = some (C, T, N')) (hn' : hs_n s0 = N') (k : Nat) (hk : k < N') (hf : hs_f s0 k = 0) (hlink : (Cond.fieldLink own index ref (T k).2.1 (T k).2.2.1).before args s = true) (hsame : ∀ x, s.fieldFound? (T k).1 (T k).2.1 (T k).2.2.1 = some x → s.fieldFound? ref (T k).2.1 (T k).2.2.1 = some x) (hfin : (T k).2.2.2 = false) (ty : FieldType) {v : Int32} (hd : parseFieldDescriptor (T k).2.2.1 = some ty) (hn : narrow ty (.int v) = .int v) (hfit : fits ty (.int v) = true) (hv : iv v (ti s0 k).1 (ti s0 k).2) (he : ef le s0 k = true)
    (hdg : decode cc pc = .ok (.putfield index, 3)) (kk : ∀ (M1 : hM) (H1 : Heap) (locs1 : List Loc), M1 = u2 M a k v → kI D g σ le M0 H0 M1 N R H1 locs1 → W p l e Rm s m args below meth c H1 locs1 0 0 Q (F0 m (pc + 3) ls rest)) : W p l e Rm s m args below meth c H locs 0 0 Q (F0 m pc ls (.int v :: .ref a :: rest)) :=
  h_put (M1 := u2 M a k v) (N1 := N) (R1 := R) hx hb hts hin ty0 hty hnm hown hK hI ha hs hc hn' k hk hlink hsame hfin hd hn hfit (fun b j h => u2_a h) (fun _ _ _ => rfl) (fun _ _ _ => rfl) (fun j hj => by
    by_cases q : j = k
    · subst q
      simp only [updV, if_true, hf, hw_v, u2_s]
    · simp only [updV, q, if_false]
      match hs_f s0 j with
      | 0 => simp only [hw_v, u2_k q]
      | 1 => rfl
      | (n + 2) => rfl) (hI.2.1.put ha hv) (hI.2.2.1.put ha he) hdg (fun H1 locs1 h => kk _ H1 locs1 rfl h)
theorem h_putl (hx : p.tables.exec = Jvm.exec) (hb : c.code = cc) {own ref C : String} {T : u_T} {N' index : Nat} {Ts : List Cond} (hts : ∀ w ∈ Ts, w.before args s = true) (hin : ∀ w ∈ u_ws C T N', w ∈ Ts) (ty0 : Nat → FieldType) (hty : ∀ k, k < N' → parseFieldDescriptor (T k).2.2.1 = some (ty0 k)) (hnm : ∀ a, a < N' → ∀ b, b < N' → a ≠ b → (T a).2.1 ≠ (T b).2.1) (hown : s.vm.findClass own = some m.cls) (hK : va_K D vwCl (kY g) s) (hI : kI D g σ le M0 H0 M N R H locs) (ha : σ a = some s0) (hs : s0 < 10) (hc : vwCl[s0]? = some (C, T, N')) (hn' : hs_n s0 = N') (k : Nat) (hk : k < N') (hf : hs_f s0 k = 1) (hlink : (Cond.fieldLink own index ref (T k).2.1 (T k).2.2.1).before args s = true) (hsame : ∀ x, s.fieldFound? (T k).1 (T k).2.1 (T k).2.2.1 = some x → s.fieldFound? ref (T k).2.1 (T k).2.2.1 = some x) (hfin : (T k).2.2.2 = false) {v : Int64} (hd : parseFieldDescriptor (T k).2.2.1 = some .long)
    (hdg : decode cc pc = .ok (.putfield index, 3)) (kk : ∀ (N1 : hN) (H1 : Heap) (locs1 : List Loc), N1 = u2 N a k v → kI D g σ le M0 H0 M N1 R H1 locs1 → W p l e Rm s m args below meth c H1 locs1 0 0 Q (F0 m (pc + 3) ls rest)) : W p l e Rm s m args below meth c H locs 0 0 Q (F0 m pc ls (.long v :: .ref a :: rest)) :=
  h_put (M1 := M) (N1 := u2 N a k v) (R1 := R) hx hb hts hin ty0 hty hnm hown hK hI ha hs hc hn' k hk hlink hsame hfin hd rfl rfl (fun _ _ _ => rfl) (fun b j h => u2_a h) (fun _ _ _ => rfl) (fun j hj => by
    by_cases q : j = k
    · subst q
      simp only [updV, if_true, hf, hw_v, u2_s]
    · simp only [updV, q, if_false]
      match hs_f s0 j with
      | 0 => rfl
      | 1 => simp only [hw_v, u2_k q]
      | (n + 2) => rfl) hI.2.1 hI.2.2.1 hdg (fun H1 locs1 h => kk _ H1 locs1 rfl h)
theorem h_putr (hx : p.tables.exec = Jvm.exec) (hb : c.code = cc) {own ref C : String} {T : u_T} {N' index : Nat} {Ts : List Cond} (hts : ∀ w ∈ Ts, w.before args s = true) (hin : ∀ w ∈ u_ws C T N', w ∈ Ts) (ty0 : Nat → FieldType) (hty : ∀ k, k < N' → parseFieldDescriptor (T k).2.2.1 = some (ty0 k)) (hnm : ∀ a, a < N' → ∀ b, b < N' → a ≠ b → (T a).2.1 ≠ (T b).2.1) (hown : s.vm.findClass own = some m.cls) (hK : va_K D vwCl (kY g) s) (hI : kI D g σ le M0 H0 M N R H locs) (ha : σ a = some s0) (hs : s0 < 10) (hc : vwCl[s0]? = some (C, T, N')) (hn' : hs_n s0 = N') (k : Nat) (hk : k < N') (hf : hs_f s0 k = 2) (hlink : (Cond.fieldLink own index ref (T k).2.1 (T k).2.2.1).before args s = true) (hsame : ∀ x, s.fieldFound? (T k).1 (T k).2.1 (T k).2.2.1 = some x → s.fieldFound? ref (T k).2.1 (T k).2.2.1 = some x) (hfin : (T k).2.2.2 = false) (ty : FieldType) {v : Nat} (hd : parseFieldDescriptor (T k).2.2.1 = some ty) (hn : narrow ty (.ref v) = .ref v) (hfit : fits ty (.ref v) = true) (t : Nat) (ht : t ∈ tl s0 k) (hv : σ v = some t)
    (hdg : decode cc pc = .ok (.putfield index, 3)) (kk : ∀ (R1 : hR) (H1 : Heap) (locs1 : List Loc), R1 = u2 R a k v → kI D g σ le M0 H0 M N R1 H1 locs1 → W p l e Rm s m args below meth c H1 locs1 0 0 Q (F0 m (pc + 3) ls rest)) : W p l e Rm s m args below meth c H locs 0 0 Q (F0 m pc ls (.ref v :: .ref a :: rest)) :=
  h_put (M1 := M) (N1 := N) (R1 := u2 R a k v) hx hb hts hin ty0 hty hnm hown hK hI ha hs hc hn' k hk hlink hsame hfin hd hn hfit (fun _ _ _ => rfl) (fun _ _ _ => rfl) (fun b j h => u2_a h) (fun j hj => by
    by_cases q : j = k
    · subst q
      simp only [updV, if_true, hf, hw_v, u2_s]
    · simp only [updV, q, if_false]
      match hs_f s0 j with
      | 0 => rfl
      | 1 => rfl
      | (n + 2) => simp only [hw_v, u2_k q]) (hI.2.1.putR ha ht hv) hI.2.2.1 hdg (fun H1 locs1 h => kk _ H1 locs1 rfl h)
/-- a row as a world of one cell -/
theorem kI.arr {t n : Nat} (hI : kI D g σ le M0 H0 M N R H locs) (ha : σ a = some s0) (hs : 10 ≤ s0) (ht : hs_a s0 = (t, n)) : H[a]? = some (arrV (g t) n (fun j => hw_v (hs_k t) M N R a j)) := by
  have h := (hI.1 a s0 ha).2 hs
  rw [ht] at h
  exact h
theorem va_P1 {q : Nat × va_E} (h : va_at D vwCl q H) : va_P D vwCl [q] H := by
  intro k r hk
  cases k with
  | succ k => simp at hk
  | zero => cases Option.some.inj hk; exact h
theorem h_iald (hx : p.tables.exec = Jvm.exec) (hb : c.code = cc) (hK : va_K D vwCl (kY g) s) (hI : kI D g σ le M0 H0 M N R H locs) (ha : σ a = some s0) (hs : 10 ≤ s0) {n : Nat} (ht : hs_a s0 = (1, n)) {i : Int32} (hin : vp_in i n) {j : Nat} (hj : i.toNatClampNeg = j) {lo hi : Int} (hv : iv (M a j) lo hi) (hdg : decode cc pc = .ok (.iaload, 1))
    (kk : ∀ v : Int32, v = M a j → iv v lo hi → W p l e Rm s m args below meth c H locs 0 0 Q (F0 m (pc + 1) ls (.int v :: rest))) : W p l e Rm s m args below meth c H locs 0 0 Q (F0 m pc ls (.int i :: .ref a :: rest)) :=
  va_iald (D := D) hx hb hK (va_P1 (q := (a, .inl (g 1, n, .inl (M a)))) (hI.arr ha hs ht)) 0 1 rfl rfl hin hdg (by rw [hj]; exact kk _ rfl hv)
theorem h_bald (hx : p.tables.exec = Jvm.exec) (hb : c.code = cc) (hK : va_K D vwCl (kY g) s) (hI : kI D g σ le M0 H0 M N R H locs) (ha : σ a = some s0) (hs : 10 ≤ s0) {n : Nat} (ht : hs_a s0 = (0, n)) {i : Int32} (hin : vp_in i n) {j : Nat} (hj : i.toNatClampNeg = j) {lo hi : Int} (hv : iv (M a j) lo hi) (hdg : decode cc pc = .ok (.baload, 1))
    (kk : ∀ v : Int32, v = M a j → iv v lo hi → W p l e Rm s m args below meth c H locs 0 0 Q (F0 m (pc + 1) ls (.int v :: rest))) : W p l e Rm s m args below meth c H locs 0 0 Q (F0 m pc ls (.int i :: .ref a :: rest)) :=
  va_bald (D := D) hx hb hK (va_P1 (q := (a, .inl (g 0, n, .inl (M a)))) (hI.arr ha hs ht)) 0 0 rfl rfl hin hdg (by rw [hj]; exact kk _ rfl hv)
theorem h_zald (hx : p.tables.exec = Jvm.exec) (hb : c.code = cc) (hK : va_K D vwCl (kY g) s) (hI : kI D g σ le M0 H0 M N R H locs) (ha : σ a = some s0) (hs : 10 ≤ s0) {n : Nat} (ht : hs_a s0 = (3, n)) {i : Int32} (hin : vp_in i n) {j : Nat} (hj : i.toNatClampNeg = j) {lo hi : Int} (hv : iv (M a j) lo hi) (hdg : decode cc pc = .ok (.baload, 1))
    (kk : ∀ v : Int32, v = M a j → iv v lo hi → W p l e Rm s m args below meth c H locs 0 0 Q (F0 m (pc + 1) ls (.int v :: rest))) : W p l e Rm s m args below meth c H locs 0 0 Q (F0 m pc ls (.int i :: .ref a :: rest)) :=
  va_zald (D := D) hx hb hK (va_P1 (q := (a, .inl (g 3, n, .inl (M a)))) (hI.arr ha hs ht)) 0 3 rfl rfl hin hdg (by rw [hj]; exact kk _ rfl hv)
theorem h_lald (hx : p.tables.exec = Jvm.exec) (hb : c.code = cc) (hK : va_K D vwCl (kY g) s) (hI : kI D g σ le M0 H0 M N R H locs) (ha : σ a = some s0) (hs : 10 ≤ s0) {n : Nat} (ht : hs_a s0 = (2, n)) {i : Int32} (hin : vp_in i n) {j : Nat} (hj : i.toNatClampNeg = j) (hdg : decode cc pc = .ok (.laload, 1))
    (kk : ∀ v : Int64, v = N a j → W p l e Rm s m args below meth c H locs 0 0 Q (F0 m (pc + 1) ls (.long v :: rest))) : W p l e Rm s m args below meth c H locs 0 0 Q (F0 m pc ls (.int i :: .ref a :: rest)) :=
  va_lald (D := D) hx hb hK (va_P1 (q := (a, .inl (g 2, n, .inr (.inl (N a))))) (hI.arr ha hs ht)) 0 2 rfl rfl hin hdg (by rw [hj]; exact kk _ rfl)
theorem h_aald (hx : p.tables.exec = Jvm.exec) (hb : c.code = cc) (hK : va_K D vwCl (kY g) s) (hI : kI D g σ le M0 H0 M N R H locs) (ha : σ a = some s0) (hs : 10 ≤ s0) {n : Nat} (ht : hs_a s0 = (4, n)) (hn : hs_n s0 = n) (htl : tl s0 0 = [7]) {i : Int32} (hin : vp_in i n) {j : Nat} (hj : i.toNatClampNeg = j) (hdg : decode cc pc = .ok (.aaload, 1))
    (kk : ∀ v : Nat, v = R a j → σ v = some 7 → W p l e Rm s m args below meth c H locs 0 0 Q (F0 m (pc + 1) ls (.ref v :: rest))) : W p l e Rm s m args below meth c H locs 0 0 Q (F0 m pc ls (.int i :: .ref a :: rest)) := by
  have hlt := in_lt hin
  have htj : tl s0 j = [7] := by
    have : tl s0 j = tl s0 0 := by simp only [tl, if_neg (show ¬ s0 < 10 by omega)]
    rw [this]; exact htl
  refine va_aldq (D := D) (f := fun j => some (R a j)) hx hb hK (va_P1 (q := (a, .inl (g 4, n, .inr (.inr (.inr (.inr (fun j => some (R a j)))))))) (hI.arr ha hs ht)) 0 4 rfl rfl hin hdg ?_
  rw [hj]
  exact kk _ rfl (hI.2.1.r1 ha j 7 (by rw [hn, ← hj]; exact hlt) htj)
theorem h_alen (hx : p.tables.exec = Jvm.exec) (hb : c.code = cc) (hK : va_K D vwCl (kY g) s) (hI : kI D g σ le M0 H0 M N R H locs) (ha : σ a = some s0) (hs : 10 ≤ s0) {t n : Nat} (ht : hs_a s0 = (t, n)) {v : Int32} (ht5 : t < 5) (hv : Int32.ofNat n = v) (hdg : decode cc pc = .ok (.arraylength, 1))
    (kk : W p l e Rm s m args below meth c H locs 0 0 Q (F0 m (pc + 1) ls (.int v :: rest))) : W p l e Rm s m args below meth c H locs 0 0 Q (F0 m pc ls (.ref a :: rest)) := by
  have h := hI.arr ha hs ht
  match t, ht5, h with
  | 0, _, h => exact va_alen (D := D) hx hb hK (va_P1 (q := (a, .inl (g 0, n, .inl (M a)))) h) 0 0 rfl rfl hv hdg kk
  | 1, _, h => exact va_alen (D := D) hx hb hK (va_P1 (q := (a, .inl (g 1, n, .inl (M a)))) h) 0 1 rfl rfl hv hdg kk
  | 2, _, h => exact va_alen (D := D) hx hb hK (va_P1 (q := (a, .inl (g 2, n, .inr (.inl (N a))))) h) 0 2 rfl rfl hv hdg kk
  | 3, _, h => exact va_alen (D := D) hx hb hK (va_P1 (q := (a, .inl (g 3, n, .inl (M a)))) h) 0 3 rfl rfl hv hdg kk
  | 4, _, h => exact va_alen (D := D) hx hb hK (va_P1 (q := (a, .inl (g 4, n, .inr (.inr (.inr (.inr (fun j => some (R a j)))))))) h) 0 4 rfl rfl hv hdg kk
/-- a row is written: the heap behind it -/
theorem kI.ast {t n k : Nat} {M1 : hM} {N1 : hN} {R1 : hR} {H1 : Heap} {x : Value} (hI : kI D g σ le M0 H0 M N R H locs) (ha : σ a = some s0) (hs : 10 ≤ s0) (ht : hs_a s0 = (t, n)) (h1 : H1[a]? = some ((arrV (g t) n (fun j => hw_v (hs_k t) M N R a j)).setSlot k x)) (z : H1.size = H.size) (oq : ∀ q : Nat, q ≠ a → H1[q]? = H[q]?) (hM : ∀ b j, b ≠ a → M1 b j = M b j) (hN : ∀ b j, b ≠ a → N1 b j = N b j) (hR : ∀ b j, b ≠ a → R1 b j = R b j) (hv : ∀ j, updV (fun j => hw_v (hs_k t) M N R a j) k x j = hw_v (hs_k t) M1 N1 R1 a j) (hT1 : hT σ M1 R1) (hE1 : hAg σ le M0 M1) (k2 : Nat) : kI D g σ le M0 H0 M1 N1 R1 H1 (locs ++ [⟨a, k2⟩]) := by
  refine ⟨hI.1.step ha oq hM hN hR ⟨fun q => absurd hs (by omega), fun _ => ?_⟩, hT1, hE1, hI.2.2.2.put z oq (by rw [hA, ha]; exact fun q => by cases q)⟩
  rw [h1, arrV_store, ht]
  congr 2
  funext j
  exact hv j
theorem u2_upd {k : Nat} {x : Int32} (j : Nat) : updV (fun j => hw_v 0 M N R a j) k (.int x) j = hw_v 0 (u2 M a k x) N R a j := by
  by_cases q : j = k
  · subst q; simp only [updV, if_true, hw_v, u2_s]
  · simp only [updV, q, if_false, hw_v, u2_k q]
theorem h_iast (hx : p.tables.exec = Jvm.exec) (hb : c.code = cc) (hK : va_K D vwCl (kY g) s) (hI : kI D g σ le M0 H0 M N R H locs) (ha : σ a = some s0) (hs : 10 ≤ s0) {n : Nat} (ht : hs_a s0 = (1, n)) {i x : Int32} (hin : vp_in i n) {j : Nat} (hj : i.toNatClampNeg = j) (hv : iv x (ti s0 j).1 (ti s0 j).2) (he : ef le s0 j = true) (hdg : decode cc pc = .ok (.iastore, 1))
    (kk : ∀ (M1 : hM) (H1 : Heap) (locs1 : List Loc), M1 = u2 M a j x → kI D g σ le M0 H0 M1 N R H1 locs1 → W p l e Rm s m args below meth c H1 locs1 0 0 Q (F0 m (pc + 1) ls rest)) : W p l e Rm s m args below meth c H locs 0 0 Q (F0 m pc ls (.int x :: .int i :: .ref a :: rest)) := by
  subst hj
  exact W.iast hx hb (hI.arr ha hs ht) ((hK.2 1 _ rfl).1 n _) (fun q => by cases q) (by rw [arrV_size]; exact hin) rfl rfl hdg fun H1 e z oq => kk _ H1 _ rfl (hI.ast ha hs ht e z oq (fun b j h => u2_a h) (fun _ _ _ => rfl) (fun _ _ _ => rfl) u2_upd (hI.2.1.put ha hv) (hI.2.2.1.put ha he) _)
theorem h_bast (hx : p.tables.exec = Jvm.exec) (hb : c.code = cc) (hK : va_K D vwCl (kY g) s) (hI : kI D g σ le M0 H0 M N R H locs) (ha : σ a = some s0) (hs : 10 ≤ s0) {n : Nat} (ht : hs_a s0 = (0, n)) {i x : Int32} (hin : vp_in i n) {j : Nat} (hj : i.toNatClampNeg = j) (hv : iv (vp_nar .byte x) (ti s0 j).1 (ti s0 j).2) (he : ef le s0 j = true) (hdg : decode cc pc = .ok (.bastore, 1))
    (kk : ∀ (M1 : hM) (H1 : Heap) (locs1 : List Loc), M1 = u2 M a j (vp_nar .byte x) → kI D g σ le M0 H0 M1 N R H1 locs1 → W p l e Rm s m args below meth c H1 locs1 0 0 Q (F0 m (pc + 1) ls rest)) : W p l e Rm s m args below meth c H locs 0 0 Q (F0 m pc ls (.int x :: .int i :: .ref a :: rest)) := by
  subst hj
  exact W.bast hx hb (hI.arr ha hs ht) ((hK.2 0 _ rfl).1 n _) (fun q => by cases q) (by rw [arrV_size]; exact hin) rfl rfl hdg fun H1 e z oq => kk _ H1 _ rfl (hI.ast (x := .int (vp_nar .byte x)) ha hs ht e z oq (fun b j h => u2_a h) (fun _ _ _ => rfl) (fun _ _ _ => rfl) u2_upd (hI.2.1.put ha hv) (hI.2.2.1.put ha he) _)
theorem h_zast (hx : p.tables.exec = Jvm.exec) (hb : c.code = cc) (hK : va_K D vwCl (kY g) s) (hI : kI D g σ le M0 H0 M N R H locs) (ha : σ a = some s0) (hs : 10 ≤ s0) {n : Nat} (ht : hs_a s0 = (3, n)) {i x : Int32} (hin : vp_in i n) {j : Nat} (hj : i.toNatClampNeg = j) (hv : iv (vp_nar .boolean x) (ti s0 j).1 (ti s0 j).2) (he : ef le s0 j = true) (hdg : decode cc pc = .ok (.bastore, 1))
    (kk : ∀ (M1 : hM) (H1 : Heap) (locs1 : List Loc), M1 = u2 M a j (vp_nar .boolean x) → kI D g σ le M0 H0 M1 N R H1 locs1 → W p l e Rm s m args below meth c H1 locs1 0 0 Q (F0 m (pc + 1) ls rest)) : W p l e Rm s m args below meth c H locs 0 0 Q (F0 m pc ls (.int x :: .int i :: .ref a :: rest)) := by
  subst hj
  exact W.zast hx hb (hI.arr ha hs ht) ((hK.2 3 _ rfl).1 n _) (fun q => by cases q) (by rw [arrV_size]; exact hin) rfl rfl hdg fun H1 e z oq => kk _ H1 _ rfl (hI.ast (x := .int (vp_nar .boolean x)) ha hs ht e z oq (fun b j h => u2_a h) (fun _ _ _ => rfl) (fun _ _ _ => rfl) u2_upd (hI.2.1.put ha hv) (hI.2.2.1.put ha he) _)
theorem h_last (hx : p.tables.exec = Jvm.exec) (hb : c.code = cc) (hK : va_K D vwCl (kY g) s) (hI : kI D g σ le M0 H0 M N R H locs) (ha : σ a = some s0) (hs : 10 ≤ s0) {n : Nat} (ht : hs_a s0 = (2, n)) {i : Int32} {x : Int64} (hin : vp_in i n) {j : Nat} (hj : i.toNatClampNeg = j) (hdg : decode cc pc = .ok (.lastore, 1))
    (kk : ∀ (N1 : hN) (H1 : Heap) (locs1 : List Loc), N1 = u2 N a j x → kI D g σ le M0 H0 M N1 R H1 locs1 → W p l e Rm s m args below meth c H1 locs1 0 0 Q (F0 m (pc + 1) ls rest)) : W p l e Rm s m args below meth c H locs 0 0 Q (F0 m pc ls (.long x :: .int i :: .ref a :: rest)) := by
  subst hj
  exact W.last hx hb (hI.arr ha hs ht) ((hK.2 2 _ rfl).1 n _) (fun q => by cases q) (by rw [arrV_size]; exact hin) rfl rfl hdg fun H1 e z oq => kk _ H1 _ rfl (hI.ast ha hs ht e z oq (fun _ _ _ => rfl) (fun b j h => u2_a h) (fun _ _ _ => rfl) (fun j => by
    by_cases q : j = i.toNatClampNeg
    · subst q; simp only [updV, if_true, hw_v, hs_k, u2_s]
    · simp only [updV, q, if_false, hw_v, hs_k, u2_k q]) hI.2.1 hI.2.2.1 _)
/-- a whole row is copied into another one of its sort -/
def u2c (M : hM) (a0 a n : Nat) : hM := fun b j => if b = a ∧ j < n then M a0 j else M b j
theorem h_copy (hx : p.tables.exec = Jvm.exec) (hb : c.code = cc) (hml : c.maxLocals = ls.size) {own : String} {index : Nat} (hown : s.vm.findClass own = some m.cls) (hlink : (Cond.methodLink own index arraycopyName).before args s = true) (hnat : (Cond.native arraycopyName).before args s = true) (hstat : (Cond.static arraycopyName).before args s = true) (hini : (Cond.initialized "java/lang/System").before args s = true)
    (hK : va_K D vwCl (kY g) s) (hI : kI D g σ le M0 H0 M N R H locs) {a0 : Nat} (ha0 : σ a0 = some s0) (ha : σ a = some s0) (hs : 10 ≤ s0) {n : Nat} (ht : hs_a s0 = (1, n)) (hn' : hs_n s0 = n) {z k : Int32} (hz : z = 0) (hk : k.toNatClampNeg = n) (hk0 : ¬ k < 0) (he : ∀ j, j < n → ef le s0 j = true)
    (hframes : 1 ≤ Rm.frames) (hlocals : (rest.map fun v => v.category).sum + (nativeFrameWords "java/lang/System" "arraycopy" 5 + 11) ≤ Rm.locals) (hdg : decode cc pc = .ok (.invokestatic index, 3))
    (kk : ∀ (M1 : hM) (H1 : Heap) (locs1 : List Loc), M1 = u2c M a0 a n → kI D g σ le M0 H0 M1 N R H1 locs1 → W p l e Rm s m args below meth c H1 locs1 0 0 Q (F0 m (pc + 3) ls rest)) : W p l e Rm s m args below meth c H locs 0 0 Q (F0 m pc ls (.int k :: .int z :: .ref a :: .int z :: .ref a0 :: rest)) := by
  subst hz
  have e0 : (0 : Int32).toNatClampNeg = 0 := by decide
  have n0 : ¬ (0 : Int32) < 0 := by decide
  have i0 : (0 : Int32).toInt = 0 := by decide
  have kn : k.toInt = (n : Int) := by
    rw [Int32.lt_iff_toInt_lt, i0] at hk0
    have : k.toNatClampNeg = k.toInt.toNat := rfl
    omega
  intro T hT X
  have hc0 : H[a0]? = some (vp_cell (g 1) (n, .inl (M a0))) := hI.arr ha0 hs ht
  have hc1 : H[a]? = some (vp_cell (g 1) (n, .inl (M a))) := hI.arr ha hs ht
  obtain ⟨-, k0, hk0', cm0, hkk0⟩ := (hK.2 1 _ rfl).1 n (fun j => .int (M a0 j))
  obtain ⟨-, k1, hk1, cm1, hkk1⟩ := (hK.2 1 _ rfl).1 n (fun j => .int (M a j))
  obtain ⟨vm', X', step⟩ := X.arraycopy hx hown hlink hnat hstat hini (src := a0) (dst := a) (cs := vp_cell (g 1) (n, .inl (M a0))) (cd := vp_cell (g 1) (n, .inl (M a))) (srcPos := 0) (destPos := 0) (n := k) (by rw [hT]; exact hc0) (by rw [hT]; exact hc1)
    (fun _ h => by cases h) (fun _ h => by cases h) (fun h => by cases h) (fun h => by cases h) hk0' hk1 hkk0 hkk1 (by rfl) n0 n0 hk0
    (by rw [i0, kn]; show ¬ _ > ((arrV (g 1) n (fun j => .int (M a0 j))).slots.size : Int); rw [arrV_size]; omega)
    (by rw [i0, kn]; show ¬ _ > ((arrV (g 1) n (fun j => .int (M a j))).slots.size : Int); rw [arrV_size]; omega)
    (fun vm₁ _ i hi => by
      have e1 : (vp_cell (g 1) (n, .inl (M a0))).slots.getD ((0 : Int32).toNatClampNeg + i) .null = .int (M a0 i) := by
        show (arrV (g 1) n (fun j => .int (M a0 j))).slots.getD _ _ = _
        rw [Array.getD_eq_getD_getElem?, e0, Nat.zero_add, arrV_read _ _ (by omega)]
        rfl
      exact ⟨by rw [e1]; rfl, by rw [e1]; exact trivial⟩)
    (g := F0 m pc ls (.int k :: .int 0 :: .ref a :: .int 0 :: .ref a0 :: rest)) rfl (by rw [hml]) (rest := rest) rfl (by rw [hb]; exact hdg) hframes (by show 2 * 0 + _ + _ ≤ _; omega)
  have e1 : copied (vp_cell (g 1) (n, .inl (M a0))) (vp_cell (g 1) (n, .inl (M a))) 0 0 k = vp_cell (g 1) (n, .inl (va_cpy (M a0) (M a) (0 : Int32).toNatClampNeg (0 : Int32).toNatClampNeg k.toNatClampNeg)) := va_copied (fun z => .int z) (g 1) (g 1) (M a0) (M a) (by rw [e0, hk]; omega)
  have e2 : va_cpy (M a0) (M a) (0 : Int32).toNatClampNeg (0 : Int32).toNatClampNeg k.toNatClampNeg = u2c M a0 a n a := by
    funext j
    rw [e0, hk]
    by_cases q : j < n <;> simp [va_cpy, u2c, q]
  rw [e1, e2] at X' step
  have hl : a < H.size := (Array.getElem?_eq_some_iff.mp hc1).1
  have oq : ∀ q : Nat, q ≠ a → (H.setIfInBounds a (vp_cell (g 1) (n, .inl (u2c M a0 a n a))))[q]? = H[q]? := fun q hq => by simp [Array.getElem?_setIfInBounds, Ne.symm hq]
  obtain ⟨t, a1, b1⟩ := kk (u2c M a0 a n) (H.setIfInBounds a (vp_cell (g 1) (n, .inl (u2c M a0 a n a)))) _ rfl ⟨hI.1.step ha oq (fun b j h => by simp [u2c, h]) (fun _ _ _ => rfl) (fun _ _ _ => rfl) ⟨fun q => absurd hs (by omega), fun _ => by
      rw [ht]
      show (H.setIfInBounds a _)[a]? = some _
      simp only [Array.getElem?_setIfInBounds, hl, if_true]
      rfl⟩, ⟨fun b s1 hb j hj => by
        by_cases q : b = a ∧ j < n
        · obtain ⟨rfl, q2⟩ := q
          cases Option.some.inj (ha.symm.trans hb)
          simp only [u2c, q2, and_self, if_true]
          exact hI.2.1.1 a0 s0 ha0 j hj
        · simp only [u2c, q, if_false]
          exact hI.2.1.1 b s1 hb j hj, hI.2.1.2⟩, (fun b s1 j hb hf => by
        by_cases q : b = a ∧ j < n
        · obtain ⟨rfl, q2⟩ := q
          cases Option.some.inj (ha.symm.trans hb)
          rw [he j q2] at hf
          cases hf
        · simp only [u2c, q, if_false]
          exact hI.2.2.1 b s1 j hb hf), ⟨by simp; exact hI.2.2.2.1, fun q g1 g2 => by
      rw [oq q (fun e => g2 (by rw [e, hA, ha]; exact fun q => by cases q))]
      exact hI.2.2.2.2.1 q g1 g2, fun q hq => by
      rcases List.mem_append.mp hq with h | h
      · exact hI.2.2.2.2.2 q h
      · obtain ⟨z, -, hz⟩ := List.mem_map.mp h
        rw [← hz, hA, ha]
        exact fun q => by cases q⟩⟩ _ (by rw [← hT]; rfl) X'
  exact ⟨t, step t a1, b1⟩
/-! ends -/
theorem h_iret {v : Int32} {rt : FieldType} {post : Int32 → hM → hN → hR → Prop} (hQ : Q = MQ below (hQi D g σ le M0 post) args s 0 0 (hA σ)) (hx : p.tables.exec = Jvm.exec) (hb : c.code = cc) (hr : meth.sig.returnType = some rt) (hlocks : meth.locks = false) (hn : narrow rt (.int v) = .int v) (hK : va_K D vwCl (kY g) s) (hI : kI D g σ le M0 s.heap M N R H locs) (hq : post v M N R) (hdg : decode cc pc = .ok (.ireturn, 1)) :
    W p l e Rm s m args below meth c H locs 0 0 Q (F0 m pc ls [.int v]) := by
  rw [hQ]
  exact W.zret hx hb hr hn (fun t ht hW => ⟨⟨v, (M, N, R), rfl, hq, by rw [ht]; exact hI.1, hI.2.1, hI.2.2.1, va_K.moved hW.alike hK⟩, hI.2.2.2.F ht⟩) hI.2.2.2.2.2 hdg hlocks
theorem h_lret {v : Int64} {post : Int64 → hM → hN → hR → Prop} (hQ : Q = MQ below (hQl D g σ le M0 post) args s 0 0 (hA σ)) (hx : p.tables.exec = Jvm.exec) (hb : c.code = cc) (hr : meth.sig.returnType = some .long) (hlocks : meth.locks = false) (hK : va_K D vwCl (kY g) s) (hI : kI D g σ le M0 s.heap M N R H locs) (hq : post v M N R) (hdg : decode cc pc = .ok (.lreturn, 1)) :
    W p l e Rm s m args below meth c H locs 0 0 Q (F0 m pc ls [.long v]) := by
  rw [hQ]
  exact W.lret hx hb hr (fun t ht hW => ⟨⟨v, (M, N, R), rfl, hq, by rw [ht]; exact hI.1, hI.2.1, hI.2.2.1, va_K.moved hW.alike hK⟩, hI.2.2.2.F ht⟩) hI.2.2.2.2.2 hdg hlocks
theorem h_vret {post : hM → hN → hR → Prop} (hQ : Q = MQ below (hQv D g σ le M0 post) args s 0 0 (hA σ)) (hx : p.tables.exec = Jvm.exec) (hb : c.code = cc) (hr : meth.sig.returnType = none) (hlocks : meth.locks = false) (hK : va_K D vwCl (kY g) s) (hI : kI D g σ le M0 s.heap M N R H locs) (hq : post M N R) (hdg : decode cc pc = .ok (.return_, 1)) :
    W p l e Rm s m args below meth c H locs 0 0 Q (F0 m pc ls []) := by
  rw [hQ]
  exact W.vret hx hb hr (fun t ht hW => ⟨⟨(M, N, R), rfl, hq, by rw [ht]; exact hI.1, hI.2.1, hI.2.2.1, va_K.moved hW.alike hK⟩, hI.2.2.2.F ht⟩) hI.2.2.2.2.2 hdg hlocks
theorem h_aret {v : Nat} {rt : FieldType} {post : Nat → hM → hN → hR → Prop} (hQ : Q = MQ below (hQr D g σ le M0 post) args s 0 0 (hA σ)) (hx : p.tables.exec = Jvm.exec) (hb : c.code = cc) (hr : meth.sig.returnType = some rt) (hrt : (∃ n, rt = .object n) ∨ ∃ t, rt = .array t) (hlocks : meth.locks = false) (hK : va_K D vwCl (kY g) s) (hI : kI D g σ le M0 s.heap M N R H locs) (hq : post v M N R) (hdg : decode cc pc = .ok (.areturn, 1)) :
    W p l e Rm s m args below meth c H locs 0 0 Q (F0 m pc ls [.ref v]) := by
  rw [hQ]
  exact W.aret hx hb hr hrt (Or.inr ⟨_, rfl⟩) (fun t ht hW => ⟨⟨(M, N, R), v, rfl, trivial, hq, by rw [ht]; exact hI.1, hI.2.1, hI.2.2.1, va_K.moved hW.alike hK⟩, hI.2.2.2.F ht⟩) hI.2.2.2.2.2 hdg hlocks
/-! calls -/
section HCL
variable {y : MethodName} {bytes : ByteArray} {maxL nL n index : Nat} {ret : Option FieldType} {ws Ts : List Cond} {rm : Room} {own C : String} {b : Addr} {As : List Value} {l1 : List (Nat × Nat)} {av : Array Value}
theorem h_preV (hZ0 : hZ σ Z) (hK : va_K D vwCl (kY g) s) (hE : Z s s.heap) (hI : kI D g σ le M0 s.heap M N R H locs) (ha : σ b = some s0) (hs : s0 < 10) {T : u_T} {N' : Nat} (hc : vwCl[s0]? = some (C, T, N')) : PreV s H C b (va_Pc (.ref b :: As) (hPre D g σ Z M N R)) As :=
  ⟨h_blind hZ0, by
    obtain ⟨cell, q1, q2, q3, -⟩ := (hI.1 b s0 ha).1 hs
    exact ⟨cell, q1, by rw [q3]; rfl, by rw [q2]; exact (hK.1 s0 _ hc).2.1⟩, fun U hU hW => ⟨rfl, by rw [hU]; exact hI.1, hI.2.1, va_K.moved hW.alike hK, by rw [hU]; exact hZ0.2.1 s U H locs hE hI.2.2.2 hW⟩⟩
theorem h_preS (hZ0 : hZ σ Z) (hK : va_K D vwCl (kY g) s) (hE : Z s s.heap) (hI : kI D g σ le M0 s.heap M N R H locs) : PreS s H (va_Pc As (hPre D g σ Z M N R)) As :=
  ⟨h_blind hZ0, fun U hU hW => ⟨rfl, by rw [hU]; exact hI.1, hI.2.1, va_K.moved hW.alike hK, by rw [hU]; exact hZ0.2.1 s U H locs hE hI.2.2.2 hW⟩⟩
theorem h_preVS {aw : Nat} (hZ0 : hZ σ Z) (hK : va_K D vwCl (kY g) s) (hE : Z s s.heap) (hI : kI D g σ le M0 s.heap M N R H locs) (hO : va_O "java/lang/String" aw (hA σ) s s.heap) : PreV s H "java/lang/String" aw (va_Pc (.ref aw :: As) (hPre D g σ Z M N R)) As :=
  ⟨h_blind hZ0, by obtain ⟨cell, h1, h2, h3, -⟩ := hO.kept hI.2.2.2.2.1; exact ⟨cell, h1, h2, h3⟩, fun U hU hW => ⟨rfl, by rw [hU]; exact hI.1, hI.2.1, va_K.moved hW.alike hK, by rw [hU]; exact hZ0.2.1 s U H locs hE hI.2.2.2 hW⟩⟩
theorem kI.go {M1 : hM} {N1 : hN} {R1 : hR} {H1 : Heap} {locs1 : List Loc} {t : State} (hI : kI D g σ le M0 H0 M N R H locs) (hB1 : hB D g σ l1 M (M1, N1, R1) t) (ht : t.heap = H1) (hsub : efsub l1 le = true) (hS : va_S (hA σ) H0 H1 locs1) : kI D g σ le M0 H0 M1 N1 R1 H1 locs1 :=
  ⟨by rw [← ht]; exact hB1.1, hB1.2.1, hI.2.2.1.then hB1.2.2.1 hsub, hS⟩
theorem h_goi {post : Int32 → hM → hN → hR → Prop} (hI : kI D g σ le M0 H0 M N R H locs) (hsub : efsub l1 le = true)
    (hr : va_Run p l e Rm s m args below meth c H locs 0 0 0 0 (F0 m pc ls st0) rest (hQi D g σ l1 M post av) (hA σ))
    (kk : ∀ (r : Int32) (M1 : hM) (N1 : hN) (R1 : hR) (H1 : Heap) (locs1 : List Loc), post r M1 N1 R1 → hAg σ l1 M M1 → kI D g σ le M0 H0 M1 N1 R1 H1 locs1 → W p l e Rm s m args below meth c H1 locs1 0 0 Q (F0 m (pc + 3) ls (.int r :: rest))) : W p l e Rm s m args below meth c H locs 0 0 Q (F0 m pc ls st0) :=
  va_calli hr hI.2.2.2 (fun q _ h => h) (fun q h => h) (fun r u t H1 locs1 ht hvm hw hB1 hz1 hk1 hS1 => kk r u.1 u.2.1 u.2.2 H1 locs1 hw hB1.2.2.1 (hI.go hB1 ht hsub hS1))
theorem h_gol {post : Int64 → hM → hN → hR → Prop} (hI : kI D g σ le M0 H0 M N R H locs) (hsub : efsub l1 le = true)
    (hr : va_Run p l e Rm s m args below meth c H locs 0 0 0 0 (F0 m pc ls st0) rest (hQl D g σ l1 M post av) (hA σ))
    (kk : ∀ (r : Int64) (M1 : hM) (N1 : hN) (R1 : hR) (H1 : Heap) (locs1 : List Loc), post r M1 N1 R1 → hAg σ l1 M M1 → kI D g σ le M0 H0 M1 N1 R1 H1 locs1 → W p l e Rm s m args below meth c H1 locs1 0 0 Q (F0 m (pc + 3) ls (.long r :: rest))) : W p l e Rm s m args below meth c H locs 0 0 Q (F0 m pc ls st0) :=
  va_calll hr hI.2.2.2 (fun q _ h => h) (fun q h => h) (fun r u t H1 locs1 ht hvm hw hB1 hz1 hk1 hS1 => kk r u.1 u.2.1 u.2.2 H1 locs1 hw hB1.2.2.1 (hI.go hB1 ht hsub hS1))
theorem h_gov {post : hM → hN → hR → Prop} (hI : kI D g σ le M0 H0 M N R H locs) (hsub : efsub l1 le = true)
    (hr : va_Run p l e Rm s m args below meth c H locs 0 0 0 0 (F0 m pc ls st0) rest (hQv D g σ l1 M post av) (hA σ))
    (kk : ∀ (M1 : hM) (N1 : hN) (R1 : hR) (H1 : Heap) (locs1 : List Loc), post M1 N1 R1 → hAg σ l1 M M1 → kI D g σ le M0 H0 M1 N1 R1 H1 locs1 → W p l e Rm s m args below meth c H1 locs1 0 0 Q (F0 m (pc + 3) ls rest)) : W p l e Rm s m args below meth c H locs 0 0 Q (F0 m pc ls st0) :=
  va_callv hr hI.2.2.2 (fun q _ h => h) (fun q h => h) (fun u t H1 locs1 ht hvm hw hB1 hz1 hk1 hS1 => kk u.1 u.2.1 u.2.2 H1 locs1 hw hB1.2.2.1 (hI.go hB1 ht hsub hS1))
theorem h_gor {post : Nat → hM → hN → hR → Prop} (hI : kI D g σ le M0 H0 M N R H locs) (hsub : efsub l1 le = true)
    (hr : va_Run p l e Rm s m args below meth c H locs 0 0 0 0 (F0 m pc ls st0) rest (hQr D g σ l1 M post av) (hA σ))
    (kk : ∀ (r : Nat) (M1 : hM) (N1 : hN) (R1 : hR) (H1 : Heap) (locs1 : List Loc), post r M1 N1 R1 → hAg σ l1 M M1 → kI D g σ le M0 H0 M1 N1 R1 H1 locs1 → W p l e Rm s m args below meth c H1 locs1 0 0 Q (F0 m (pc + 3) ls (.ref r :: rest))) : W p l e Rm s m args below meth c H locs 0 0 Q (F0 m pc ls st0) :=
  va_callr hr hI.2.2.2 (fun q _ h => h) (fun q h => h) (fun u r t H1 locs1 ht hvm hw hB1 hz1 hk1 hS1 => kk r u.1 u.2.1 u.2.2 H1 locs1 hB1.1 hB1.2.2.2.1 (hI.go hB1.2 ht hsub hS1))
end HCL
theorem h_ldcw (hx : p.tables.exec = Jvm.exec) (hb : c.code = cc) {own tx : String} {index q : Nat} (hown : s.vm.findClass own = some m.cls) (hZ : vk_R own index tx q s) (hdg : decode cc pc = .ok (.ldc_w index, 3))
    (k : W p l e Rm s m args below meth c H locs 0 0 Q (F0 m (pc + 3) ls (.ref q :: rest))) : W p l e Rm s m args below meth c H locs 0 0 Q (F0 m pc ls rest) := by
  intro T hT X
  obtain ⟨t, a1, b1⟩ := k T hT X
  exact ⟨t, X.ldcStringW hx hown (text := tx) (a := q) hZ.1 hZ.2 (g := F0 m pc ls rest) rfl (by rw [hb]; exact hdg) t a1, b1⟩
/-! numbers on the stack get a name and an interval -/
theorem h_nm {x : Int32} {lo hi : Int} (hv : iv x lo hi) (kk : ∀ v : Int32, v = x → iv v lo hi → W p l e Rm s m args below meth c H locs 0 0 Q (F0 m pc ls (.int v :: rest))) : W p l e Rm s m args below meth c H locs 0 0 Q (F0 m pc ls (.int x :: rest)) := kk x rfl hv
theorem h_nml {x : Int64} (kk : ∀ v : Int64, v = x → W p l e Rm s m args below meth c H locs 0 0 Q (F0 m pc ls (.long v :: rest))) : W p l e Rm s m args below meth c H locs 0 0 Q (F0 m pc ls (.long x :: rest)) := kk x rfl
end HRW
