def kWT : String := "cat room tenant likes dies draw wants heir of in hours warm fidgets stayed rooms quarter or and not "
def kWB : List Int32 := [99, 97, 116, 32, 114, 111, 111, 109, 32, 116, 101, 110, 97, 110, 116, 32, 108, 105, 107, 101, 115, 32, 100, 105, 101, 115, 32, 100, 114, 97, 119, 32, 119, 97, 110, 116, 115, 32, 104, 101, 105, 114, 32, 111, 102, 32, 105, 110, 32, 104, 111, 117, 114, 115, 32, 119, 97, 114, 109, 32, 102, 105, 100, 103, 101, 116, 115, 32, 115, 116, 97, 121, 101, 100, 32, 114, 111, 111, 109, 115, 32, 113, 117, 97, 114, 116, 101, 114, 32, 111, 114, 32, 97, 110, 100, 32, 110, 111, 116, 32]
def kNest : List Cond := [.methodLinkNest RX8 26 yX4_init "CatLeases", .methodLinkNest RX8 54 yX3_init "CatLeases", .methodLinkNest RX8 61 yX1_init "CatLeases", .methodLinkNest RX8 75 yX6_init "CatLeases", .methodLinkNest RX4 46 yX2_init "CatLeases", .methodLinkNest RX5 11 yX4_init "CatLeases"]
/-- what the constructors need beside their cells: the nest's links, the text of the words, String's own statics -/
def kEnv (aw vw : Nat) (A : Nat → Prop) (U : State) (H : Heap) : Prop :=
  (∀ w ∈ kNest, va_Nw w U) ∧ vk_R RX5 64 kWT aw U ∧ va_O "java/lang/String" aw A U H ∧ va_OF "java/lang/String" "coder" "B" (.int 0) aw A U H ∧ va_OF "java/lang/String" "value" "[B" (.ref vw) aw A U H ∧ va_T .byte vw 100 (fun j => .int (kWB.getD j 0)) A U H ∧ va_Z "java/lang/String" "COMPACT_STRINGS" "Z" (.int 1) A U H ∧ va_Zq "jdk/internal/util/Preconditions" "SIOOBE_FORMATTER" "Ljava/util/function/BiFunction;" A U H ∧ va_AO "CatLeases$State" U
theorem kNest_form : ∀ w ∈ kNest, ∃ a i x h, w = Cond.methodLinkNest a i x h := by
  intro w hw
  simp only [kNest, List.mem_cons, List.not_mem_nil, or_false] at hw
  rcases hw with h | h | h | h | h | h <;> exact ⟨_, _, _, _, h⟩
theorem kEnv.same {aw vw : Nat} {A : Nat → Prop} {u U : State} {H : Heap} (hv : u.vm = U.vm) (h : kEnv aw vw A u H) : kEnv aw vw A U H := by
  obtain ⟨h1, h2, h3, h4, h5, h6, h7, h8, h9⟩ := h
  have ha : u.vm.Alike U.vm := by rw [hv]; exact Vm.Alike.refl U.vm
  refine ⟨fun w hw => ?_, vk_R.same hv.symm h2, va_O.moved ha h3, va_OF.moved ha h4, va_OF.moved ha h5, va_T.moved ha h6, va_Z.moved ha h7, va_Zq.moved ha h8, va_AO.moved ha h9⟩
  obtain ⟨a, i, x, hh, rfl⟩ := kNest_form w hw
  exact va_Nw.same rfl hv (h1 _ hw)
theorem kEnv.pass {aw vw : Nat} {A B : Nat → Prop} {s U : State} {H : Heap} {locs : List Loc} (h : kEnv aw vw A s s.heap) (hS : va_S A s.heap H locs) (hF : ∀ q, B q → A q) (hW : s.WarmedH U.vm) : kEnv aw vw B U H := by
  obtain ⟨h1, h2, h3, h4, h5, h6, h7, h8, h9⟩ := h
  refine ⟨fun w hw => ?_, vk_R.warm hW h2, va_O.moved hW.alike ((h3.kept hS.2.1).narrow hF), va_OF.moved hW.alike ((h4.kept hS.2.1).narrow hF), va_OF.moved hW.alike ((h5.kept hS.2.1).narrow hF), va_T.moved hW.alike ((h6.kept hS.2.1).narrow hF), va_Z.moved hW.alike ((h7.kept hS.2.1).narrow hF), va_Zq.moved hW.alike ((h8.kept hS.2.1).narrow hF), va_AO.moved hW.alike h9⟩
  obtain ⟨a, i, x, hh, rfl⟩ := kNest_form w hw
  exact va_Nw.warmM hW (h1 _ hw)
def kPreE (D : va_G) (g : Nat → ClassId) (aw vw : Nat) (ws : va_W) (sz : Nat) (U : State) : Prop := kPre D g ws sz U ∧ kEnv aw vw (va_A ws sz) U U.heap
theorem k_blindE {D : va_G} {g : Nat → ClassId} {aw vw : Nat} {ws : va_W} {sz : Nat} {As : List Value} : FrameBlind (va_Pc As (kPreE D g aw vw ws sz)) := fun a U f mk q => by
  obtain ⟨q0, ⟨q1, qP, qK, qD⟩, qE⟩ := q
  exact ⟨q0, ⟨q1, qP, va_K.moved (u := U) (U := U.calling f mk a) (Vm.Alike.refl U.vm) qK, qD⟩, (show kEnv aw vw (va_A ws sz) (U.calling f mk a) U.heap from kEnv.same (u := U) (U := U.calling f mk a) rfl qE)⟩
theorem k_headE {l : Launch} {y : MethodName} {cc : ByteArray} {maxL : Nat} {ret : Option FieldType} {ws ws' : List Cond} {rm : Room} {D : va_G} {g : Nat → ClassId} {aw vw : Nat} {W0 : va_W} {sz : Nat} {As : List Value} {Qf : (Nat → Prop) → Array Value → State → Outcome → State → Prop} {mc ms : Nat}
    (hy : plainName y.cls = true) (hw : ws = Cond.code y cc maxL ret :: ws') (hn : (lg_sl As).length ≤ maxL)
    (body : ∀ (p : Program) (e : Env) (s : State) (m : MethodId) (below : List Frame) (meth : Method) (c : Code) (ls : Array Slot) (A : Nat → Prop), p.tables.exec = Jvm.exec → c.code = cc → meth.sig.returnType = ret → meth.locks = false → c.maxLocals = maxL → s.vm.findClass y.cls = some m.cls → meth.name = y.name →
      (∀ w ∈ ws, w.before As.toArray s = true) → (∀ q : Nat, s.heap.size ≤ q → A q) → va_P D vwCl W0 s.heap → va_K D vwCl (kY g) s → va_D A W0 → va_S A s.heap s.heap [] → lv_has ls maxL (lv_args 0 As) → kEnv aw vw A s s.heap →
      W p l e (headSpec ws rm).room s m As.toArray below meth c s.heap [] 0 0 (MQ below (Qf A) As.toArray s mc ms A) (F0 m 0 ls [])) : Met l y ws rm (va_Pc As (kPreE D g aw vw W0 sz)) (Qf (va_A W0 sz)) mc ms (va_A W0 sz) := by
  refine Met.ofW (cc := cc) (maxL := maxL) (ret := ret) hy hw ?_
  intro p e s m args below meth c s₁ B hml hv
  obtain ⟨rfl, ⟨hsz, hP, hK, hD0⟩, hE⟩ := hv
  have hts := atoms_spec (ws := ws) B.pre
  have hl := lv_entry As (n := maxL) hn
  rw [lg_entry_eq]
  generalize (lg_sl As ++ List.replicate (maxL - (lg_sl As).length) Slot.unset).toArray = ls at hl ⊢
  exact body p e s m below meth c ls (va_A W0 sz) B.exec B.bytes B.returns B.notSynchronized hml (findClass_of_methodNamed B.named) (name_of_methodNamed B.named B.method).1 hts (fun q h => Or.inr (by rw [← hsz]; exact h)) hP hK hD0.self va_S.rf hl hE
theorem k_headQE {l : Launch} {y : MethodName} {cc : ByteArray} {maxL : Nat} {ret : Option FieldType} {ws ws' : List Cond} {rm : Room} {D : va_G} {g : Nat → ClassId} {aw vw : Nat} {W0 : va_W} {sz : Nat} {As : List Value} {Qf : (Nat → Prop) → Array Value → State → Outcome → State → Prop} {mc ms : Nat}
    (hy : plainName y.cls = true) (hw : ws = Cond.code y cc maxL ret :: ws') (hn : (lg_sl As).length ≤ maxL)
    (body : ∀ (p : Program) (e : Env) (s : State) (m : MethodId) (below : List Frame) (meth : Method) (c : Code) (ls : Array Slot) (A : Nat → Prop) (Q : State → Prop) (ar : Array Value), Q = MQ below (Qf A) ar s mc ms A → p.tables.exec = Jvm.exec → c.code = cc → meth.sig.returnType = ret → meth.locks = false → c.maxLocals = maxL → s.vm.findClass y.cls = some m.cls → meth.name = y.name →
      (∀ w ∈ ws, w.before ar s = true) → (∀ q : Nat, s.heap.size ≤ q → A q) → va_P D vwCl W0 s.heap → va_K D vwCl (kY g) s → va_D A W0 → va_S A s.heap s.heap [] → lv_has ls maxL (lv_args 0 As) → kEnv aw vw A s s.heap →
      W p l e (headSpec ws rm).room s m ar below meth c s.heap [] 0 0 Q (F0 m 0 ls [])) : Met l y ws rm (va_Pc As (kPreE D g aw vw W0 sz)) (Qf (va_A W0 sz)) mc ms (va_A W0 sz) := by
  refine Met.ofW (cc := cc) (maxL := maxL) (ret := ret) hy hw ?_
  intro p e s m args below meth c s₁ B hml hv
  obtain ⟨rfl, ⟨hsz, hP, hK, hD0⟩, hE⟩ := hv
  have hts := atoms_spec (ws := ws) B.pre
  have hl := lv_entry As (n := maxL) hn
  rw [lg_entry_eq]
  generalize (lg_sl As ++ List.replicate (maxL - (lg_sl As).length) Slot.unset).toArray = ls at hl ⊢
  exact body p e s m below meth c ls (va_A W0 sz) _ _ rfl B.exec B.bytes B.returns B.notSynchronized hml (findClass_of_methodNamed B.named) (name_of_methodNamed B.named B.method).1 hts (fun q h => Or.inr (by rw [← hsz]; exact h)) hP hK hD0.self va_S.rf hl hE
section KEC
variable {s : State} {H : Heap} {locs : List Loc} {D : va_G} {g : Nat → ClassId} {A : Nat → Prop} {Wd wc : va_W} {aw vw : Nat} {As : List Value} {b : Addr}
theorem k_preSE (hK : va_K D vwCl (kY g) s) (hE : kEnv aw vw A s s.heap) (hD : va_D A Wd) (hS : va_S A s.heap H locs) (hA : ∀ q, s.heap.size ≤ q → A q) (isC : List Nat) (hC : isC.map (fun i => Wd[i]?) = wc.map some) (hPc : va_P D vwCl wc H) (hDc : va_D A wc) : PreS s H (va_Pc As (kPreE D g aw vw wc H.size)) As :=
  ⟨k_blindE, fun U hU hW => ⟨rfl, ⟨by rw [hU], by rw [hU]; exact hPc, va_K.moved hW.alike hK, hDc.weaken (fun _ _ _ _ => trivial)⟩, by rw [hU]; exact hE.pass hS (va_free (wc := wc) hD hS hA isC hC) hW⟩⟩
/-- a call on the text itself -/
theorem k_preVE (hK : va_K D vwCl (kY g) s) (hE : kEnv aw vw A s s.heap) (hS : va_S A s.heap H locs) (hA : ∀ q, s.heap.size ≤ q → A q) : PreV s H "java/lang/String" aw (va_Pc (.ref aw :: As) (kPreE D g aw vw [] H.size)) As :=
  ⟨k_blindE, by obtain ⟨cell, h1, h2, h3, -⟩ := hE.2.2.1.kept hS.2.1; exact ⟨cell, h1, h2, h3⟩, fun U hU hW => ⟨rfl, ⟨by rw [hU], fun k q h => by simp at h, va_K.moved hW.alike hK, ⟨fun i j p q h => by simp at h, fun k q h => by simp at h⟩⟩, by rw [hU]; exact hE.pass hS (fun q h => h.elim (fun ⟨k, e, h⟩ => by simp at h) (fun h => hA q (Nat.le_trans hS.1 h))) hW⟩⟩
end KEC
theorem k_charW (b : Int32) : narrow .char (.int ((b &&& 255).toUInt32 % 65536).toInt32) = .int ((b &&& 255).toUInt32 % 65536).toInt32 := pk_nc _
section KT
variable {p : Program} {l : Launch} {e : Env} {R : Room} {s : State} {m : MethodId} {args : Array Value} {below : List Frame} {meth : Method} {c : Code} {H : Heap} {locs : List Loc} {cells slots : Nat} {cc : ByteArray} {pc : Nat} {ls : Array Slot} {D : va_G} {g : Nat → ClassId} {A : Nat → Prop} {Wd : va_W}
theorem k_tret {v : Int32} {ty : FieldType} {post : Int32 → va_W → Prop} (hx : p.tables.exec = Jvm.exec) (hb : c.code = cc) (hr : meth.sig.returnType = some ty) (hlocks : meth.locks = false) (hn : narrow ty (.int v) = .int v) (hK : va_K D vwCl (kY g) s) (hP : va_P D vwCl Wd H) (hD : va_D A Wd) (hS : va_S A s.heap H locs) (hq : post v Wd) (hdg : decode cc pc = .ok (.ireturn, 1)) :
    W p l e R s m args below meth c H locs cells slots (MQ below (kQi D g post A) args s cells slots A) (F0 m pc ls [.int v]) :=
  W.zret hx hb hr hn (fun t ht hW => ⟨⟨v, Wd, rfl, hq, by rw [ht]; exact hP, va_K.moved hW.alike hK, hD⟩, hS.F ht⟩) hS.2.2 hdg hlocks
end KT
theorem k_in2 {i c : Int32} {n : Nat} (hc : c.toInt = n) (h0 : ¬ i < 0) (h1 : i < c) : vp_in i n := by
  rw [vp_in_iff]
  rw [Int32.lt_iff_toInt_lt] at h0 h1
  have h : (0 : Int32).toInt = 0 := by decide
  omega
