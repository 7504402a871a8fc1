/-! the law: both typed heaps, what stays between the calls -/
def lwC (p : Program) (s : State) (m : MethodId) (meth : Method) (c : Code) (b L : Nat) (xs : Nat → Int32) (A : Nat → Prop) (D : va_G) (g : Nat → ClassId) (ev : Nat → Nat) : Prop := p.tables.exec = Jvm.exec ∧ c.code = code ∧ meth.sig.returnType = ret ∧ c.maxLocals = 4 ∧ s.vm.findClass R_law = some m.cls ∧ (∀ w ∈ wsL_law, w.before #[Value.ref b] s = true) ∧ va_X b L xs s s.heap ∧ b < s.heap.size ∧ meth.locks = false ∧ (∀ q : Nat, s.heap.size ≤ q → A q) ∧ (∀ q : Nat, A q → s.heap.size ≤ q) ∧ (¬ A b) ∧ va_K D vwCl (kY g) s ∧ cEnv ev A s s.heap ∧ L ≤ 3072
def lR (D : va_G) (g : Nat → ClassId) (A : Nat → Prop) (s : State) (H : Heap) (locs : List Loc) (x y : Nat) : Prop := ∃ (σx : Nat → Option Nat) (Mx : hM) (Nx : hN) (Rx : hR) (σy : Nat → Option Nat) (My : hM) (Ny : hN) (Ry : hR), HW D g σx Mx Nx Rx H ∧ hT σx Mx Rx ∧ σx x = some 8 ∧ (∀ a, σx a ≠ none → A a ∧ σy a = none) ∧ HW D g σy My Ny Ry H ∧ hT σy My Ry ∧ σy y = some 9 ∧ (∀ a, σy a ≠ none → A a) ∧ KV My Ry y ∧ HV My Ry y ∧ CW My Ry y ∧ WV My Ry y ∧ BV My Ry y ∧ Mx x 13 = My y 64 ∧ va_S A s.heap H locs
section LRS
variable {D : va_G} {g : Nat → ClassId} {σx σy : Nat → Option Nat} {M : hM} {N : hN} {R : hR} {H H1 : Heap} {A : Nat → Prop}
theorem HW.y (h : HW D g σy M N R H) (hd : ∀ a, σx a ≠ none → A a ∧ σy a = none) (hk : ∀ q : Nat, q < H.size → ¬ hA σx q → H1[q]? = H[q]?) : HW D g σy M N R H1 := h.other (fun q hq => hk q (h.in hq) (fun z => hq (hd q z).2))
theorem HW.x (h : HW D g σx M N R H) (hd : ∀ a, σx a ≠ none → A a ∧ σy a = none) (hk : ∀ q : Nat, q < H.size → ¬ hA σy q → H1[q]? = H[q]?) : HW D g σx M N R H1 := h.other (fun q hq => hk q (h.in hq) (fun z => z (hd q hq).2))
end LRS
theorem l_ge {i L : Nat} (hL : L ≤ 3072) (hi : i ≤ L) (h : ¬ nI L - 6 < nI i) : i + 6 ≤ L := by
  rw [Int32.lt_iff_toInt_lt, iv_subE (x := nI L) (y := 6) (a := 0) (b := 3072) (c := 6) (d := 6) ⟨by rw [nI_toInt (by omega)]; omega, by rw [nI_toInt (by omega)]; omega⟩ ⟨by decide, by decide⟩ (by decide) (by decide), nI_toInt (by omega), nI_toInt (by omega), show (6 : Int32).toInt = 6 by decide] at h
  omega
