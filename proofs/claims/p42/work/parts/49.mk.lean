/-! constructors: what is made, as a typed heap -/
abbrev hC : Type := (Nat → Option Nat) × hM × hN × hR
def uS (σ1 σ2 : Nat → Option Nat) : Nat → Option Nat := fun a => match σ1 a with
  | some s => some s
  | none => σ2 a
def uF {α : Type} (σ1 : Nat → Option Nat) (F1 F2 : Nat → Nat → α) : Nat → Nat → α := fun a => match σ1 a with
  | some _ => F1 a
  | none => F2 a
def oS (q s : Nat) : Nat → Option Nat := fun a => if a = q then some s else none
section CU
variable {D : va_G} {g : Nat → ClassId} {σ σ1 σ2 : Nat → Option Nat} {M M1 M2 : hM} {N N1 N2 : hN} {R R1 R2 : hR} {H H1 : Heap} {a q s t : Nat}
theorem uS_1 (h : σ1 a = some s) : uS σ1 σ2 a = some s := by simp only [uS, h]
theorem uS_2 (h : σ1 a = none) : uS σ1 σ2 a = σ2 a := by simp only [uS, h]
theorem uF_1 {α : Type} {F1 F2 : Nat → Nat → α} (h : σ1 a = some s) : uF σ1 F1 F2 a = F1 a := by simp only [uF, h]
theorem uF_2 {α : Type} {F1 F2 : Nat → Nat → α} (h : σ1 a = none) : uF σ1 F1 F2 a = F2 a := by simp only [uF, h]
theorem oS_e : oS q s q = some s := if_pos rfl
theorem oS_n (h : a ≠ q) : oS q s a = none := if_neg h
theorem oS_i (h : oS q s a = some t) : a = q ∧ s = t := by
  unfold oS at h
  by_cases e : a = q
  · rw [if_pos e] at h; exact ⟨e, Option.some.inj h⟩
  · rw [if_neg e] at h; cases h
theorem uS_x (hd : ∀ a, σ1 a ≠ none → σ2 a = none) (h : σ2 a = some s) : uS σ1 σ2 a = some s := by
  cases e : σ1 a with
  | none => rw [uS_2 e]; exact h
  | some t => rw [hd a (by rw [e]; exact fun q => by cases q)] at h; cases h
theorem uS_or (h : uS σ1 σ2 a ≠ none) : σ1 a ≠ none ∨ σ2 a ≠ none := by
  cases e : σ1 a with
  | none => rw [uS_2 e] at h; exact Or.inr h
  | some t => exact Or.inl (fun q => by cases q)
theorem hw_c.to (h : hw_c D g M N R a s H) (hq : H1[a]? = H[a]?) (hM : M1 a = M a) (hN : N1 a = N a) (hR : R1 a = R a) : hw_c D g M1 N1 R1 a s H1 := by
  have hv : ∀ t j, hw_v t M1 N1 R1 a j = hw_v t M N R a j := fun t j => by
    match t with
    | 0 => simp only [hw_v, hM]
    | 1 => simp only [hw_v, hN]
    | (n + 2) => simp only [hw_v, hR]
  refine ⟨fun q => ?_, fun q => ?_⟩
  · exact ((h.1 q).kept hq).to (fun k _ => (hv _ k).symm)
  · rw [hq, h.2 q]
    congr 2
    funext j
    exact (hv _ j).symm
theorem HW.un (h1 : HW D g σ1 M1 N1 R1 H) (h2 : HW D g σ2 M2 N2 R2 H) : HW D g (uS σ1 σ2) (uF σ1 M1 M2) (uF σ1 N1 N2) (uF σ1 R1 R2) H := by
  intro a s ha
  cases e : σ1 a with
  | some s1 =>
    rw [uS_1 e] at ha
    cases ha
    exact (h1 a _ e).to rfl (uF_1 e) (uF_1 e) (uF_1 e)
  | none =>
    rw [uS_2 e] at ha
    exact (h2 a s ha).to rfl (uF_2 e) (uF_2 e) (uF_2 e)
theorem hT.un (h1 : ∀ a s, σ1 a = some s → ∀ k, k < hs_n s → iv (M1 a k) (ti s k).1 (ti s k).2) (h1r : ∀ a s, σ1 a = some s → ∀ k, k < hs_n s → tl s k = [] ∨ ∃ t, t ∈ tl s k ∧ uS σ1 σ2 (R1 a k) = some t) (h2 : hT σ2 M2 R2) (hd : ∀ a, σ1 a ≠ none → σ2 a = none) : hT (uS σ1 σ2) (uF σ1 M1 M2) (uF σ1 R1 R2) := by
  refine ⟨fun a s ha k hk => ?_, fun a s ha k hk => ?_⟩
  · cases e : σ1 a with
    | some s1 =>
      rw [uS_1 e] at ha
      cases ha
      rw [uF_1 e]
      exact h1 a _ e k hk
    | none =>
      rw [uS_2 e] at ha
      rw [uF_2 e]
      exact h2.1 a s ha k hk
  · cases e : σ1 a with
    | some s1 =>
      rw [uS_1 e] at ha
      cases ha
      rw [uF_1 e]
      exact h1r a _ e k hk
    | none =>
      rw [uS_2 e] at ha
      rw [uF_2 e]
      rcases h2.2 a s ha k hk with q | ⟨t, q1, q2⟩
      · exact Or.inl q
      · exact Or.inr ⟨t, q1, uS_x hd q2⟩
theorem hT.un2 (h1 : hT σ1 M1 R1) (h2 : hT σ2 M2 R2) (hd : ∀ a, σ1 a ≠ none → σ2 a = none) : hT (uS σ1 σ2) (uF σ1 M1 M2) (uF σ1 R1 R2) :=
  hT.un h1.1 (fun a s ha k hk => (h1.2 a s ha k hk).imp id (fun ⟨t, q1, q2⟩ => ⟨t, q1, uS_1 q2⟩)) h2 hd
theorem HW.one (h : hw_c D g M N R q s H) : HW D g (oS q s) M N R H := fun a t ha => by
  obtain ⟨rfl, rfl⟩ := oS_i ha
  exact h
theorem HW.in (h : HW D g σ M N R H) (hq : σ q ≠ none) : q < H.size := by
  cases e : σ q with
  | none => exact absurd e hq
  | some t => exact h.lt e
end CU
/-- explicit cells we, typed ones beside them (rs are among these), all in A -/
def cJ (D : va_G) (g : Nat → ClassId) (A : Nat → Prop) (we : va_W) (rs : List (Nat × Nat)) (zz : Bool) (H : Heap) : Prop :=
  va_P D vwCl we H ∧ va_D A we ∧ ∃ (σ : Nat → Option Nat) (M : hM) (N : hN) (R : hR), HW D g σ M N R H ∧ hT σ M R ∧ (∀ a, σ a ≠ none → A a ∧ ∀ (k : Nat) (p : Nat × va_E), we[k]? = some p → p.1 ≠ a) ∧ (∀ r ∈ rs, σ r.1 = some r.2) ∧ (zz = true → ∀ a, σ a ≠ none → ∀ k, M a k = 0)
theorem iv_zero {lo hi : Int} (h1 : lo ≤ 0) (h2 : 0 ≤ hi) : iv (0 : Int32) lo hi := by
  have e : (0 : Int32).toInt = 0 := by decide
  exact ⟨by rw [e]; exact h1, by rw [e]; exact h2⟩
section CJ
variable {D : va_G} {g : Nat → ClassId} {A : Nat → Prop} {we : va_W} {rs : List (Nat × Nat)} {zz : Bool} {H H1 : Heap}
theorem cJ.start {q : Nat × va_E} (h : va_at D vwCl q H) (hA : A q.1) : cJ D g A [q] [] true H := by
  refine ⟨va_P1 h, ⟨fun i j x y hx hy _ => ?_, fun k x hx => ?_⟩, fun _ => none, fun _ _ => 0, fun _ _ => 0, fun _ _ => 0, fun a s ha => (by cases ha), ⟨fun a s ha => (by cases ha), fun a s ha => (by cases ha)⟩, fun a ha => absurd rfl ha, fun r hr => (by cases hr), fun _ _ _ _ => rfl⟩
  · have h1 := (List.getElem?_eq_some_iff.mp hx).1
    have h2 := (List.getElem?_eq_some_iff.mp hy).1
    simp only [List.length_singleton] at h1 h2
    omega
  · cases k with
    | zero => cases Option.some.inj hx; exact hA
    | succ k => simp at hx
theorem cJ.kept (hJ : cJ D g A we rs zz H) (hq : ∀ q : Nat, q < H.size → H1[q]? = H[q]?) : cJ D g A we rs zz H1 := by
  obtain ⟨h1, h2, σ, M, N, R, h3, h4, h5, h6, h7⟩ := hJ
  exact ⟨h1.kept (fun k x hx => hq x.1 (h1 k x hx).lt), h2, σ, M, N, R, h3.other (fun q h => hq q (h3.in h)), h4, h5, h6, h7⟩
/-- typed cells that are all new come to the others -/
theorem cJ.join (hJ : cJ D g A we rs zz H) {σ2 : Nat → Option Nat} {M2 : hM} {N2 : hN} {R2 : hR} {rs2 : List (Nat × Nat)} {zz2 : Bool} (hq : ∀ q : Nat, q < H.size → H1[q]? = H[q]?) (h2 : HW D g σ2 M2 N2 R2 H1) (hT2 : hT σ2 M2 R2) (hn : ∀ a, σ2 a ≠ none → H.size ≤ a ∧ A a) (hr2 : ∀ r ∈ rs2, σ2 r.1 = some r.2) (hz2 : zz2 = true → zz = true ∧ ∀ a, σ2 a ≠ none → ∀ k, M2 a k = 0) : cJ D g A we (rs2 ++ rs) zz2 H1 := by
  obtain ⟨h1, h2d, σ, M, N, R, h3, h4, h5, h6, h7⟩ := hJ
  have hd : ∀ a, σ2 a ≠ none → σ a = none := fun a ha => by
    cases e : σ a with
    | none => rfl
    | some t => exact absurd (h3.lt e) (Nat.not_lt.mpr (hn a ha).1)
  refine ⟨h1.kept (fun k x hx => hq x.1 (h1 k x hx).lt), h2d, uS σ2 σ, uF σ2 M2 M, uF σ2 N2 N, uF σ2 R2 R, h2.un (h3.other (fun q h => hq q (h3.in h))), hT.un2 hT2 h4 hd, fun a ha => ?_, fun r hr => ?_, fun hz a ha k => ?_⟩
  · rcases uS_or ha with q | q
    · exact ⟨(hn a q).2, fun k p hp e => by have := (h1 k p hp).lt; have := (hn a q).1; omega⟩
    · exact h5 a q
  · rcases List.mem_append.mp hr with q | q
    · exact uS_1 (hr2 r q)
    · exact uS_x hd (h6 r q)
  · cases e : σ2 a with
    | some t => rw [uF_1 e]; exact (hz2 hz).2 a (by rw [e]; exact fun q => by cases q) k
    | none => rw [uF_2 e]; rw [uS_2 e] at ha; exact h7 (hz2 hz).1 a ha k
/-- a new row of zeros -/
theorem cJ.add (hJ : cJ D g A we rs zz H) (o1 : ∀ q : Nat, q < H.size → H1[q]? = H[q]?) (hAq : A H.size) {so : Nat} (hw : hw_c D g (fun _ _ => 0) (fun _ _ => 0) (fun _ _ => 0) H.size so H1) (h0 : ∀ k, k < hs_n so → (ti so k).1 ≤ 0 ∧ 0 ≤ (ti so k).2) (htl : ∀ k, k < hs_n so → tl so k = []) : cJ D g A we ((H.size, so) :: rs) zz H1 := by
  refine hJ.join (σ2 := oS H.size so) (M2 := fun _ _ => 0) (N2 := fun _ _ => 0) (R2 := fun _ _ => 0) (rs2 := [(H.size, so)]) o1 (HW.one hw) ⟨fun a s ha k hk => ?_, fun a s ha k hk => ?_⟩ (fun a ha => ?_) (fun r hr => ?_) (fun hz => ⟨hz, fun _ _ _ => rfl⟩)
  · obtain ⟨-, rfl⟩ := oS_i ha
    exact iv_zero (h0 k hk).1 (h0 k hk).2
  · obtain ⟨-, rfl⟩ := oS_i ha
    exact Or.inl (htl k hk)
  · by_cases e : a = H.size
    · rw [e]; exact ⟨Nat.le_refl _, hAq⟩
    · exact absurd (oS_n e) ha
  · rw [List.mem_singleton.mp hr]
    exact oS_e
theorem cJ.set (hJ : cJ D g A we rs zz H) {q0 a : Nat} {e0 e1 : va_E} (he : we[q0]? = some (a, e0)) (h1 : va_at D vwCl (a, e1) H1) (oq : ∀ q : Nat, q ≠ a → H1[q]? = H[q]?) : cJ D g A (we.set q0 (a, e1)) rs zz H1 := by
  obtain ⟨g1, g2, σ, M, N, R, h3, h4, h5, h6, h7⟩ := hJ
  refine ⟨g1.set g2 he h1 oq, g2.set he, σ, M, N, R, h3.other (fun q h => oq q (fun z => (h5 q h).2 q0 _ he z.symm)), h4, fun b hb => ⟨(h5 b hb).1, fun k p hp => ?_⟩, h6, h7⟩
  by_cases hk : q0 = k
  · subst hk
    rw [List.getElem?_set_self (List.getElem?_eq_some_iff.mp he).1] at hp
    cases Option.some.inj hp
    exact (h5 b hb).2 q0 (a, e0) he
  · rw [List.getElem?_set_ne hk] at hp
    exact (h5 b hb).2 k p hp
/-- the first explicit cell is whole: it becomes a typed one -/
theorem cJ.take {z s : Nat} {e0 : va_E} (hJ : cJ D g A ((z, e0) :: we) rs zz H) (mz : Nat → Int32) (nz : Nat → Int64) (rz : Nat → Nat) (hw : hw_c D g (fun _ => mz) (fun _ => nz) (fun _ => rz) z s H) (hm : ∀ k, k < hs_n s → iv (mz k) (ti s k).1 (ti s k).2) (hr : ∀ k, k < hs_n s → tl s k = [] ∨ ∃ t, t ∈ tl s k ∧ (rz k, t) ∈ rs) : ∃ (σ : Nat → Option Nat) (M : hM) (N : hN) (R : hR), HW D g σ M N R H ∧ hT σ M R ∧ (∀ a, σ a ≠ none → A a ∧ ∀ (k : Nat) (p : Nat × va_E), we[k]? = some p → p.1 ≠ a) ∧ (∀ r ∈ (z, s) :: rs, σ r.1 = some r.2) ∧ (zz = true → ∀ a, a ≠ z → σ a ≠ none → ∀ k, M a k = 0) ∧ M z = mz ∧ R z = rz := by
  obtain ⟨g1, g2, σ, M, N, R, h3, h4, h5, h6, h7⟩ := hJ
  have hf : σ z = none := by
    cases e : σ z with
    | none => rfl
    | some t => exact absurd rfl ((h5 z (by rw [e]; exact fun q => by cases q)).2 0 (z, e0) rfl)
  have hd : ∀ a, oS z s a ≠ none → σ a = none := fun a ha => by
    by_cases e : a = z
    · rw [e]; exact hf
    · exact absurd (oS_n e) ha
  refine ⟨uS (oS z s) σ, uF (oS z s) (fun _ => mz) M, uF (oS z s) (fun _ => nz) N, uF (oS z s) (fun _ => rz) R, (HW.one hw).un h3, hT.un (fun a t ha k hk => ?_) (fun a t ha k hk => ?_) h4 hd, fun a ha => ?_, fun r hr => ?_, fun hz a hn ha k => ?_, uF_1 oS_e, uF_1 oS_e⟩
  · obtain ⟨-, rfl⟩ := oS_i ha
    exact hm k hk
  · obtain ⟨-, rfl⟩ := oS_i ha
    rcases hr k hk with q | ⟨t, q1, q2⟩
    · exact Or.inl q
    · exact Or.inr ⟨t, q1, uS_x hd (h6 _ q2)⟩
  · by_cases e : a = z
    · refine ⟨by rw [e]; exact g2.2 0 (z, e0) rfl, fun k p hp q => ?_⟩
      have := g2.1 (k + 1) 0 p (z, e0) hp rfl (q.trans e)
      omega
    · rw [uS_2 (oS_n e)] at ha
      exact ⟨(h5 a ha).1, fun k p hp => (h5 a ha).2 (k + 1) p hp⟩
  · rcases List.mem_cons.mp hr with q | q
    · rw [q]; exact uS_1 oS_e
    · exact uS_x hd (h6 r q)
  · rw [uF_2 (oS_n hn)]
    rw [uS_2 (oS_n hn)] at ha
    exact h7 hz a ha k
/-- and stays in the same frame -/
theorem cJ.took {z s : Nat} {e0 : va_E} (hJ : cJ D g A ((z, e0) :: we) rs zz H) (mz : Nat → Int32) (nz : Nat → Int64) (rz : Nat → Nat) (hw : hw_c D g (fun _ => mz) (fun _ => nz) (fun _ => rz) z s H) (hm : ∀ k, k < hs_n s → iv (mz k) (ti s k).1 (ti s k).2) (hr : ∀ k, k < hs_n s → tl s k = [] ∨ ∃ t, t ∈ tl s k ∧ (rz k, t) ∈ rs) : cJ D g A we ((z, s) :: rs) false H := by
  obtain ⟨σ, M, N, R, k1, k2, k3, k4, -, -, -⟩ := hJ.take mz nz rz hw hm hr
  obtain ⟨g1, g2, -⟩ := hJ
  refine ⟨fun k p hp => g1 (k + 1) p hp, ⟨fun i j x y hx hy hxy => ?_, fun k x hx => g2.2 (k + 1) x hx⟩, σ, M, N, R, k1, k2, k3, k4, fun h => by cases h⟩
  have := g2.1 (i + 1) (j + 1) x y hx hy hxy
  omega
end CJ
