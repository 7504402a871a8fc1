/-! the start of the reference; the time -/
def CZ (M : hM) (R : hR) (y : Nat) : Prop := M (R y 11) (rbN M y) = 0 ∧ M (R y 12) (rbN M y) = 0 ∧ M (R y 17) (rbN M y) = 0
theorem CZ_start {M : hM} {R : hR} {y : Nat} (h35 : M y 35 = 0) (h36 : M y 36 = 0) (h : CZ M R y) : TV M R y ∧ HV M R y ∧ CW M R y := by
  have eb : bk M y = rbN M y := by rw [bk, rbN, h35, h36]
  obtain ⟨h1, h2, h3⟩ := h
  have k0 : iv (0 : Int32) 0 0 := ⟨by decide, by decide⟩
  have z0 : (0 : Int32).toInt = 0 := by decide
  refine ⟨fun r hr => ?_, fun c hc => ?_, fun hc => ?_⟩
  · rw [eb, h2, z0] at hr; omega
  · rw [eb, h1, z0] at hc; omega
  · rw [eb, h3] at hc; exact absurd hc (Bt_0 k0 (by decide))
def LT (t b r t1 : Int32) : Prop := (r = -1 ∧ t1 = t ∧ (b < 0 ∨ 1000 < b ∨ 100000 < t + b)) ∨ (r = t + b ∧ t1 = t + b ∧ ¬ (b < 0 ∨ 1000 < b ∨ 100000 < t + b))
theorem LT_fn {t b r t1 r' t1' : Int32} (h : LT t b r t1) (h' : LT t b r' t1') : r = r' ∧ t1 = t1' := by
  rcases h with ⟨a1, a2, a3⟩ | ⟨a1, a2, a3⟩ <;> rcases h' with ⟨b1, b2, b3⟩ | ⟨b1, b2, b3⟩
  · exact ⟨a1.trans b1.symm, a2.trans b2.symm⟩
  · exact absurd a3 b3
  · exact absurd b3 a3
  · exact ⟨a1.trans b1.symm, a2.trans b2.symm⟩
theorem isin_no {b : Int32} {X : Prop} (h : ¬ ((0 : Int32) ≤ b ∧ b ≤ 1000)) : b < 0 ∨ 1000 < b ∨ X := by
  by_cases q : b < 0
  · exact Or.inl q
  · by_cases q2 : (1000 : Int32) < b
    · exact Or.inr (Or.inl q2)
    · exact absurd ⟨Int32.not_lt.mp q, Int32.not_lt.mp q2⟩ h
