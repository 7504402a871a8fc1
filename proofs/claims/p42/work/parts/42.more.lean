/-! the rule's loop -/
theorem RK_8 {M : hM} {R : hR} {y : Nat} {r : Int32} (h : RK M R y r) (i : iv r 1 6) : ¬ M y 8 = 0 := by
  intro q
  have n0 : ¬ r = 0 := iv_ne (c := 0) (d := 0) i ⟨by decide, by decide⟩ (by omega)
  rcases h.2.1 n0 with z | z
  · rw [q] at z; exact absurd z (by decide)
  · rw [q] at z; exact absurd z (by decide)
theorem EXw_p {M : hM} {R : hR} {y : Nat} {w : Int32} (h : EXw M R y w) : 1 ≤ (M y 39).toInt := by
  by_cases z : w = 0
  · exact (EX0_bd (h.1 z)).1
  · exact (EX1_bd (h.2 z)).1
theorem EZ_1 {M : hM} {R : hR} {y : Nat} {w p : Int32} {b : Int} (h : EZ M R y w) (e : p = M y 39) (i : iv p 1 b) (hw : ¬ w = 0) : EX1 M R y := by
  rcases h with ⟨z, -⟩ | z
  · rw [← e] at z
    exact absurd z (iv_ne (c := 0) (d := 0) i ⟨by decide, by decide⟩ (by omega))
  · exact z.2 hw
theorem EZ_0 {M : hM} {R : hR} {y : Nat} {w p : Int32} {b : Int} (h : EZ M R y w) (e : p = M y 39) (i : iv p 1 b) (hw : w = 0) : EX0 M R y := by
  rcases h with ⟨z, -⟩ | z
  · rw [← e] at z
    exact absurd z (iv_ne (c := 0) (d := 0) i ⟨by decide, by decide⟩ (by omega))
  · exact z.1 hw
theorem EZ_e {M : hM} {R : hR} {y : Nat} {w p : Int32} {a : Int} (h : EZ M R y w) (e : p = M y 39) (i : iv p a 0) : OE M R y := by
  rcases h with ⟨-, z⟩ | z
  · exact z
  · have h1 := EXw_p z
    rw [← e] at h1
    have := i.2
    omega
theorem iv_39 {v w : Int32} {a b : Int} (e : v = w) (i : iv v a b) : iv w a b := e ▸ i
