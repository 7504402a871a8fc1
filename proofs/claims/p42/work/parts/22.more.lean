abbrev eX : List (Nat × Nat) := [(0, 999), (1, 999), (2, 999), (3, 999), (4, 999), (5, 999), (6, 999), (7, 999), (10, 999), (11, 999), (12, 999), (13, 999), (14, 999), (15, 999), (17, 999), (18, 999), (19, 999), (20, 999), (21, 999), (22, 999), (23, 999), (24, 999), (25, 999), (26, 999), (27, 999), (28, 999), (29, 999), (8, 0), (8, 1), (8, 2), (8, 3), (8, 4), (8, 5), (8, 6), (8, 7), (8, 8), (8, 9), (8, 10), (8, 11), (8, 12)]
theorem eXX : efsub eX eX = true := by decide +kernel
theorem h_inc {v x y : Int32} {a b c : Int} (e : v = x + y) (hx : iv x a b) (hy : iv y c c) (h1 : -2147483648 ≤ a + c) (h2 : b + c ≤ 2147483647) : v.toInt = x.toInt + c := by
  rw [e, iv_addE hx hy h1 h2]
  have := hy.1
  have := hy.2
  omega
theorem iv_nat1 {i : Int32} {lo hi : Int} {c : Nat} (h : iv i lo hi) (hc : (c : Int) ≤ lo) : c ≤ i.toNatClampNeg := by
  have e : i.toNatClampNeg = i.toInt.toNat := rfl
  have := h.1
  omega
theorem iv_nat2 {i : Int32} {lo hi : Int} {d : Nat} (h : iv i lo hi) (h0 : 0 ≤ lo) (hd : hi < d) : i.toNatClampNeg < d := by
  have e : i.toNatClampNeg = i.toInt.toNat := rfl
  have := h.1
  have := h.2
  omega
theorem iv_pos {v : Int32} {so c d j : Nat} {lo hi : Int} (h : iv v lo hi) (h1 : c ≤ j) (h2 : j < d) (ht : ∀ k, k < d → c ≤ k → (ti so k).1 ≤ lo ∧ hi ≤ (ti so k).2) : iv v (ti so j).1 (ti so j).2 := iv_w h (ht j h2 h1).1 (ht j h2 h1).2
theorem iv_posA {v : Int32} {so c d j : Nat} (h1 : c ≤ j) (h2 : j < d) (ht : ∀ k, k < d → c ≤ k → ti so k = (-2147483648, 2147483647)) : iv v (ti so j).1 (ti so j).2 := by
  rw [ht j h2 h1]
  exact iv_any v
theorem iv_narz (x : Int32) : iv (vp_nar .boolean x) 0 1 := iv_and (x := x) (y := 1) 1 (by decide) (by decide) (by decide)
theorem iv01 {v : Int32} (h : iv v 0 1) : v = 0 ∨ v = 1 := by
  obtain ⟨h1, h2⟩ := h
  have e0 : (0 : Int32).toInt = 0 := by decide
  have e1 : (1 : Int32).toInt = 1 := by decide
  have : v.toInt = 0 ∨ v.toInt = 1 := by omega
  rcases this with q | q
  · exact Or.inl (Int32.toInt_inj.mp (q.trans e0.symm))
  · exact Or.inr (Int32.toInt_inj.mp (q.trans e1.symm))
theorem nar_z {v : Int32} (h : iv v 0 1) : narrow .boolean (.int v) = .int v := by
  rcases iv01 h with q | q <;> subst q <;> rfl
theorem fit_z {v : Int32} (h : iv v 0 1) : fits .boolean (.int v) = true := by
  rcases iv01 h with q | q <;> subst q <;> rfl
theorem so_ne {σ : Nat → Option Nat} {a b s1 s2 : Nat} (h1 : σ a = some s1) (h2 : σ b = some s2) (h : s1 ≠ s2) : a ≠ b := fun q => h (by subst q; exact Option.some.inj (h1.symm.trans h2))
theorem u2_st {α : Type} {M1 M M2 : Nat → Nat → α} {a k : Nat} (e : M1 = M2) (h : M2 a k = M a k) : M1 a k = M a k := by rw [e]; exact h
theorem u2_wr {α : Type} {M1 M : Nat → Nat → α} {a k : Nat} {v : α} (e : M1 = u2 M a k v) : v = M1 a k := by rw [e, u2_s]
theorem iv_one {x y : Int32} {a : Int} (h : iv x a a) (hy : y.toInt = a) : x = y := Int32.toInt_inj.mp (by have := h.1; have := h.2; omega)
theorem h_dec {v x y : Int32} {a b c : Int} (e : v = x - y) (hx : iv x a b) (hy : iv y c c) (h1 : -2147483648 ≤ a - c) (h2 : b - c ≤ 2147483647) : v.toInt = x.toInt + -c := by
  rw [e, iv_subE hx hy h1 h2]
  have := hy.1
  have := hy.2
  omega
theorem iv_back {z x : Int32} {c a b u v lo hi : Int} (e : z.toInt = x.toInt + c) (hz : iv z a b) (hx : iv x u v) (h1 : lo ≤ u ∨ lo ≤ a - c) (h2 : v ≤ hi ∨ b - c ≤ hi) : iv x lo hi := by
  obtain ⟨p1, p2⟩ := hz
  obtain ⟨q1, q2⟩ := hx
  exact ⟨by omega, by omega⟩
theorem iv_subrem {x y z : Int32} {a b hi : Int} (n : Nat) (e : z = x - x / y * y) (hx : iv x a b) (hy : y.toInt = (n : Int)) (h0 : 0 ≤ a) (h1 : 1 ≤ n) (hh : b / n * n ≤ hi) : iv (x - z) 0 hi := by
  obtain ⟨i, i1, i2, i3⟩ := iv_nI hx h0
  obtain ⟨j, j1, j2, j3⟩ := iv_nI (x := y) (lo := 0) (hi := n) ⟨by omega, by omega⟩ (by omega)
  have hj : j = n := by omega
  subst hj
  rw [e, i2, j2, pk_rem i3 (by omega) j3, pk_sub (Nat.mod_le i j)]
  have hd : i - i % j = i / j * j := by have := Nat.div_add_mod' i j; omega
  have hle : i - i % j ≤ i := Nat.sub_le _ _
  have e3 := nI_toInt (n := i - i % j) (by omega)
  refine ⟨by rw [e3]; omega, ?_⟩
  rw [e3, hd]
  have hb : (i : Int) ≤ b := by have := hx.2; omega
  have h5 : (i : Int) / j ≤ b / j := Int.ediv_le_ediv (by omega) hb
  have h6 : (i : Int) / j * j ≤ b / j * j := Int.mul_le_mul_of_nonneg_right h5 (by omega)
  have h7 : ((i / j * j : Nat) : Int) = (i : Int) / j * j := by simp
  rw [h7]
  omega
theorem iv_isin {x y z : Int32} {a b c d : Int} (h : y ≤ x ∧ x ≤ z) (hy : iv y a b) (hz : iv z c d) : iv x a d := by
  obtain ⟨h1, h2⟩ := h
  rw [Int32.le_iff_toInt_le] at h1 h2
  exact ⟨by have := hy.1; omega, by have := hz.2; omega⟩
theorem le_nlt {x y : Int32} (h : ¬ x < y) : y ≤ x := Int32.not_lt.mp h
theorem le_nle {x y : Int32} (h : ¬ y < x) : x ≤ y := Int32.not_lt.mp h
theorem h_incL {v x y : Int32} {a b c : Int} (e : v = y + x) (hx : iv x a b) (hy : iv y c c) (h1 : -2147483648 ≤ a + c) (h2 : b + c ≤ 2147483647) : v.toInt = x.toInt + c := by
  rw [e, iv_addE hy hx (by omega) (by omega)]
  have := hy.1
  have := hy.2
  omega
theorem iv_subrem2 {w x y z : Int32} {a b c hi lo2 hi2 : Int} (n : Nat) (e : z = x - x / y * y) (hx : iv x a b) (hw : w.toInt = x.toInt + c) (hy : y.toInt = (n : Int)) (h0 : 0 ≤ a) (h1 : 1 ≤ n) (hh : b / n * n ≤ hi) (h2 : lo2 ≤ c ∧ 0 ≤ c) (h3 : c + hi ≤ hi2 ∧ b + c ≤ 2147483647) : iv (w - z) lo2 hi2 := by
  have q := iv_subrem n e hx hy h0 h1 hh
  have hz : iv z 0 b := by
    obtain ⟨i, i1, i2, i3⟩ := iv_nI hx h0
    obtain ⟨j, j1, j2, j3⟩ := iv_nI (x := y) (lo := 0) (hi := n) ⟨by omega, by omega⟩ (by omega)
    have hm : i % j ≤ i := Nat.mod_le i j
    have hb := hx.2
    rw [e, i2, j2, pk_rem i3 (by omega) j3]
    have e3 := nI_toInt (n := i % j) (by omega)
    exact ⟨by rw [e3]; omega, by rw [e3]; omega⟩
  have hxb := Int32.toInt_lt x
  have e1 := iv_subE hx hz (by have := hx.1; have := hx.2; omega) (by have := hx.2; have := Int32.toInt_lt x; omega)
  have e2 := iv_subE (x := w) (y := z) (a := a + c) (b := b + c) (c := 0) (d := b) ⟨by have := hx.1; omega, by have := hx.2; omega⟩ hz (by have := hx.1; have := hx.2; omega) (by omega)
  obtain ⟨q1, q2⟩ := q
  rw [e1] at q1 q2
  exact ⟨by rw [e2]; omega, by rw [e2]; omega⟩
