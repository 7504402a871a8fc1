/-! lines -/
section FNS
variable {M : hM} {N : hN} {R : hR} {y : Nat}
theorem FN_1 (hw : M y 8 = 3 ∧ N y 10 = 6513012) (h : (M (R y 11) (rbN M y)).toInt < 6) : FN M N R y := fun _ =>
  ⟨fun _ => h, fun q => absurd (hw.2.symm.trans q) (by decide), fun q => absurd (hw.2.symm.trans q) (by decide), fun q => absurd (hw.2.symm.trans q) (by decide)⟩
theorem FN_2 (hw : M y 8 = 3 ∧ N y 10 = 1919905645) (h : (M (R y 12) (rbN M y)).toInt < 8) : FN M N R y := fun _ =>
  ⟨fun q => absurd (hw.2.symm.trans q) (by decide), fun _ => h, fun q => absurd (hw.2.symm.trans q) (by decide), fun q => absurd (hw.2.symm.trans q) (by decide)⟩
theorem FN_3 (hw : M y 8 = 3 ∧ N y 10 = 127978992397940) (h : (M (R y 13) (rbN M y)).toInt < 7) : FN M N R y := fun _ =>
  ⟨fun q => absurd (hw.2.symm.trans q) (by decide), fun q => absurd (hw.2.symm.trans q) (by decide), fun _ => h, fun q => absurd (hw.2.symm.trans q) (by decide)⟩
theorem FN_4 (hw : M y 8 = 3 ∧ N y 10 = 465625113971) (h : ¬ Bt (M (R y 17) (rbN M y)) 0) : FN M N R y := fun _ =>
  ⟨fun q => absurd (hw.2.symm.trans q) (by decide), fun q => absurd (hw.2.symm.trans q) (by decide), fun q => absurd (hw.2.symm.trans q) (by decide), fun _ => h⟩
theorem FN_5 {c : Int64} (hw : M y 8 = 3 ∧ N y 10 = c) (hc : c ≠ 6513012 ∧ c ≠ 1919905645 ∧ c ≠ 127978992397940 ∧ c ≠ 465625113971) : FN M N R y := fun _ =>
  ⟨fun q => absurd (hw.2.symm.trans q) hc.1, fun q => absurd (hw.2.symm.trans q) hc.2.1, fun q => absurd (hw.2.symm.trans q) hc.2.2.1, fun q => absurd (hw.2.symm.trans q) hc.2.2.2⟩
end FNS
section NGS
variable {σ : Nat → Option Nat} {M M1 M2 M3 : hM} {R : hR} {y : Nat}
theorem NG_tr (h : nu M1 y < nu M y) (p : PN M1 M2 y) : nu M2 y < nu M y := Int.lt_of_le_of_lt p.2.2 h
theorem NG_ag (_ : hT σ M3 R) (gy : σ y = some 9) (h : nu M1 y < nu M y) (ha : hAd σ [(9, 3), (9, 7), (9, 8)] M1 M2) : nu M2 y < nu M y := by
  rw [nu_ag gy ha]
  exact h
end NGS
theorem bank_N {bank t i p n0 : Int32} {n : Nat} {hi : Int} (en : n0.toInt = (n : Int)) (ib : iv bank 0 1) (et : t = n0 * bank) (ei : i = t + p) (ip : iv p 0 hi) (hn : 0 ≤ (n : Int) ∧ (n : Int) + hi ≤ 2000) : i.toNatClampNeg = n * bank.toNatClampNeg + p.toNatClampNeg := by
  have h := bank_at en ib et ei ip hn
  have e : (n : Int) * (bank.toNatClampNeg : Int) = ((n * bank.toNatClampNeg : Nat) : Int) := by simp
  rw [e] at h
  omega
