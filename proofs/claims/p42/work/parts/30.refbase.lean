/-! the reference: what its rows say beyond intervals -/
def hAd (σ : Nat → Option Nat) (dl : List (Nat × Nat)) (M M1 : hM) : Prop := ∀ a s k, σ a = some s → ef dl s k = true → M1 a k = M a k
theorem hAd.put {σ : Nat → Option Nat} {dl : List (Nat × Nat)} {M M1 : hM} {b j s0 : Nat} {v : Int32} (e : M1 = u2 M b j v) (gb : σ b = some s0) (hf : ef dl s0 j = false) : hAd σ dl M M1 := by
  intro a s k ha he
  rw [e]
  by_cases q : a = b ∧ k = j
  · obtain ⟨rfl, rfl⟩ := q
    cases Option.some.inj (ha.symm.trans gb)
    rw [hf] at he
    cases he
  · exact u2_n q
def efdis (dl l : List (Nat × Nat)) : Bool := dl.all (fun q => l.all (fun r => !(r.1 == q.1) || (!(q.2 == 999) && !(r.2 == 999) && !(q.2 == r.2))))
theorem hAd.ag {σ : Nat → Option Nat} {dl l : List (Nat × Nat)} {M M1 : hM} (h : hAg σ l M M1) (hd : efdis dl l = true) : hAd σ dl M M1 := by
  intro a s k ha he
  apply h a s k ha
  cases q : ef l s k with
  | false => rfl
  | true =>
    simp only [ef, List.any_eq_true, Bool.and_eq_true, Bool.or_eq_true, beq_iff_eq] at he q
    obtain ⟨x, hx, hx1, hx2⟩ := he
    obtain ⟨z, hz, hz1, hz2⟩ := q
    have h1 := List.all_eq_true.mp (List.all_eq_true.mp hd x hx) z hz
    simp only [Bool.or_eq_true, Bool.and_eq_true, Bool.not_eq_true', beq_eq_false_iff_ne, ne_eq] at h1
    omega
theorem hAd.sub {σ : Nat → Option Nat} {dl d2 : List (Nat × Nat)} {M M1 : hM} (h : hAd σ dl M M1) (hs : efsub d2 dl = true) : hAd σ d2 M M1 := fun a s k g e => h a s k g (efsub_ok hs e)
theorem hAg.row {σ : Nat → Option Nat} {l : List (Nat × Nat)} {M M1 : hM} {b s : Nat} (h : hAg σ l M M1) (gb : σ b = some s) (hf : ∀ k, ef l s k = false) : M1 b = M b := funext fun k => h b s k gb (hf k)
theorem u2_row {α : Type} {M1 M : Nat → Nat → α} {a k b : Nat} {v : α} (e : M1 = u2 M a k v) (h : b ≠ a) : M1 b = M b := by
  rw [e]
  funext j
  exact u2_a h
/-- which of the two banks -/
abbrev bk (M : hM) (y : Nat) : Nat := (M y 35).toNatClampNeg
/-- who keeps is a cat of this bank -/
def KV (M : hM) (R : hR) (y : Nat) : Prop := ∀ r, r < 8 → (M (R y 45) (14 + r)).toInt < (M (R y 11) (bk M y)).toInt
/-- an heir is told ahead -/
def HV (M : hM) (R : hR) (y : Nat) : Prop := ∀ c : Nat, (c : Int) < (M (R y 11) (bk M y)).toInt → (M (R y 19) (6 * bk M y + c)).toInt < c
/-- a rule that can be run: d numbers lie on the pile -/
def okc (f : Nat → Int32) : Nat → Nat → Nat → Prop
  | 0, _, _ => True
  | n + 1, k, d => (f k = 126 ∧ 1 ≤ d ∧ okc f n (k + 1) d) ∨ (¬ f k = 126 ∧ iv (f k) 97 122 ∧ d ≤ 59 ∧ okc f n (k + 1) (d + 1)) ∨ (¬ f k = 126 ∧ ¬ iv (f k) 97 122 ∧ 2 ≤ d ∧ okc f n (k + 1) (d - 1))
/-- of a bank's rule -/
def CWb (M : hM) (R : hR) (y b : Nat) : Prop := 560 * (b : Int) ≤ (M (R y 25) b).toInt ∧ (M (R y 26) b).toInt ≤ 560 * (b : Int) + 560 ∧ okc (M (R y 30)) ((M (R y 26) b).toInt - (M (R y 25) b).toInt).toNat (M (R y 25) b).toInt.toNat 0
def CWo (M : hM) (R : hR) (y : Nat) : Prop := 560 * (bk M y : Int) ≤ (M (R y 25) (bk M y)).toInt ∧ (M (R y 26) (bk M y)).toInt ≤ 560 * (bk M y : Int) + 560 ∧ okc (M (R y 30)) ((M (R y 26) (bk M y)).toInt - (M (R y 25) (bk M y)).toInt).toNat (M (R y 25) (bk M y)).toInt.toNat 0
def CW (M : hM) (R : hR) (y : Nat) : Prop := (M (R y 17) (bk M y) >>> ((0 : Int32) &&& 31)) &&& 1 = 1 → CWo M R y
theorem CWo_from {M : hM} {R : hR} {y : Nat} (h : CWo M R y) : 0 ≤ (M (R y 25) (bk M y)).toInt := by have := h.1; omega
section RA
variable {σ : Nat → Option Nat} {M M1 M2 : hM} {R : hR} {y b j : Nat} {v : Int32}
theorem KV_ag (hTy : hT σ M2 R) (gy : σ y = some 9) (h : KV M R y) (ha : hAd σ [(9, 35), (111, 999), (145, 999)] M M1) : KV M1 R y := by
  have e35 := ha y 9 35 gy rfl
  have g11 := hTy.r1 gy 11 111 (by decide) rfl
  have g45 := hTy.r1 gy 45 145 (by decide) rfl
  intro r hr
  rw [ha _ 145 (14 + r) g45 rfl, bk, e35, ha _ 111 _ g11 rfl]
  exact h r hr
theorem KV_off (hTy : hT σ M2 R) (gy : σ y = some 9) (h : KV M R y) (e : M1 = u2 M b j v) (gb : σ b = some 145) (hj : j < 14 ∨ 22 ≤ j) : KV M1 R y := by
  have g11 := hTy.r1 gy 11 111 (by decide) rfl
  intro r hr
  rw [e, bk, u2_a (so_ne gy gb (by decide)), u2_a (so_ne g11 gb (by decide)), u2_k (by omega)]
  exact h r hr
theorem KV_put (hTy : hT σ M2 R) (gy : σ y = some 9) (h : KV M R y) (e : M1 = u2 M b j v) (gb : σ b = some 145) (hv : v.toInt < (M (R y 11) (bk M y)).toInt) : KV M1 R y := by
  have g11 := hTy.r1 gy 11 111 (by decide) rfl
  intro r hr
  rw [e, bk, u2_a (so_ne gy gb (by decide)), u2_a (so_ne g11 gb (by decide))]
  by_cases q : R y 45 = b ∧ 14 + r = j
  · obtain ⟨q1, q2⟩ := q
    rw [q1, q2, u2_s]
    exact hv
  · rw [u2_n q]
    exact h r hr
theorem HV_ag (hTy : hT σ M2 R) (gy : σ y = some 9) (h : HV M R y) (ha : hAd σ [(9, 35), (111, 999), (119, 999)] M M1) : HV M1 R y := by
  have e35 := ha y 9 35 gy rfl
  have g11 := hTy.r1 gy 11 111 (by decide) rfl
  have g19 := hTy.r1 gy 19 119 (by decide) rfl
  intro c hc
  rw [bk, e35, ha _ 111 _ g11 rfl] at hc
  rw [bk, e35, ha _ 119 _ g19 rfl]
  exact h c hc
theorem CWo_ag (hTy : hT σ M2 R) (gy : σ y = some 9) (h : CWo M R y) (ha : hAd σ [(9, 35), (125, 999), (126, 999), (130, 999)] M M1) : CWo M1 R y := by
  have e35 := ha y 9 35 gy rfl
  have g25 := hTy.r1 gy 25 125 (by decide) rfl
  have g26 := hTy.r1 gy 26 126 (by decide) rfl
  have g30 := hTy.r1 gy 30 130 (by decide) rfl
  have e30 : M1 (R y 30) = M (R y 30) := funext fun k => ha _ 130 k g30 rfl
  unfold CWo
  rw [bk, e35, ha _ 125 _ g25 rfl, ha _ 126 _ g26 rfl, e30]
  exact h
theorem CW_ag (hTy : hT σ M2 R) (gy : σ y = some 9) (h : CW M R y) (ha : hAd σ [(9, 35), (117, 999), (125, 999), (126, 999), (130, 999)] M M1) : CW M1 R y := by
  have e35 := ha y 9 35 gy rfl
  have g17 := hTy.r1 gy 17 117 (by decide) rfl
  intro hc
  rw [bk, e35, ha _ 117 _ g17 rfl] at hc
  exact CWo_ag hTy gy (h hc) (ha.sub (by decide))
end RA
theorem bits_lt (k : Int32) (h : ¬ k = 0) : (k &&& (k - 1)).toBitVec.toNat < k.toBitVec.toNat := by
  have h1 : (k &&& (k - 1)).toBitVec.toNat = k.toBitVec.toNat &&& (k - 1).toBitVec.toNat := rfl
  have hk : k.toBitVec.toNat ≠ 0 := fun q => h (Int32.toBitVec_inj.mp (BitVec.eq_of_toNat_eq q))
  have h2 : (k - 1).toBitVec.toNat = k.toBitVec.toNat - 1 := by
    have hlt := k.toBitVec.isLt
    show (k.toBitVec - 1#32).toNat = _
    rw [BitVec.toNat_sub]
    simp
    omega
  rw [h1, h2]
  exact Nat.lt_of_le_of_lt Nat.and_le_right (by omega)
theorem rem_lt {x y v : Int32} {a b c d : Int} (e : v = x - x / y * y) (hx : iv x a b) (hy : iv y c d) (h0 : 0 ≤ a) (h1 : 1 ≤ c) : v.toInt < y.toInt := by
  obtain ⟨i, i1, i2, i3⟩ := iv_nI hx h0
  obtain ⟨j, j1, j2, j3⟩ := iv_nI hy (by omega)
  have hj : 0 < j := by have := hy.1; omega
  have hm : i % j < j := Nat.mod_lt _ hj
  rw [e, i2, j2, pk_rem i3 hj j3, nI_toInt (by omega), nI_toInt j3]
  omega
theorem iv_nN {x : Int32} {lo hi : Int} (h : iv x lo hi) (h0 : 0 ≤ lo) : (x.toNatClampNeg : Int) = x.toInt := by
  have e : x.toNatClampNeg = x.toInt.toNat := rfl
  have := h.1
  omega
/-- n times the bank and a place -/
theorem bank_at {bank t i p n0 : Int32} {n : Int} {hi : Int} (en : n0.toInt = n) (ib : iv bank 0 1) (et : t = n0 * bank) (ei : i = t + p) (ip : iv p 0 hi) (hn : 0 ≤ n ∧ n + hi ≤ 2000) : (i.toNatClampNeg : Int) = n * (bank.toNatClampNeg : Int) + (p.toNatClampNeg : Int) := by
  have h1 := iv_nN ib (by decide)
  have h2 := iv_nN ip (by decide)
  have e1 : t.toInt = n * bank.toInt := by
    rw [et, iv_mulE (a := n) (b := n) (c := 0) (d := 1) ⟨by omega, by omega⟩ ib (by omega) (by decide) (by have := ip.1; have := ip.2; omega), en]
  have hb : bank.toInt = 0 ∨ bank.toInt = 1 := by have := ib.1; have := ib.2; omega
  have h3 : iv t 0 n := by
    rcases hb with q | q <;> rw [q] at e1 <;> exact ⟨by omega, by omega⟩
  have e2 : i.toInt = t.toInt + p.toInt := by rw [ei]; exact iv_addE h3 ip (by omega) (by omega)
  have h4 : (i.toNatClampNeg : Int) = i.toInt := iv_nN (lo := 0) (hi := n + hi) ⟨by have := h3.1; have := ip.1; omega, by have := h3.2; have := ip.2; omega⟩ (by omega)
  rw [h4, h1, h2, e2, e1]
theorem heir_lt {M : hM} {R : hR} {y : Nat} {bank t i p v : Int32} (hv : HV M R y) (hb : bank = M y 35) (ib : iv bank 0 1) (et : t = 6 * bank) (ei : i = t + p) (ip : iv p 0 5) (hc : p.toInt < (M (R y 11) (bk M y)).toInt) (e : v = M (R y 19) i.toNatClampNeg) : v.toInt < p.toInt := by
  have h1 := bank_at (n := 6) (by decide) ib et ei ip (by omega)
  have h2 := iv_nN ip (by decide)
  have h3 := hv p.toNatClampNeg (by omega)
  have h4 : i.toNatClampNeg = 6 * bk M y + p.toNatClampNeg := by
    rw [bk, ← hb]
    omega
  rw [e, h4]
  omega
theorem KV_at {M : hM} {R : hR} {y : Nat} {p : Int32} (h : KV M R y) (hp : iv p 0 7) : (M (R y 45) ((14 : Int32) + p).toNatClampNeg).toInt < (M (R y 11) (bk M y)).toInt := by
  have h1 := iv_nN hp (by decide)
  have e : ((14 : Int32) + p).toInt = 14 + p.toInt := by
    rw [iv_addE (a := 14) (b := 14) ⟨by decide, by decide⟩ hp (by decide) (by decide)]
    have : (14 : Int32).toInt = 14 := by decide
    omega
  have h2 : (((14 : Int32) + p).toNatClampNeg : Int) = ((14 : Int32) + p).toInt := iv_nN (lo := 14) (hi := 21) ⟨by have := hp.1; omega, by have := hp.2; omega⟩ (by decide)
  have h3 : ((14 : Int32) + p).toNatClampNeg = 14 + p.toNatClampNeg := by omega
  rw [h3]
  exact h _ (by have := hp.2; omega)
theorem okc_not {f : Nat → Int32} {N k d : Nat} (h : okc f N k d) (hN : 0 < N) (hf : f k = 126) : 1 ≤ d ∧ okc f (N - 1) (k + 1) d := by
  cases N with
  | zero => omega
  | succ N =>
    rcases h with ⟨-, h1, h2⟩ | ⟨h0, -⟩ | ⟨h0, -⟩
    · exact ⟨h1, h2⟩
    · exact absurd hf h0
    · exact absurd hf h0
theorem okc_let {f : Nat → Int32} {N k d : Nat} (h : okc f N k d) (hN : 0 < N) (hf : ¬ f k = 126) (hl : iv (f k) 97 122) : d ≤ 59 ∧ okc f (N - 1) (k + 1) (d + 1) := by
  cases N with
  | zero => omega
  | succ N =>
    rcases h with ⟨h0, -⟩ | ⟨-, -, h1, h2⟩ | ⟨-, h0, -⟩
    · exact absurd h0 hf
    · exact ⟨h1, h2⟩
    · exact absurd hl h0
theorem okc_two {f : Nat → Int32} {N k d : Nat} (h : okc f N k d) (hN : 0 < N) (hf : ¬ f k = 126) (hl : ¬ iv (f k) 97 122) : 2 ≤ d ∧ okc f (N - 1) (k + 1) (d - 1) := by
  cases N with
  | zero => omega
  | succ N =>
    rcases h with ⟨h0, -⟩ | ⟨-, h0, -⟩ | ⟨-, -, h1, h2⟩
    · exact absurd h0 hf
    · exact absurd h0 hl
    · exact ⟨h1, h2⟩
/-- the rule from k on, with d numbers on the pile -/
def okK (M : hM) (R : hR) (y : Nat) (k d : Int) : Prop := okc (M (R y 30)) ((M (R y 26) (bk M y)).toInt - k).toNat k.toNat d.toNat
theorem okK_ag {σ : Nat → Option Nat} {M M1 M2 : hM} {R : hR} {y : Nat} {k d : Int} (hTy : hT σ M2 R) (gy : σ y = some 9) (h : okK M R y k d) (ha : hAd σ [(9, 35), (125, 999), (126, 999), (130, 999)] M M1) : okK M1 R y k d := by
  have e35 := ha y 9 35 gy rfl
  have g26 := hTy.r1 gy 26 126 (by decide) rfl
  have g30 := hTy.r1 gy 30 130 (by decide) rfl
  have e30 : M1 (R y 30) = M (R y 30) := funext fun k => ha _ 130 k g30 rfl
  unfold okK
  rw [bk, e35, ha _ 126 _ g26 rfl, e30]
  exact h
theorem okK_not {M : hM} {R : hR} {y : Nat} {k w : Int32} {d : Int} (h : okK M R y k.toInt d) (hk : 0 ≤ k.toInt) (hw : w = M (R y 26) (bk M y)) (hlt : k.toInt < w.toInt) (hf : M (R y 30) k.toNatClampNeg = 126) : 1 ≤ d ∧ okK M R y (k.toInt + 1) d := by
  have hn : (k.toNatClampNeg : Int) = k.toInt := iv_nN (lo := 0) (hi := k.toInt) ⟨hk, Int.le_refl _⟩ (Int.le_refl _)
  have e1 : k.toInt.toNat = k.toNatClampNeg := by omega
  unfold okK at h ⊢
  rw [← hw] at h ⊢
  rw [e1] at h
  have h2 := okc_not h (by omega) hf
  rw [show (w.toInt - (k.toInt + 1)).toNat = (w.toInt - k.toInt).toNat - 1 by omega, show (k.toInt + 1).toNat = k.toNatClampNeg + 1 by omega]
  exact ⟨by omega, h2.2⟩
theorem okK_let {M : hM} {R : hR} {y : Nat} {k w : Int32} {d : Int} (h : okK M R y k.toInt d) (hd : 0 ≤ d) (hk : 0 ≤ k.toInt) (hw : w = M (R y 26) (bk M y)) (hlt : k.toInt < w.toInt) (hf : ¬ M (R y 30) k.toNatClampNeg = 126) (hl : iv (M (R y 30) k.toNatClampNeg) 97 122) : d ≤ 59 ∧ okK M R y (k.toInt + 1) (d + 1) := by
  have hn : (k.toNatClampNeg : Int) = k.toInt := iv_nN (lo := 0) (hi := k.toInt) ⟨hk, Int.le_refl _⟩ (Int.le_refl _)
  have e1 : k.toInt.toNat = k.toNatClampNeg := by omega
  unfold okK at h ⊢
  rw [← hw] at h ⊢
  rw [e1] at h
  have h2 := okc_let h (by omega) hf hl
  rw [show (w.toInt - (k.toInt + 1)).toNat = (w.toInt - k.toInt).toNat - 1 by omega, show (k.toInt + 1).toNat = k.toNatClampNeg + 1 by omega, show (d + 1).toNat = d.toNat + 1 by omega]
  exact ⟨by omega, h2.2⟩
theorem okK_two {M : hM} {R : hR} {y : Nat} {k w : Int32} {d : Int} (h : okK M R y k.toInt d) (hd : 0 ≤ d) (hk : 0 ≤ k.toInt) (hw : w = M (R y 26) (bk M y)) (hlt : k.toInt < w.toInt) (hf : ¬ M (R y 30) k.toNatClampNeg = 126) (hl : ¬ iv (M (R y 30) k.toNatClampNeg) 97 122) : 2 ≤ d ∧ okK M R y (k.toInt + 1) (d - 1) := by
  have hn : (k.toNatClampNeg : Int) = k.toInt := iv_nN (lo := 0) (hi := k.toInt) ⟨hk, Int.le_refl _⟩ (Int.le_refl _)
  have e1 : k.toInt.toNat = k.toNatClampNeg := by omega
  unfold okK at h ⊢
  rw [← hw] at h ⊢
  rw [e1] at h
  have h2 := okc_two h (by omega) hf hl
  rw [show (w.toInt - (k.toInt + 1)).toNat = (w.toInt - k.toInt).toNat - 1 by omega, show (k.toInt + 1).toNat = k.toNatClampNeg + 1 by omega, show (d - 1).toNat = d.toNat - 1 by omega]
  exact ⟨by omega, h2.2⟩
theorem el_ne {i j : Int32} {a b c d : Int} (hi : iv i a b) (hj : iv j c d) (h0 : 0 ≤ a) (h1 : 0 ≤ c) (h : b < c ∨ d < a) : i.toNatClampNeg ≠ j.toNatClampNeg := by
  have h2 := iv_nN hi h0
  have h3 := iv_nN hj h1
  obtain ⟨p1, p2⟩ := hi
  obtain ⟨q1, q2⟩ := hj
  omega
theorem el_nec {i : Int32} {a b : Int} {j : Nat} (hi : iv i a b) (h0 : 0 ≤ a) (h : b < j ∨ (j : Int) < a) : i.toNatClampNeg ≠ j := by
  have h2 := iv_nN hi h0
  obtain ⟨p1, p2⟩ := hi
  omega
theorem u2_elc {M1 M : hM} {a k b j : Nat} {v : Int32} (e : M1 = u2 M a k v) (h : j ≠ k) : M1 b j = M b j := by
  rw [e]
  exact u2_k h
/-- a bit is set -/
def Bt (x k : Int32) : Prop := (x >>> (k &&& 31)) &&& 1 = 1
theorem Bt_iff {x k : Int32} {hi : Int} (hk : iv k 0 hi) (h31 : hi ≤ 30) : Bt x k ↔ bt x k.toNatClampNeg = true := by
  obtain ⟨j, j1, j2, j3⟩ := iv_nI hk (by decide)
  have hj : j < 31 := by have := hk.2; omega
  have e : k.toNatClampNeg = j := by have := iv_nN hk (by decide); omega
  rw [e]
  unfold Bt
  rw [j2]
  have h0 : bt ((x >>> (nI j &&& 31)) &&& 1) 0 = bt x j := by
    rw [b_and, b_sshr j (by omega) x (by omega)]
    have : bt 1 0 = true := by decide
    rw [this]
    simp
    intro h
    omega
  constructor
  · intro h
    rw [← h0, h]
    decide
  · intro h
    apply b_ext
    intro i hi
    rw [b_and]
    have h1 : bt (1 : Int32) i = decide (i = 0) := (by decide +kernel : ∀ i, i < 32 → bt (1 : Int32) i = decide (i = 0)) i hi
    rw [h1]
    by_cases q : i = 0
    · subst q
      rw [b_and] at h0
      rw [h1] at h0
      rw [h0, h]
      rfl
    · simp [q]
theorem Bt_0 {k : Int32} {hi : Int} (hk : iv k 0 hi) (h31 : hi ≤ 30) : ¬ Bt 0 k := by
  rw [Bt_iff hk h31, b_0]
  exact fun h => by cases h
theorem Bt_or {x k r v w : Int32} {hi h2 : Int} (hk : iv k 0 hi) (h31 : hi ≤ 30) (hr : iv r 0 h2) (h32 : h2 ≤ 30) (ew : w = (1 : Int32) <<< (r &&& 31)) (ev : v = x ||| w) (h : Bt v k) : Bt x k ∨ k = r := by
  rw [Bt_iff hk h31] at h ⊢
  rw [ev, b_or, ew, Bool.or_eq_true] at h
  rcases h with h | h
  · exact Or.inl h
  · right
    obtain ⟨j, j1, j2, j3⟩ := iv_nI hr (by decide)
    have hj : j < 31 := by have := hr.2; omega
    have hn := iv_nN hk (by decide)
    have hk3 : k.toNatClampNeg < 31 := by have := hk.2; omega
    rw [j2, b_shl j (by omega) 1 (by omega), Bool.and_eq_true, decide_eq_true_eq] at h
    have h1 : bt (1 : Int32) (k.toNatClampNeg - j) = decide (k.toNatClampNeg - j = 0) := (by decide +kernel : ∀ i, i < 32 → bt (1 : Int32) i = decide (i = 0)) _ (by omega)
    rw [h1, decide_eq_true_eq] at h
    apply Int32.toInt_inj.mp
    omega
/-- the rooms in a set are a cat's -/
def RO (M : hM) (R : hR) (y : Nat) (c set : Int32) : Prop := ∀ k : Int32, iv k 0 7 → Bt set k → M (R y 45) ((14 : Int32) + k).toNatClampNeg = c
/-- those in a set are in rooms of a set -/
def TI (M : hM) (R : hR) (y : Nat) (rs set : Int32) : Prop := ∀ k : Int32, iv k 0 6 → Bt set k → iv (M (R y 45) k.toNatClampNeg) 0 7 ∧ Bt rs (M (R y 45) k.toNatClampNeg)
/-- those in a set are at home -/
def KS (M : hM) (R : hR) (y : Nat) (set : Int32) : Prop := ∀ k : Int32, iv k 0 6 → Bt set k → iv (M (R y 45) k.toNatClampNeg) 0 7 ∧ iv (M (R y 45) ((14 : Int32) + M (R y 45) k.toNatClampNeg).toNatClampNeg) 0 5
theorem RO_0 {M : hM} {R : hR} {y : Nat} {c : Int32} : RO M R y c 0 := fun k hk h => absurd h (Bt_0 hk (by decide))
theorem RO_or {M : hM} {R : hR} {y : Nat} {c x r v w : Int32} (h : RO M R y c x) (hr : iv r 0 7) (ew : w = (1 : Int32) <<< (r &&& 31)) (ev : v = x ||| w) (hc : M (R y 45) ((14 : Int32) + r).toNatClampNeg = c) : RO M R y c v := by
  intro k hk hb
  rcases Bt_or hk (by decide) hr (by decide) ew ev hb with q | q
  · exact h k hk q
  · rw [q]; exact hc
theorem TI_0 {M : hM} {R : hR} {y : Nat} {c : Int32} : TI M R y c 0 := fun k hk h => absurd h (Bt_0 hk (by decide))
theorem TI_or {M : hM} {R : hR} {y : Nat} {c x r v w : Int32} (h : TI M R y c x) (hr : iv r 0 6) (ew : w = (1 : Int32) <<< (r &&& 31)) (ev : v = x ||| w) (hc : iv (M (R y 45) r.toNatClampNeg) 0 7) (hc2 : Bt c (M (R y 45) r.toNatClampNeg)) : TI M R y c v := by
  intro k hk hb
  rcases Bt_or hk (by decide) hr (by decide) ew ev hb with q | q
  · exact h k hk q
  · rw [q]; exact ⟨hc, hc2⟩
theorem KS_of {M : hM} {R : hR} {y : Nat} {c rs set : Int32} (h1 : RO M R y c rs) (h2 : TI M R y rs set) (hc : iv c 0 5) : KS M R y set := by
  intro k hk hb
  obtain ⟨q1, q2⟩ := h2 k hk hb
  refine ⟨q1, ?_⟩
  rw [h1 _ q1 q2]
  exact hc
theorem KS_ag {σ : Nat → Option Nat} {M M1 M2 : hM} {R : hR} {y : Nat} {set : Int32} (hTy : hT σ M2 R) (gy : σ y = some 9) (h : KS M R y set) (ha : hAd σ [(145, 999)] M M1) : KS M1 R y set := by
  have g45 := hTy.r1 gy 45 145 (by decide) rfl
  have e45 : M1 (R y 45) = M (R y 45) := funext fun k => ha _ 145 k g45 rfl
  unfold KS
  rw [e45]
  exact h
theorem row_restore {M M1 M2 M3 : hM} {a j : Nat} {v w : Int32} (e1 : M1 = u2 M a j v) (h2 : M2 a = M1 a) (e3 : M3 = u2 M2 a j w) (hw : w = M a j) : M3 a = M a := by
  funext k
  rw [e3]
  by_cases q : k = j
  · subst q
    rw [u2_s, hw]
  · rw [u2_k q, h2, e1, u2_k q]
/-- a tenant is at home -/
def KAp (M : hM) (R : hR) (y : Nat) (t : Int32) : Prop := iv (M (R y 45) t.toNatClampNeg) 0 7 ∧ iv (M (R y 45) ((14 : Int32) + M (R y 45) t.toNatClampNeg).toNatClampNeg) 0 5
theorem KAp_row {M M1 : hM} {R : hR} {y : Nat} {t : Int32} (h : KAp M R y t) (e : M1 (R y 45) = M (R y 45)) : KAp M1 R y t := by
  unfold KAp
  rw [e]
  exact h
theorem KAp_ag {σ : Nat → Option Nat} {M M1 M2 : hM} {R : hR} {y : Nat} {t : Int32} (hTy : hT σ M2 R) (gy : σ y = some 9) (h : KAp M R y t) (ha : hAd σ [(145, 999)] M M1) : KAp M1 R y t := by
  have g45 := hTy.r1 gy 45 145 (by decide) rfl
  exact KAp_row h (funext fun k => ha _ 145 k g45 rfl)
/-- a room is kept -/
def KBp (M : hM) (R : hR) (y : Nat) (r : Int32) : Prop := iv (M (R y 45) ((14 : Int32) + r).toNatClampNeg) 0 5
theorem KBp_ag {σ : Nat → Option Nat} {M M1 M2 : hM} {R : hR} {y : Nat} {t : Int32} (hTy : hT σ M2 R) (gy : σ y = some 9) (h : KBp M R y t) (ha : hAd σ [(145, 999)] M M1) : KBp M1 R y t := by
  have g45 := hTy.r1 gy 45 145 (by decide) rfl
  unfold KBp
  rw [ha _ 145 _ g45 rfl]
  exact h
theorem KBp_off {M M1 : hM} {R : hR} {y b j : Nat} {t v : Int32} (h : KBp M R y t) (ht : iv t 0 7) (e : M1 = u2 M b j v) (hj : j < 14 ∨ 22 ≤ j) : KBp M1 R y t := by
  unfold KBp
  have h2 : iv ((14 : Int32) + t) 14 21 := iv_add (a := 14) (b := 14) ⟨by decide, by decide⟩ ht (by decide) (by decide) (by decide) (by decide)
  have h3 := iv_nN h2 (by decide)
  have := h2.1
  have := h2.2
  rw [e, u2_k (by omega)]
  exact h
/-- k places of a row are copied from another one; nothing else has changed -/
def CPI (M0 M : hM) (a o b p k : Nat) : Prop := (∀ j, j < k → M a (o + j) = M0 b (p + j)) ∧ ∀ x j, ¬ (x = a ∧ o ≤ j ∧ j < o + k) → M x j = M0 x j
theorem CPI_0 {M : hM} {a o b p : Nat} : CPI M M a o b p 0 := ⟨fun j h => absurd h (Nat.not_lt_zero j), fun _ _ _ => rfl⟩
theorem CPI_step {M0 M M1 : hM} {a o b p k ix iy k1 : Nat} {v : Int32} (h : CPI M0 M a o b p k) (e : M1 = u2 M a ix v) (ev : v = M b iy) (h1 : ix = o + k) (h2 : iy = p + k) (hk : k1 = k + 1) (hs : ¬ (b = a ∧ o ≤ p + k ∧ p + k < o + k)) : CPI M0 M1 a o b p k1 := by
  subst h1; subst h2; subst hk
  refine ⟨fun j hj => ?_, fun x j hx => ?_⟩
  · rw [e]
    by_cases q : j = k
    · subst q
      rw [u2_s, ev]
      exact h.2 b (p + j) hs
    · rw [u2_k (by omega)]
      exact h.1 j (by omega)
  · rw [e, u2_n (fun q => hx ⟨q.1, by omega, by omega⟩)]
    exact h.2 x j (fun q => hx ⟨q.1, q.2.1, by omega⟩)
theorem k_inc1 {v x : Int32} {b : Int} (e : v = x + Int32.ofInt 1) (hx : iv x 0 b) (hb : b ≤ 2147483646) : v.toNatClampNeg = x.toNatClampNeg + 1 := by
  have h1 := h_inc e hx ki_1 (by omega) (by omega)
  have h2 := iv_nN hx (by decide)
  have h3 := iv_nN (x := v) (lo := 1) (hi := b + 1) ⟨by have := hx.1; omega, by have := hx.2; omega⟩ (by decide)
  omega
/-- n times a number and a place -/
theorem mul_at {b t i p n0 : Int32} {n m hi : Int} (en : n0.toInt = n) (ib : iv b 0 m) (et : t = n0 * b) (ei : i = t + p) (ip : iv p 0 hi) (hn : 0 ≤ n) (hm : 0 ≤ m) (hh : n * m + hi ≤ 2147483647) (hhi : 0 ≤ hi) : (i.toNatClampNeg : Int) = n * (b.toNatClampNeg : Int) + (p.toNatClampNeg : Int) := by
  have h1 := iv_nN ib (by decide)
  have h2 := iv_nN ip (by decide)
  have hmul : n * m ≤ 2147483647 := by omega
  have e1 : t.toInt = n * b.toInt := by
    rw [et, iv_mulE (a := n) (b := n) (c := 0) (d := m) ⟨by omega, by omega⟩ ib hn (by decide) hmul, en]
  have h3 : iv t 0 (n * m) := by
    refine ⟨?_, ?_⟩
    · rw [e1]; exact Int.mul_nonneg hn ib.1
    · rw [e1]; exact Int.mul_le_mul_of_nonneg_left ib.2 hn
  have e2 : i.toInt = t.toInt + p.toInt := by rw [ei]; exact iv_addE h3 ip (by decide) hh
  have h4 : (i.toNatClampNeg : Int) = i.toInt := iv_nN (lo := 0) (hi := n * m + hi) ⟨by have := h3.1; have := ip.1; omega, by have := h3.2; have := ip.2; omega⟩ (by decide)
  rw [h4, h1, h2, e2, e1]
theorem ti_mod {j k s s1 : Nat} (h1 : s = 145 ∨ s = 149 ∨ s = 152 ∨ s = 165) (h2 : s1 = 145 ∨ s1 = 149 ∨ s1 = 152 ∨ s1 = 165) (h : j % 39 = k % 39) : ti s j = ti s1 k := by
  rcases h1 with rfl | rfl | rfl | rfl <;> rcases h2 with rfl | rfl | rfl | rfl <;> (show ti_w (j % 39) = ti_w (k % 39)) <;> rw [h]
/-- a place of such a row, put into another one -/
theorem iv_cp {σ : Nat → Option Nat} {M : hM} {R : hR} {a s s1 j k : Nat} {v : Int32} (hTy : hT σ M R) (ga : σ a = some s) (hj : j < hs_n s) (ev : v = M a j) (h1 : s = 145 ∨ s = 149 ∨ s = 152 ∨ s = 165) (h2 : s1 = 145 ∨ s1 = 149 ∨ s1 = 152 ∨ s1 = 165) (h : k % 39 = j % 39) : iv v (ti s1 k).1 (ti s1 k).2 := by
  rw [ev, ti_mod h2 h1 h]
  exact hTy.1 a s ga j hj
/-- the rows of who is where: n of them are of this bank's cats -/
def WVa (M : hM) (R : hR) (y : Nat) (n : Int) : Prop := ∀ i : Nat, (i : Int) < n → ∀ r, r < 8 → (M (R y 49) (39 * i + 14 + r)).toInt < (M (R y 11) (bk M y)).toInt
def WV (M : hM) (R : hR) (y : Nat) : Prop := WVa M R y ((M y 50).toInt + (M y 51).toInt) ∧ (M y 50).toInt + (M y 51).toInt ≤ 40
def KK (M : hM) (R : hR) (y : Nat) : Prop := ∀ r, r < 8 → (M (R y 52) (14 + r)).toInt < (M (R y 11) (bk M y)).toInt
def BV (M : hM) (R : hR) (y : Nat) : Prop := ∀ b, b < 3 → ¬ M (R y 66) b = 0 → ∀ r, r < 8 → (M (R y 65) (39 * b + 14 + r)).toInt < (M (R y 11) (bk M y)).toInt
theorem WV_ag {σ : Nat → Option Nat} {M M1 M2 : hM} {R : hR} {y : Nat} (hTy : hT σ M2 R) (gy : σ y = some 9) (h : WV M R y) (ha : hAd σ [(9, 35), (9, 50), (9, 51), (111, 999), (149, 999)] M M1) : WV M1 R y := by
  have e35 := ha y 9 35 gy rfl
  have e50 := ha y 9 50 gy rfl
  have e51 := ha y 9 51 gy rfl
  have g11 := hTy.r1 gy 11 111 (by decide) rfl
  have g49 := hTy.r1 gy 49 149 (by decide) rfl
  refine ⟨fun i hi r hr => ?_, by rw [e50, e51]; exact h.2⟩
  rw [e50, e51] at hi
  rw [bk, e35, ha _ 111 _ g11 rfl, ha _ 149 _ g49 rfl]
  exact h.1 i hi r hr
theorem KK_ag {σ : Nat → Option Nat} {M M1 M2 : hM} {R : hR} {y : Nat} (hTy : hT σ M2 R) (gy : σ y = some 9) (h : KK M R y) (ha : hAd σ [(9, 35), (111, 999), (152, 999)] M M1) : KK M1 R y := by
  have e35 := ha y 9 35 gy rfl
  have g11 := hTy.r1 gy 11 111 (by decide) rfl
  have g52 := hTy.r1 gy 52 152 (by decide) rfl
  intro r hr
  rw [bk, e35, ha _ 111 _ g11 rfl, ha _ 152 _ g52 rfl]
  exact h r hr
theorem BV_ag {σ : Nat → Option Nat} {M M1 M2 : hM} {R : hR} {y : Nat} (hTy : hT σ M2 R) (gy : σ y = some 9) (h : BV M R y) (ha : hAd σ [(9, 35), (111, 999), (165, 999), (166, 999)] M M1) : BV M1 R y := by
  have e35 := ha y 9 35 gy rfl
  have g11 := hTy.r1 gy 11 111 (by decide) rfl
  have g65 := hTy.r1 gy 65 165 (by decide) rfl
  have g66 := hTy.r1 gy 66 166 (by decide) rfl
  intro b hb h0 r hr
  rw [ha _ 166 _ g66 rfl] at h0
  rw [bk, e35, ha _ 111 _ g11 rfl, ha _ 165 _ g65 rfl]
  exact h b hb h0 r hr
section RC
variable {σ : Nat → Option Nat} {M M1 M2 : hM} {R : hR} {y : Nat}
/-- behind a copy into a row: this bank's cats are the same -/
theorem CPI_cats {a o b p k sa : Nat} (h : CPI M M1 a o b p k) (hTy : hT σ M2 R) (gy : σ y = some 9) (ga : σ a = some sa) (h9 : sa ≠ 9) (h111 : sa ≠ 111) : (M1 (R y 11) (bk M1 y)).toInt = (M (R y 11) (bk M y)).toInt := by
  have g11 := hTy.r1 gy 11 111 (by decide) rfl
  have e35 : M1 y 35 = M y 35 := h.2 y 35 (fun q => so_ne gy ga (Ne.symm h9) q.1)
  rw [bk, e35, h.2 _ _ (fun q => so_ne g11 ga (Ne.symm h111) q.1)]
theorem KK_of (h : CPI M M1 (R y 52) 0 (R y 45) 0 39) (hTy : hT σ M2 R) (gy : σ y = some 9) (hk : KV M R y) : KK M1 R y := by
  have g52 := hTy.r1 gy 52 152 (by decide) rfl
  intro r hr
  rw [CPI_cats h hTy gy g52 (by decide) (by decide)]
  have := h.1 (14 + r) (by omega)
  simp only [Nat.zero_add] at this
  rw [this]
  exact hk r hr
theorem KV_of (h : CPI M M1 (R y 45) 0 (R y 52) 0 39) (hTy : hT σ M2 R) (gy : σ y = some 9) (hk : KK M R y) : KV M1 R y := by
  have g45 := hTy.r1 gy 45 145 (by decide) rfl
  intro r hr
  rw [CPI_cats h hTy gy g45 (by decide) (by decide)]
  have := h.1 (14 + r) (by omega)
  simp only [Nat.zero_add] at this
  rw [this]
  exact hk r hr
end RC
theorem cp_end {M0 M : hM} {a o b p : Nat} {k : Int32} (h : CPI M0 M a o b p k.toNatClampNeg) (hk : iv k 39 39) : CPI M0 M a o b p 39 := by
  have h7 := iv_nN hk (by decide)
  have := hk.1
  have := hk.2
  have e : k.toNatClampNeg = 39 := by omega
  rw [e] at h
  exact h
theorem add_at {i k c : Int32} {n : Nat} {hi : Int} (e : i = k + c) (hk : iv k 0 hi) (hc : iv c n n) (hn : hi + n ≤ 2147483647) : i.toNatClampNeg = n + k.toNatClampNeg := by
  have h1 := h_inc e hk hc (by omega) (by omega)
  have h2 := iv_nN hk (by decide)
  have h3 := iv_nN (x := i) (lo := 0) (hi := hi + n) ⟨by have := hk.1; omega, by have := hk.2; omega⟩ (by decide)
  omega
theorem WVa_le {M : hM} {R : hR} {y : Nat} {n n' : Int} (h : WVa M R y n) (hn : n' ≤ n) : WVa M R y n' := fun i hi => h i (by omega)
section RD
variable {σ : Nat → Option Nat} {M M1 M2 M3 : hM} {R : hR} {y : Nat}
/-- the oldest goes -/
theorem WV_shift (h : CPI M M1 (R y 49) 0 (R y 49) 39 1560) (hTy : hT σ M2 R) (gy : σ y = some 9) (hw : WVa M R y 40) : WVa M1 R y 39 := by
  have g49 := hTy.r1 gy 49 149 (by decide) rfl
  intro i hi r hr
  rw [CPI_cats h hTy gy g49 (by decide) (by decide)]
  have h1 := h.1 (39 * i + 14 + r) (by omega)
  rw [Nat.zero_add] at h1
  rw [h1, show 39 + (39 * i + 14 + r) = 39 * (i + 1) + 14 + r by omega]
  exact hw (i + 1) (by omega) r hr
theorem WVa_ag {n : Int} (hTy : hT σ M2 R) (gy : σ y = some 9) (h : WVa M R y n) (ha : hAd σ [(9, 35), (111, 999), (149, 999)] M M1) : WVa M1 R y n := by
  have e35 := ha y 9 35 gy rfl
  have g11 := hTy.r1 gy 11 111 (by decide) rfl
  have g49 := hTy.r1 gy 49 149 (by decide) rfl
  intro i hi r hr
  rw [bk, e35, ha _ 111 _ g11 rfl, ha _ 149 _ g49 rfl]
  exact h i hi r hr
/-- one more is kept -/
theorem WV_push {a : Nat} {n : Int} (h : CPI M M1 (R y 49) (39 * a) (R y 45) 0 39) (hTy : hT σ M2 R) (gy : σ y = some 9) (hw : WVa M R y n) (hn : n = (a : Int)) (hk : KV M R y) : WVa M1 R y (n + 1) := by
  have g49 := hTy.r1 gy 49 149 (by decide) rfl
  intro i hi r hr
  rw [CPI_cats h hTy gy g49 (by decide) (by decide)]
  by_cases q : i = a
  · subst q
    have h1 := h.1 (14 + r) (by omega)
    rw [Nat.zero_add, ← Nat.add_assoc] at h1
    rw [h1]
    exact hk r hr
  · rw [h.2 _ _ (fun z => by omega)]
    exact hw i (by omega) r hr
/-- what is now and a row change places -/
def SWI (M0 M : hM) (R : hR) (y a k : Nat) : Prop := (∀ j, j < k → M (R y 45) j = M0 (R y 49) (39 * a + j) ∧ M (R y 49) (39 * a + j) = M0 (R y 45) j) ∧ ∀ x j, ¬ (x = R y 45 ∧ j < k) → ¬ (x = R y 49 ∧ 39 * a ≤ j ∧ j < 39 * a + k) → M x j = M0 x j
theorem SWI_0 {a : Nat} : SWI M M R y a 0 := ⟨fun j h => absurd h (Nat.not_lt_zero j), fun _ _ _ _ => rfl⟩
theorem SWI_step {a k ix k1 : Nat} {v w : Int32} (h : SWI M M1 R y a k) (hne : R y 45 ≠ R y 49) (e1 : M2 = u2 M1 (R y 49) ix w) (ew : w = M1 (R y 45) k) (e2 : M3 = u2 M2 (R y 45) k v) (ev : v = M1 (R y 49) ix) (hx : ix = 39 * a + k) (hk : k1 = k + 1) : SWI M M3 R y a k1 := by
  subst hx; subst hk
  refine ⟨fun j hj => ?_, fun x j h1 h2 => ?_⟩
  · by_cases q : j = k
    · subst q
      refine ⟨?_, ?_⟩
      · rw [e2, u2_s, ev]
        exact h.2 _ _ (fun z => hne z.1.symm) (fun z => by omega)
      · rw [e2, u2_a (Ne.symm hne), e1, u2_s, ew]
        exact h.2 _ _ (fun z => by omega) (fun z => hne z.1)
    · refine ⟨?_, ?_⟩
      · rw [e2, u2_k q, e1, u2_a hne]
        exact (h.1 j (by omega)).1
      · rw [e2, u2_a (Ne.symm hne), e1, u2_k (by omega)]
        exact (h.1 j (by omega)).2
  · rw [e2, u2_n (fun z => h1 ⟨z.1, by omega⟩), e1, u2_n (fun z => h2 ⟨z.1, by omega, by omega⟩)]
    exact h.2 x j (fun z => h1 ⟨z.1, by omega⟩) (fun z => h2 ⟨z.1, z.2.1, by omega⟩)
theorem SW_end {a : Nat} {k : Int32} (h : SWI M M1 R y a k.toNatClampNeg) (hk : iv k 39 39) : SWI M M1 R y a 39 := by
  have h7 := iv_nN hk (by decide)
  have := hk.1
  have := hk.2
  have e : k.toNatClampNeg = 39 := by omega
  rw [e] at h
  exact h
theorem SW_cats {a k : Nat} (h : SWI M M1 R y a k) (hTy : hT σ M2 R) (gy : σ y = some 9) : (M1 (R y 11) (bk M1 y)).toInt = (M (R y 11) (bk M y)).toInt := by
  have g11 := hTy.r1 gy 11 111 (by decide) rfl
  have g45 := hTy.r1 gy 45 145 (by decide) rfl
  have g49 := hTy.r1 gy 49 149 (by decide) rfl
  have e35 : M1 y 35 = M y 35 := h.2 y 35 (fun q => so_ne gy g45 (by decide) q.1) (fun q => so_ne gy g49 (by decide) q.1)
  rw [bk, e35, h.2 _ _ (fun q => so_ne g11 g45 (by decide) q.1) (fun q => so_ne g11 g49 (by decide) q.1)]
theorem SW_KV {a : Nat} {n : Int} (h : SWI M M1 R y a 39) (hTy : hT σ M2 R) (gy : σ y = some 9) (hw : WVa M R y n) (ha : (a : Int) < n) : KV M1 R y := by
  intro r hr
  rw [SW_cats h hTy gy, (h.1 (14 + r) (by omega)).1, ← Nat.add_assoc]
  exact hw a ha r hr
theorem SW_WV {a : Nat} {n : Int} (h : SWI M M1 R y a 39) (hTy : hT σ M2 R) (gy : σ y = some 9) (hw : WVa M R y n) (hk : KV M R y) : WVa M1 R y n := by
  have g45 := hTy.r1 gy 45 145 (by decide) rfl
  have g49 := hTy.r1 gy 49 149 (by decide) rfl
  intro i hi r hr
  rw [SW_cats h hTy gy]
  by_cases q : i = a
  · subst q
    rw [Nat.add_assoc, (h.1 (14 + r) (by omega)).2]
    exact hk r hr
  · rw [h.2 _ _ (fun z => so_ne g49 g45 (by decide) z.1) (fun z => by omega)]
    exact hw i hi r hr
theorem BV_push {b : Nat} (h : CPI M M1 (R y 65) (39 * b) (R y 45) 0 39) (hTy : hT σ M2 R) (gy : σ y = some 9) (hb : BV M R y) (hk : KV M R y) : ∀ c, c < 3 → (c = b ∨ ¬ M1 (R y 66) c = 0) → ∀ r, r < 8 → (M1 (R y 65) (39 * c + 14 + r)).toInt < (M1 (R y 11) (bk M1 y)).toInt := by
  have g65 := hTy.r1 gy 65 165 (by decide) rfl
  have g66 := hTy.r1 gy 66 166 (by decide) rfl
  intro c hc h0 r hr
  rw [CPI_cats h hTy gy g65 (by decide) (by decide)]
  by_cases q : c = b
  · subst q
    have h1 := h.1 (14 + r) (by omega)
    rw [Nat.zero_add, ← Nat.add_assoc] at h1
    rw [h1]
    exact hk r hr
  · rw [h.2 _ _ (fun z => by omega)]
    rcases h0 with h0 | h0
    · exact absurd h0 q
    · rw [h.2 _ _ (fun z => so_ne g66 g65 (by decide) z.1)] at h0
      exact hb c hc h0 r hr
theorem BV_set {b : Nat} {v : Int32} (e : M1 = u2 M (R y 66) b v) (hTy : hT σ M2 R) (gy : σ y = some 9) (h : ∀ c, c < 3 → (c = b ∨ ¬ M (R y 66) c = 0) → ∀ r, r < 8 → (M (R y 65) (39 * c + 14 + r)).toInt < (M (R y 11) (bk M y)).toInt) : BV M1 R y := by
  have g11 := hTy.r1 gy 11 111 (by decide) rfl
  have g65 := hTy.r1 gy 65 165 (by decide) rfl
  have g66 := hTy.r1 gy 66 166 (by decide) rfl
  intro c hc h0 r hr
  rw [e, u2_a (so_ne g65 g66 (by decide)), bk, u2_a (so_ne gy g66 (by decide)), u2_a (so_ne g11 g66 (by decide))]
  refine h c hc ?_ r hr
  by_cases q : c = b
  · exact Or.inl q
  · right
    rw [e, u2_k q] at h0
    exact h0
theorem KV_box {b : Nat} (h : CPI M M1 (R y 45) 0 (R y 65) (39 * b) 39) (hTy : hT σ M2 R) (gy : σ y = some 9) (hb : BV M R y) (hb3 : b < 3) (h0 : ¬ M (R y 66) b = 0) : KV M1 R y := by
  have g45 := hTy.r1 gy 45 145 (by decide) rfl
  intro r hr
  rw [CPI_cats h hTy gy g45 (by decide) (by decide)]
  have h1 := h.1 (14 + r) (by omega)
  rw [Nat.zero_add, ← Nat.add_assoc] at h1
  rw [h1]
  exact hb b hb3 h0 r hr
end RD
theorem cp_endn {M0 M : hM} {a o b p n : Nat} {k : Int32} (h : CPI M0 M a o b p k.toNatClampNeg) (hk : iv k n n) : CPI M0 M a o b p n := by
  have h7 := iv_nN hk (by omega)
  have := hk.1
  have := hk.2
  have e : k.toNatClampNeg = n := by omega
  rw [e] at h
  exact h
theorem WV_end {M M1 M2 : hM} {R : hR} {y : Nat} {u n z : Int32} (h : WVa M2 R y (u.toInt + 1)) (e1 : M1 = u2 M y 50 n) (e2 : M2 = u2 M1 y 51 z) (hz : z = 0) (hn : n.toInt = u.toInt + 1) (hu : iv u 0 39) : WV M2 R y := by
  have h50 : M2 y 50 = n := by rw [e2, u2_k (by decide), e1, u2_s]
  have h51 : M2 y 51 = 0 := by rw [e2, u2_s, hz]
  have h0 : (0 : Int32).toInt = 0 := by decide
  have := hu.2
  refine ⟨?_, by rw [h50, h51, h0]; omega⟩
  rw [h50, h51, h0, hn]
  exact WVa_le h (by omega)
/-- who keeps what, as told, is a cat of this bank -/
def TV (M : hM) (R : hR) (y : Nat) : Prop := ∀ r : Nat, (r : Int) < (M (R y 12) (bk M y)).toInt → (M (R y 20) (8 * bk M y + r)).toInt < (M (R y 11) (bk M y)).toInt
def LK (M0 M : hM) (R : hR) (y k : Nat) : Prop := TV M0 R y → ∀ j, j < k → (M (R y 45) (14 + j)).toInt < (M0 (R y 11) (bk M0 y)).toInt
theorem LK_0 {M0 M : hM} {R : hR} {y : Nat} : LK M0 M R y 0 := fun _ j h => absurd h (Nat.not_lt_zero j)
theorem LK_step {M0 M M1 : hM} {R : hR} {y k ix k1 : Nat} {v : Int32} (h : LK M0 M R y k) (e : M1 = u2 M (R y 45) ix v) (hx : ix = 14 + k) (hk : k1 = k + 1) (hv : TV M0 R y → v.toInt < (M0 (R y 11) (bk M0 y)).toInt) : LK M0 M1 R y k1 := by
  subst hx; subst hk
  intro ht j hj
  rw [e]
  by_cases q : j = k
  · subst q
    rw [u2_s]
    exact hv ht
  · rw [u2_k (by omega)]
    exact h ht j (by omega)
theorem LK_end {M0 M M1 M2 : hM} {R : hR} {y j1 j2 : Nat} {k v w : Int32} (h : LK M0 M R y k.toNatClampNeg) (hk : iv k 8 8) (e1 : M1 = u2 M (R y 45) j1 v) (e2 : M2 = u2 M1 (R y 45) j2 w) (h1 : j1 = 36) (h2 : j2 = 38) (hc : (M2 (R y 11) (bk M2 y)).toInt = (M0 (R y 11) (bk M0 y)).toInt) (ht : TV M0 R y) : KV M2 R y := by
  have h7 := iv_nN hk (by decide)
  have := hk.1
  have := hk.2
  intro r hr
  rw [hc, e2, u2_k (by omega), e1, u2_k (by omega)]
  exact h ht r (by omega)
theorem cats_ag {σ : Nat → Option Nat} {M M1 M2 : hM} {R : hR} {y : Nat} (hTy : hT σ M2 R) (gy : σ y = some 9) (ha : hAd σ [(9, 35), (111, 999)] M M1) : (M1 (R y 11) (bk M1 y)).toInt = (M (R y 11) (bk M y)).toInt := by
  have e35 := ha y 9 35 gy rfl
  have g11 := hTy.r1 gy 11 111 (by decide) rfl
  rw [bk, e35, ha _ 111 _ g11 rfl]
theorem TV_at {M : hM} {R : hR} {y : Nat} {bank t i p v n : Int32} (h : TV M R y) (hb : bank = M y 35) (ib : iv bank 0 1) (et : t = 8 * bank) (ei : i = t + p) (ip : iv p 0 7) (hn : n = M (R y 12) (bk M y)) (hlt : p.toInt < n.toInt) (e : v = M (R y 20) i.toNatClampNeg) : v.toInt < (M (R y 11) (bk M y)).toInt := by
  have h1 := bank_at (n := 8) (by decide) ib et ei ip (by omega)
  have h2 := iv_nN ip (by decide)
  have h4 : i.toNatClampNeg = 8 * bk M y + p.toNatClampNeg := by
    rw [bk, ← hb]
    omega
  rw [e, h4]
  exact h _ (by rw [← hn]; omega)
theorem WV_undo {σ : Nat → Option Nat} {M M1 M2 M3 M4 : hM} {R : hR} {y : Nat} {l : List (Nat × Nat)} {a1 b1 a0 b0 : Int32} (hTy : hT σ M4 R) (gy : σ y = some 9) (hw : WV M R y) (hk : KV M R y) (ea : a0 = M y 50) (eb : b0 = M y 51) (e1 : M1 = u2 M y 50 a1) (e2 : M2 = u2 M1 y 51 b1) (ha : a1.toInt = a0.toInt + -1) (hb : b1.toInt = b0.toInt + 1) (ia : iv a0 1 40) (ib : iv b0 0 39) (hs : SWI M2 M3 R y (M2 y 50).toNatClampNeg 39) (hf : hAg σ l M2 M3) (h50 : ef l 9 50 = false) (h51 : ef l 9 51 = false) : KV M3 R y ∧ WV M3 R y := by
  have w1 : WVa M2 R y ((M y 50).toInt + (M y 51).toInt) := WVa_ag hTy gy (WVa_ag hTy gy hw.1 (hAd.put e1 gy rfl)) (hAd.put e2 gy rfl)
  have k1 : KV M2 R y := KV_ag hTy gy (KV_ag hTy gy hk (hAd.put e1 gy rfl)) (hAd.put e2 gy rfl)
  have q50 : M2 y 50 = a1 := by rw [e2, u2_k (by decide), e1, u2_s]
  have q51 : M2 y 51 = b1 := by rw [e2, u2_s]
  have hn := iv_nN (x := a1) (lo := 0) (hi := 39) ⟨by have := ia.1; omega, by have := ia.2; omega⟩ (by decide)
  rw [← ea, ← eb] at w1
  refine ⟨SW_KV hs hTy gy w1 (by rw [q50]; have := ib.1; omega), ?_⟩
  have w2 := SW_WV hs hTy gy w1 k1
  have r50 : M3 y 50 = a1 := (hf y 9 50 gy h50).trans q50
  have r51 : M3 y 51 = b1 := (hf y 9 51 gy h51).trans q51
  have h2 := hw.2
  rw [← ea, ← eb] at h2
  unfold WV
  rw [r50, r51, ha, hb]
  exact ⟨WVa_le w2 (by omega), by omega⟩
theorem WV_redo {σ : Nat → Option Nat} {M M1 M2 M3 M4 : hM} {R : hR} {y : Nat} {l : List (Nat × Nat)} {a1 b1 a0 b0 : Int32} (hTy : hT σ M4 R) (gy : σ y = some 9) (hw : WV M R y) (hk : KV M R y) (ea : a0 = M y 50) (eb : b0 = M y 51) (ia : iv a0 0 40) (ib : iv b0 1 40) (hs : SWI M M1 R y (M y 50).toNatClampNeg 39) (hf : hAg σ l M M1) (h50 : ef l 9 50 = false) (h51 : ef l 9 51 = false) (e1 : M2 = u2 M1 y 50 a1) (e2 : M3 = u2 M2 y 51 b1) (ha : a1.toInt = a0.toInt + 1) (hb : b1.toInt = b0.toInt + -1) : KV M3 R y ∧ WV M3 R y := by
  have w0 := hw.1
  have h2 := hw.2
  rw [← ea, ← eb] at w0 h2
  have hn := iv_nN ia (by decide)
  have k1 : KV M1 R y := SW_KV hs hTy gy w0 (by rw [← ea]; have := ib.1; omega)
  have w1 := SW_WV hs hTy gy w0 hk
  have k2 : KV M3 R y := KV_ag hTy gy (KV_ag hTy gy k1 (hAd.put e1 gy rfl)) (hAd.put e2 gy rfl)
  have w2 : WVa M3 R y (a0.toInt + b0.toInt) := WVa_ag hTy gy (WVa_ag hTy gy w1 (hAd.put e1 gy rfl)) (hAd.put e2 gy rfl)
  have q50 : M3 y 50 = a1 := by rw [e2, u2_k (by decide), e1, u2_s]
  have q51 : M3 y 51 = b1 := by rw [e2, u2_s]
  refine ⟨k2, ?_⟩
  unfold WV
  rw [q50, q51, ha, hb]
  exact ⟨WVa_le w2 (by omega), by omega⟩
theorem WV_0 {M M1 M2 : hM} {R : hR} {y : Nat} {a b : Int32} (e1 : M1 = u2 M y 50 a) (e2 : M2 = u2 M1 y 51 b) (ha : a = 0) (hb : b = 0) : WV M2 R y := by
  have q50 : M2 y 50 = 0 := by rw [e2, u2_k (by decide), e1, u2_s, ha]
  have q51 : M2 y 51 = 0 := by rw [e2, u2_s, hb]
  have h0 : (0 : Int32).toInt = 0 := by decide
  refine ⟨?_, by rw [q50, q51, h0]; decide⟩
  intro i hi
  rw [q50, q51, h0] at hi
  omega
def BZ (M : hM) (R : hR) (y k : Nat) : Prop := ∀ j, j < k → M (R y 66) j = 0
theorem BZ_0 {M : hM} {R : hR} {y : Nat} : BZ M R y 0 := fun j h => absurd h (Nat.not_lt_zero j)
theorem BZ_step {M M1 : hM} {R : hR} {y k ix k1 : Nat} {v : Int32} (h : BZ M R y k) (e : M1 = u2 M (R y 66) ix v) (hx : ix = k) (hk : k1 = k + 1) (hv : v = 0) : BZ M1 R y k1 := by
  subst hx; subst hk
  intro j hj
  rw [e]
  by_cases q : j = ix
  · subst q
    rw [u2_s, hv]
  · rw [u2_k q]
    exact h j (by omega)
theorem BZ_end {M : hM} {R : hR} {y : Nat} {k : Int32} (h : BZ M R y k.toNatClampNeg) (hk : iv k 3 3) : BV M R y := by
  have h7 := iv_nN hk (by decide)
  have := hk.1
  intro b hb h0
  exact absurd (h b (by omega)) h0
theorem add_atL {i k c : Int32} {n : Nat} {hi : Int} (e : i = c + k) (hk : iv k 0 hi) (hc : iv c n n) (hn : hi + n ≤ 2147483647) : i.toNatClampNeg = n + k.toNatClampNeg := by
  have h1 := h_incL e hk hc (by omega) (by omega)
  have h2 := iv_nN hk (by decide)
  have h3 := iv_nN (x := i) (lo := 0) (hi := hi + n) ⟨by have := hk.1; omega, by have := hk.2; omega⟩ (by decide)
  omega
theorem hAd.rf {σ : Nat → Option Nat} {dl : List (Nat × Nat)} {M : hM} : hAd σ dl M M := fun _ _ _ _ _ => rfl
theorem AGT_ag {σ : Nat → Option Nat} {dl : List (Nat × Nat)} {M M1 M2 M3 : hM} {R : hR} {y : Nat} (_ : hT σ M3 R) (_ : σ y = some 9) (h : hAd σ dl M M1) (ha : hAd σ dl M1 M2) : hAd σ dl M M2 := fun a s k g e => (ha a s k g e).trans (h a s k g e)
theorem rooms_ag {σ : Nat → Option Nat} {M M1 M2 : hM} {R : hR} {y : Nat} (hTy : hT σ M2 R) (gy : σ y = some 9) (ha : hAd σ [(9, 35), (111, 999), (112, 999), (120, 999)] M M1) : M1 (R y 12) (bk M1 y) = M (R y 12) (bk M y) := by
  have e35 := ha y 9 35 gy rfl
  have g12 := hTy.r1 gy 12 112 (by decide) rfl
  rw [bk, e35, ha _ 112 _ g12 rfl]
/-- what is seen, one of them, fits -/
def FitN (M : hM) (R : hR) (y : Nat) (v k : Int32) (n : Nat) : Prop := k.toInt < (M (R y 61) n).toInt ∨ (0 ≤ (M (R y 62) n).toInt ∧ (M (R y 62) n).toInt ≤ k.toInt) ∨ ((M (R y 57) ((10 : Int32) * v + M (R y 58) n).toNatClampNeg) >>> ((M (R y 59) n) &&& 31)) &&& 1 = M (R y 60) n
def DFit (M : hM) (R : hR) (y : Nat) (v k : Int32) : Prop := ∀ n : Nat, (n : Int) < (M y 63).toInt → FitN M R y v k n
def DFp (M : hM) (R : hR) (y : Nat) (v k : Int32) (m : Nat) : Prop := ∀ n, n < m → FitN M R y v k n
theorem DFp_0 {M : hM} {R : hR} {y : Nat} {v k : Int32} : DFp M R y v k 0 := fun n h => absurd h (Nat.not_lt_zero n)
theorem DFp_step {M : hM} {R : hR} {y : Nat} {v k : Int32} {m m1 : Nat} (h : DFp M R y v k m) (hf : FitN M R y v k m) (hm : m1 = m + 1) : DFp M R y v k m1 := by
  subst hm
  intro n hn
  by_cases q : n = m
  · subst q; exact hf
  · exact h n (by omega)
theorem DFit_of {M : hM} {R : hR} {y : Nat} {v k i w : Int32} {a : Int} (h : DFp M R y v k i.toNatClampNeg) (hi : iv i 0 a) (hw : w = M y 63) (hle : w.toInt ≤ i.toInt) : DFit M R y v k := by
  have := iv_nN hi (by decide)
  intro n hn
  rw [← hw] at hn
  exact h n (by omega)
theorem DFit_not {M : hM} {R : hR} {y : Nat} {v k i w : Int32} {a : Int} (hf : ¬ FitN M R y v k i.toNatClampNeg) (hi : iv i 0 a) (hw : w = M y 63) (hlt : i.toInt < w.toInt) : ¬ DFit M R y v k := by
  have := iv_nN hi (by decide)
  exact fun h => hf (h _ (by rw [← hw]; omega))
theorem FitN_not {M : hM} {R : hR} {y : Nat} {v k : Int32} {n : Nat} (h : ¬ k.toInt < (M (R y 61) n).toInt ∧ ¬ (0 ≤ (M (R y 62) n).toInt ∧ (M (R y 62) n).toInt ≤ k.toInt)) (h2 : ¬ ((M (R y 57) ((10 : Int32) * v + M (R y 58) n).toNatClampNeg) >>> ((M (R y 59) n) &&& 31)) &&& 1 = M (R y 60) n) : ¬ FitN M R y v k n := by
  intro q
  rcases q with q | q | q
  · exact h.1 q
  · exact h.2 q
  · exact h2 q
/-- so many fit among the first ones -/
def FC (M : hM) (R : hR) (y : Nat) (k n v : Int32) : Prop := 0 ≤ n.toInt ∧ n.toInt ≤ v.toInt ∧ (¬ n = 0 → ∃ w : Int32, iv w 0 99 ∧ DFit M R y w k)
theorem FC_0 {M : hM} {R : hR} {y : Nat} {k : Int32} : FC M R y k 0 0 := ⟨by decide, by decide, fun h => absurd rfl h⟩
theorem FC_step {M : hM} {R : hR} {y : Nat} {k n v t n1 v1 : Int32} (h : FC M R y k n v) (hv : iv v 0 99) (ht : iv t 0 1) (hf : ¬ t = 0 → DFit M R y v k) (e : n1 = n + t) (e1 : v1.toInt = v.toInt + 1) : FC M R y k n1 v1 := by
  have hn : iv n 0 99 := ⟨h.1, by have := h.2.1; have := hv.2; omega⟩
  have e2 : n1.toInt = n.toInt + t.toInt := by rw [e]; exact iv_addE hn ht (by decide) (by decide)
  have h0 : (0 : Int32).toInt = 0 := by decide
  refine ⟨by have := h.1; have := ht.1; omega, by have := h.2.1; have := ht.2; omega, fun q => ?_⟩
  by_cases q1 : t = 0
  · refine h.2.2 (fun q2 => q ?_)
    rw [e, q1, q2]
    rfl
  · exact ⟨v, hv, hf q1⟩
/-- which way to go -/
def SU (a its w : Int32) : Prop := (a = 0 → its.toInt ≤ w.toInt) ∧ (¬ a = 0 → w.toInt ≤ its.toInt)
def SM (a its w : Int32) (n : Nat) : Prop := (a = 0 → w.toInt + 1 ≤ its.toInt + n) ∧ (¬ a = 0 → its.toInt + 1 ≤ w.toInt + n)
theorem SM_z {a its w : Int32} (h : SU a its w) (hn : SM a its w 0) : False := by
  by_cases q : a = 0
  · have := h.1 q; have := hn.1 q; omega
  · have := h.2 q; have := hn.2 q; omega
theorem SU_step {M : hM} {R : hR} {y : Nat} {a its w t its1 k : Int32} (h : SU a its w) (hw : iv w 0 99) (hi : iv its 0 99) (hd : DFit M R y w k) (hf : ¬ DFit M R y its k) (ht : (a = 0 ∧ t = 1) ∨ (¬ a = 0 ∧ t = -1)) (e : its1 = its + t) : SU a its1 w ∧ iv its1 0 99 ∧ (∀ n : Nat, SM a its w (n + 1) → SM a its1 w n) := by
  have hne : its.toInt ≠ w.toInt := fun q => hf (by rw [Int32.toInt_inj.mp q]; exact hd)
  have h1 : (1 : Int32).toInt = 1 := by decide
  have h2 : (-1 : Int32).toInt = -1 := by decide
  obtain ⟨w1, w2⟩ := hw
  rcases ht with ⟨q, rfl⟩ | ⟨q, rfl⟩
  · have e2 : its1.toInt = its.toInt + 1 := by rw [e, iv_addE hi (show iv 1 1 1 from ⟨by decide, by decide⟩) (by decide) (by decide)]; omega
    have := h.1 q
    have := hi.1
    refine ⟨⟨fun _ => by omega, fun z => absurd q z⟩, ⟨by omega, by omega⟩, fun n hn => ⟨fun _ => ?_, fun z => absurd q z⟩⟩
    have := hn.1 q
    omega
  · have e2 : its1.toInt = its.toInt + -1 := by rw [e, iv_addE hi (show iv (-1) (-1) (-1) from ⟨by decide, by decide⟩) (by decide) (by decide)]; omega
    have := h.2 q
    have := hi.2
    refine ⟨⟨fun z => absurd z q, fun _ => by omega⟩, ⟨by omega, by omega⟩, fun n hn => ⟨fun z => absurd z q, fun _ => ?_⟩⟩
    have := hn.2 q
    omega
theorem SU_start {a its w : Int32} (hw : iv w 0 99) (h : (a = 0 ∧ its = 0) ∨ (¬ a = 0 ∧ its = 99)) : SU a its w ∧ SM a its w 100 := by
  have h0 : (0 : Int32).toInt = 0 := by decide
  have h9 : (99 : Int32).toInt = 99 := by decide
  obtain ⟨w1, w2⟩ := hw
  rcases h with ⟨q, rfl⟩ | ⟨q, rfl⟩
  · exact ⟨⟨fun _ => by omega, fun z => absurd q z⟩, ⟨fun _ => by omega, fun z => absurd q z⟩⟩
  · exact ⟨⟨fun z => absurd z q, fun _ => by omega⟩, ⟨fun z => absurd z q, fun _ => by omega⟩⟩
theorem CWo_to {M : hM} {R : hR} {y : Nat} {b : Int32} (h : CWo M R y) (hb : b = M y 35) (ib : iv b 0 1) : (M (R y 26) (bk M y)).toInt ≤ 1120 := by
  have h1 := h.2.1
  have h2 := iv_nN ib (by decide)
  have h3 : bk M y = b.toNatClampNeg := by rw [bk, hb]
  have := ib.2
  rw [h3] at h1 ⊢
  omega
