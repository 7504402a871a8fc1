/-! reading: how far it is -/
def PI (M : hM) (y : Nat) : Prop := (M y 7).toInt ≤ (M y 3).toInt
def nu (M : hM) (y : Nat) : Int := (M y 3).toInt - (M y 7).toInt + (if M y 8 = 0 then 0 else 1)
/-- a fault stays, the text stays, nothing is read twice -/
def PN (M0 M : hM) (y : Nat) : Prop := (M y 4 = 0 → M0 y 4 = 0) ∧ M y 3 = M0 y 3 ∧ nu M y ≤ nu M0 y
theorem PN_rf {M : hM} {y : Nat} : PN M M y := ⟨fun h => h, rfl, Int.le_refl _⟩
theorem PN_tr {M M1 M2 : hM} {y : Nat} (h : PN M M1 y) (h2 : PN M1 M2 y) : PN M M2 y := ⟨fun q => h.1 (h2.1 q), h2.2.1.trans h.2.1, Int.le_trans h2.2.2 h.2.2⟩
section PS
variable {σ : Nat → Option Nat} {M M1 M2 M3 : hM} {R : hR} {y : Nat}
theorem nu_ag (gy : σ y = some 9) (ha : hAd σ [(9, 3), (9, 7), (9, 8)] M M1) : nu M1 y = nu M y := by
  unfold nu
  rw [ha y 9 3 gy rfl, ha y 9 7 gy rfl, ha y 9 8 gy rfl]
theorem PN_ag (_ : hT σ M3 R) (gy : σ y = some 9) (h : PN M M1 y) (ha : hAd σ [(9, 3), (9, 4), (9, 7), (9, 8)] M1 M2) : PN M M2 y := by
  refine ⟨fun q => h.1 ?_, (ha y 9 3 gy rfl).trans h.2.1, ?_⟩
  · rw [← ha y 9 4 gy rfl]; exact q
  · rw [nu_ag gy (ha.sub (by decide))]; exact h.2.2
theorem PI_ag (_ : hT σ M3 R) (gy : σ y = some 9) (h : PI M y) (ha : hAd σ [(9, 3), (9, 7)] M M1) : PI M1 y := by
  unfold PI
  rw [ha y 9 3 gy rfl, ha y 9 7 gy rfl]
  exact h
theorem PN_f {v : Int32} (h : PN M M1 y) (e : M2 = u2 M1 y 4 v) (hv : iv v 1 5) : PN M M2 y := by
  have e3 : M2 y 3 = M1 y 3 := by rw [e, u2_k (by decide)]
  have e7 : M2 y 7 = M1 y 7 := by rw [e, u2_k (by decide)]
  have e8 : M2 y 8 = M1 y 8 := by rw [e, u2_k (by decide)]
  refine ⟨fun q => ?_, e3.trans h.2.1, ?_⟩
  · rw [e, u2_s] at q
    have := hv.1
    rw [q] at this
    exact absurd this (by decide)
  · unfold nu
    rw [e3, e7, e8]
    exact h.2.2
end PS
/-- a sign of the text -/
def SG (M : hM) (R : hR) (y : Nat) (k : Int32) : Int32 := if k < M y 3 then (M (R y 1) k.toNatClampNeg) &&& 255 else 0
theorem SG_ag {σ : Nat → Option Nat} {M M1 M2 : hM} {R : hR} {y : Nat} {k : Int32} (hTy : hT σ M2 R) (gy : σ y = some 9) (ha : hAd σ [(9, 3), (101, 999)] M M1) : SG M1 R y k = SG M R y k := by
  unfold SG
  rw [ha y 9 3 gy rfl, ha _ 101 _ (hTy.r1 gy 1 101 (by decide) rfl) rfl]
/-- what goOn does: at the end, or further on -/
def GO (M M1 : hM) (y : Nat) : Prop := (M1 y 8 = 0 ∧ M1 y 7 = M1 y 3) ∨ (¬ M1 y 8 = 0 ∧ (M y 7).toInt < (M1 y 7).toInt)
theorem GO_PN {M M1 : hM} {y : Nat} (h : GO M M1 y) (h3 : M1 y 3 = M y 3) (h4 : M1 y 4 = M y 4) (hp : PI M y) (hp1 : PI M1 y) : PN M M1 y := by
  refine ⟨fun q => by rw [← h4]; exact q, h3, ?_⟩
  unfold nu
  unfold PI at hp hp1
  rcases h with ⟨q1, q2⟩ | ⟨q1, q2⟩
  · rw [if_pos q1, q2, h3]
    by_cases z : M y 8 = 0
    · rw [if_pos z]; omega
    · rw [if_neg z]; omega
  · rw [if_neg q1, h3]
    by_cases z : M y 8 = 0
    · rw [if_pos z]; omega
    · rw [if_neg z]; omega
theorem GO_lt {M M1 : hM} {y : Nat} (h : GO M M1 y) (h3 : M1 y 3 = M y 3) (hp : PI M y) (h8 : ¬ M y 8 = 0) : nu M1 y < nu M y := by
  unfold nu
  unfold PI at hp
  rw [if_neg h8]
  rcases h with ⟨q1, q2⟩ | ⟨q1, q2⟩
  · rw [if_pos q1, q2, h3]; omega
  · rw [if_neg q1, h3]; omega
/-! the two banks -/
abbrev rbN (M : hM) (y : Nat) : Nat := (M y 36).toNatClampNeg
def RB (M : hM) (y : Nat) : Prop := (M y 36).toInt = 1 - (M y 35).toInt
theorem RB_ag {σ : Nat → Option Nat} {M M1 M3 : hM} {R : hR} {y : Nat} (_ : hT σ M3 R) (gy : σ y = some 9) (h : RB M y) (ha : hAd σ [(9, 35), (9, 36)] M M1) : RB M1 y := by
  unfold RB
  rw [ha y 9 35 gy rfl, ha y 9 36 gy rfl]
  exact h
/-- the places that reading leaves as they are -/
def kp (b s k : Nat) : Bool :=
  if s == 9 then !(k == 4 || k == 5 || k == 6 || k == 7 || k == 8 || k == 9 || k == 37 || k == 38 || k == 39 || k == 40)
  else if s == 111 || s == 112 || s == 113 || s == 114 || s == 115 || s == 116 || s == 117 || s == 125 || s == 126 then k == b
  else if s == 118 || s == 119 then k / 6 == b
  else if s == 120 then k / 8 == b
  else if s == 121 || s == 122 || s == 123 || s == 124 then k / 7 == b
  else if s == 130 || s == 131 then k / 560 == b
  else if s == 132 || s == 133 then false
  else true
def PB (σ : Nat → Option Nat) (b : Nat) (M0 M : hM) : Prop := ∀ a s k, σ a = some s → kp b s k = true → M a k = M0 a k
section PBS
variable {σ : Nat → Option Nat} {M M1 M2 M3 : hM} {R : hR} {y b : Nat}
theorem PB_rf : PB σ b M M := fun _ _ _ _ _ => rfl
theorem PB_tr (gy : σ y = some 9) (h : PB σ (bk M y) M M1) (h2 : PB σ (bk M1 y) M1 M2) : PB σ (bk M y) M M2 := by
  have e : bk M1 y = bk M y := by rw [bk, h y 9 35 gy rfl]
  rw [e] at h2
  exact fun a s k g q => (h2 a s k g q).trans (h a s k g q)
theorem PB_put {a s0 j : Nat} {v : Int32} (h : PB σ b M M1) (e : M2 = u2 M1 a j v) (ga : σ a = some s0) (hk : kp b s0 j = false) : PB σ b M M2 := by
  intro x s k g q
  rw [e]
  by_cases z : x = a ∧ k = j
  · obtain ⟨rfl, rfl⟩ := z
    cases Option.some.inj (g.symm.trans ga)
    rw [hk] at q
    cases q
  · rw [u2_n z]
    exact h x s k g q
def okl (l : List (Nat × Nat)) : Bool := l.all (fun q => q.1 == 9 && (q.2 == 4 || q.2 == 5 || q.2 == 6 || q.2 == 7 || q.2 == 8 || q.2 == 9 || q.2 == 37 || q.2 == 38 || q.2 == 39 || q.2 == 40))
theorem PB_call {l : List (Nat × Nat)} (h : PB σ b M M1) (h2 : hAg σ l M1 M2) (hl : okl l = true) : PB σ b M M2 := by
  intro x s k g q
  rw [h2 x s k g ?_]
  · exact h x s k g q
  · cases z : ef l s k with
    | false => rfl
    | true =>
      simp only [ef, List.any_eq_true, Bool.and_eq_true, Bool.or_eq_true, beq_iff_eq] at z
      obtain ⟨r, hr, hr1, hr2⟩ := z
      have hl2 := List.all_eq_true.mp hl r hr
      simp only [Bool.and_eq_true, Bool.or_eq_true, beq_iff_eq] at hl2
      have h9 : s = 9 := by omega
      subst h9
      have hk : k = 4 ∨ k = 5 ∨ k = 6 ∨ k = 7 ∨ k = 8 ∨ k = 9 ∨ k = 37 ∨ k = 38 ∨ k = 39 ∨ k = 40 := by omega
      rcases hk with rfl | rfl | rfl | rfl | rfl | rfl | rfl | rfl | rfl | rfl <;> cases q
end PBS
theorem kp_2 {b s j : Nat} (hs : s = 111 ∨ s = 112 ∨ s = 113 ∨ s = 114 ∨ s = 115 ∨ s = 116 ∨ s = 117 ∨ s = 125 ∨ s = 126) (h : j ≠ b) : kp b s j = false := by
  rcases hs with rfl | rfl | rfl | rfl | rfl | rfl | rfl | rfl | rfl <;> (show (j == b) = false) <;> simp [h]
theorem kp_6 {b s j : Nat} (hs : s = 118 ∨ s = 119) (h : j / 6 ≠ b) : kp b s j = false := by
  rcases hs with rfl | rfl <;> (show (j / 6 == b) = false) <;> simp [h]
theorem kp_8 {b j : Nat} (h : j / 8 ≠ b) : kp b 120 j = false := by
  show (j / 8 == b) = false
  simp [h]
theorem kp_7 {b s j : Nat} (hs : s = 121 ∨ s = 122 ∨ s = 123 ∨ s = 124) (h : j / 7 ≠ b) : kp b s j = false := by
  rcases hs with rfl | rfl | rfl | rfl <;> (show (j / 7 == b) = false) <;> simp [h]
theorem kp_c {b s j : Nat} (hs : s = 130 ∨ s = 131) (h : j / 560 ≠ b) : kp b s j = false := by
  rcases hs with rfl | rfl <;> (show (j / 560 == b) = false) <;> simp [h]
/-- the bank that is read into isn't the bank -/
theorem rb_ne {M M0 : hM} {y : Nat} {rb : Int32} (h : RB M y) (e : rb = M y 36) (ib : iv (M y 35) 0 1) (h0 : M y 35 = M0 y 35) : rb.toNatClampNeg ≠ bk M0 y := by
  unfold RB at h
  rw [← e] at h
  have h1 := iv_nN ib (by decide)
  have h2 := iv_nN (x := rb) (lo := 0) (hi := 1) ⟨by have := ib.2; omega, by have := ib.1; omega⟩ (by decide)
  rw [bk, ← h0]
  omega
/-! a bank's heirs, rooms, rule -/
def HB (M : hM) (R : hR) (y b : Nat) : Prop := ∀ c : Nat, (c : Int) < (M (R y 11) b).toInt → (M (R y 19) (6 * b + c)).toInt < c
def TB (M : hM) (R : hR) (y b : Nat) : Prop := ∀ r : Nat, (r : Int) < (M (R y 12) b).toInt → (M (R y 20) (8 * b + r)).toInt < (M (R y 11) b).toInt
def CB (M : hM) (R : hR) (y b : Nat) : Prop := (M (R y 17) b >>> ((0 : Int32) &&& 31)) &&& 1 = 1 → CWb M R y b
def PG (M : hM) (R : hR) (y : Nat) : Prop := M y 4 = 0 → HB M R y (rbN M y) ∧ TB M R y (rbN M y) ∧ CB M R y (rbN M y)
theorem okc_congr {f g : Nat → Int32} : ∀ (n k d : Nat), (∀ j, k ≤ j → j < k + n → g j = f j) → okc f n k d → okc g n k d
  | 0, _, _, _, _ => trivial
  | n + 1, k, d, h, ho => by
    have e := h k (Nat.le_refl _) (by omega)
    have ih := fun d' => okc_congr n (k + 1) d' (fun j h1 h2 => h j (by omega) (by omega))
    unfold okc at ho ⊢
    rw [e]
    rcases ho with ⟨h1, h2, h3⟩ | ⟨h1, h2, h3, h4⟩ | ⟨h1, h2, h3, h4⟩
    · exact Or.inl ⟨h1, h2, ih _ h3⟩
    · exact Or.inr (Or.inl ⟨h1, h2, h3, ih _ h4⟩)
    · exact Or.inr (Or.inr ⟨h1, h2, h3, ih _ h4⟩)
section PGS
variable {σ : Nat → Option Nat} {M M1 M2 M3 : hM} {R : hR} {y b : Nat}
theorem CWb_ag (g25 : M1 (R y 25) b = M (R y 25) b) (g26 : M1 (R y 26) b = M (R y 26) b) (g30 : ∀ j, j / 560 = b → M1 (R y 30) j = M (R y 30) j) (h : CWb M R y b) : CWb M1 R y b := by
  unfold CWb at h ⊢
  rw [g25, g26]
  refine ⟨h.1, h.2.1, okc_congr _ _ _ (fun j h1 h2 => g30 j ?_) h.2.2⟩
  have := h.1
  have := h.2.1
  omega
/-- reading leaves the bank's own -/
theorem HB_pb (hTy : hT σ M R) (gy : σ y = some 9) (hb : b < 2) (h : HB M R y b) (hp : PB σ b M M1) : HB M1 R y b := by
  have g11 := hTy.r1 gy 11 111 (by decide) rfl
  have g19 := hTy.r1 gy 19 119 (by decide) rfl
  have e11 : M1 (R y 11) b = M (R y 11) b := hp _ 111 b g11 (by show (b == b) = true; simp)
  have h6 := hTy.1 _ 111 g11 b hb
  intro c hc
  rw [e11] at hc
  have hc6 : c < 6 := by have := h6.2; have : (M (R y 11) b).toInt ≤ 6 := h6.2; omega
  rw [hp _ 119 _ g19 (by show ((6 * b + c) / 6 == b) = true; simp; omega)]
  exact h c hc
theorem CB_pb (hTy : hT σ M R) (gy : σ y = some 9) (h : CB M R y b) (hp : PB σ b M M1) : CB M1 R y b := by
  have g17 := hTy.r1 gy 17 117 (by decide) rfl
  have g25 := hTy.r1 gy 25 125 (by decide) rfl
  have g26 := hTy.r1 gy 26 126 (by decide) rfl
  have g30 := hTy.r1 gy 30 130 (by decide) rfl
  intro hc
  rw [hp _ 117 b g17 (by show (b == b) = true; simp)] at hc
  exact CWb_ag (hp _ 125 b g25 (by show (b == b) = true; simp)) (hp _ 126 b g26 (by show (b == b) = true; simp)) (fun j hj => hp _ 130 j g30 (by show (j / 560 == b) = true; simp [hj])) (h hc)
theorem KV_pb (hTy : hT σ M R) (gy : σ y = some 9) (h : KV M R y) (hp : PB σ (bk M y) M M1) : KV M1 R y := by
  have g11 := hTy.r1 gy 11 111 (by decide) rfl
  have g45 := hTy.r1 gy 45 145 (by decide) rfl
  have e35 : M1 y 35 = M y 35 := hp y 9 35 gy rfl
  intro r hr
  rw [bk, e35, hp _ 111 _ g11 (by show (bk M y == bk M y) = true; simp), hp _ 145 _ g45 rfl]
  exact h r hr
theorem WV_pb (hTy : hT σ M R) (gy : σ y = some 9) (h : WV M R y) (hp : PB σ (bk M y) M M1) : WV M1 R y := by
  have g11 := hTy.r1 gy 11 111 (by decide) rfl
  have g49 := hTy.r1 gy 49 149 (by decide) rfl
  have e35 : M1 y 35 = M y 35 := hp y 9 35 gy rfl
  have e50 : M1 y 50 = M y 50 := hp y 9 50 gy rfl
  have e51 : M1 y 51 = M y 51 := hp y 9 51 gy rfl
  refine ⟨fun i hi r hr => ?_, by rw [e50, e51]; exact h.2⟩
  rw [e50, e51] at hi
  rw [bk, e35, hp _ 111 _ g11 (by show (bk M y == bk M y) = true; simp), hp _ 149 _ g49 rfl]
  exact h.1 i hi r hr
theorem BV_pb (hTy : hT σ M R) (gy : σ y = some 9) (h : BV M R y) (hp : PB σ (bk M y) M M1) : BV M1 R y := by
  have g11 := hTy.r1 gy 11 111 (by decide) rfl
  have g65 := hTy.r1 gy 65 165 (by decide) rfl
  have g66 := hTy.r1 gy 66 166 (by decide) rfl
  have e35 : M1 y 35 = M y 35 := hp y 9 35 gy rfl
  intro c hc h0 r hr
  rw [hp _ 166 _ g66 rfl] at h0
  rw [bk, e35, hp _ 111 _ g11 (by show (bk M y == bk M y) = true; simp), hp _ 165 _ g65 rfl]
  exact h c hc h0 r hr
/-- what only reads on keeps the bank that is read into -/
theorem PG_call (hTy : hT σ M3 R) (gy : σ y = some 9) (h : PG M R y) (hn : PN M M1 y) (ha : hAd σ [(9, 36), (111, 999), (112, 999), (117, 999), (119, 999), (120, 999), (125, 999), (126, 999), (130, 999)] M M1) : PG M1 R y := by
  have g11 := hTy.r1 gy 11 111 (by decide) rfl
  have g12 := hTy.r1 gy 12 112 (by decide) rfl
  have g17 := hTy.r1 gy 17 117 (by decide) rfl
  have g19 := hTy.r1 gy 19 119 (by decide) rfl
  have g20 := hTy.r1 gy 20 120 (by decide) rfl
  have g25 := hTy.r1 gy 25 125 (by decide) rfl
  have g26 := hTy.r1 gy 26 126 (by decide) rfl
  have g30 := hTy.r1 gy 30 130 (by decide) rfl
  intro h4
  obtain ⟨q1, q2, q3⟩ := h (hn.1 h4)
  have e36 : rbN M1 y = rbN M y := by rw [rbN, ha y 9 36 gy rfl]
  rw [e36]
  refine ⟨fun c hc => ?_, fun r hr => ?_, fun hc => ?_⟩
  · rw [ha _ 111 _ g11 rfl] at hc
    rw [ha _ 119 _ g19 rfl]
    exact q1 c hc
  · rw [ha _ 112 _ g12 rfl] at hr
    rw [ha _ 120 _ g20 rfl, ha _ 111 _ g11 rfl]
    exact q2 r hr
  · rw [ha _ 117 _ g17 rfl] at hc
    exact CWb_ag (ha _ 125 _ g25 rfl) (ha _ 126 _ g26 rfl) (fun j _ => ha _ 130 j g30 rfl) (q3 hc)
end PGS
