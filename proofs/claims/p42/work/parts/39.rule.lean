/-! the rule's text: what lies on the pile while it is read -/
def wc (f : Nat → Int32) : Nat → Int
  | 0 => 0
  | n + 1 => wc f n + (if f n = 3 ∨ f n = 7 then 1 else 0)
def nc (f : Nat → Int32) : Nat → Int
  | 0 => 0
  | n + 1 => nc f n + (if f n = 3 then 1 else 0)
theorem wc_s (f : Nat → Int32) (n : Nat) : wc f (n + 1) = wc f n + (if f n = 3 ∨ f n = 7 then 1 else 0) := rfl
theorem nc_s (f : Nat → Int32) (n : Nat) : nc f (n + 1) = nc f n + (if f n = 3 then 1 else 0) := rfl
theorem wc_congr {f g : Nat → Int32} : ∀ n, (∀ j, j < n → g j = f j) → wc g n = wc f n
  | 0, _ => rfl
  | n + 1, h => by rw [wc_s, wc_s, h n (Nat.lt_succ_self n), wc_congr n (fun j hj => h j (Nat.lt_succ_of_lt hj))]
theorem nc_congr {f g : Nat → Int32} : ∀ n, (∀ j, j < n → g j = f j) → nc g n = nc f n
  | 0, _ => rfl
  | n + 1, h => by rw [nc_s, nc_s, h n (Nat.lt_succ_self n), nc_congr n (fun j hj => h j (Nat.lt_succ_of_lt hj))]
theorem nc_le {f : Nat → Int32} : ∀ n, 0 ≤ nc f n ∧ nc f n ≤ wc f n
  | 0 => ⟨Int.le_refl _, Int.le_refl _⟩
  | n + 1 => by
    have ih := nc_le (f := f) n
    rw [nc_s, wc_s]
    by_cases h3 : f n = 3
    · rw [if_pos h3, if_pos (Or.inl h3)]; omega
    · rw [if_neg h3]
      by_cases h7 : f n = 7
      · rw [if_pos (Or.inr h7)]; omega
      · rw [if_neg (fun h => h.elim h3 h7)]; omega
theorem wc_le {f : Nat → Int32} (h0 : f 0 = 8) : ∀ n : Nat, wc f (n + 1) ≤ (n : Int)
  | 0 => by
    rw [wc_s, if_neg (by rw [h0]; decide)]
    exact Int.le_refl _
  | n + 1 => by
    have ih := wc_le h0 n
    rw [wc_s]
    by_cases h : f (n + 1) = 3 ∨ f (n + 1) = 7
    · rw [if_pos h]; omega
    · rw [if_neg h]; omega
def okr (c : Nat → Int32) (F : Nat) : Nat → Nat → Prop
  | 0, d => d = 0
  | n + 1, d => (c (F + n) = 126 ∧ 1 ≤ d ∧ okr c F n d) ∨ (¬ c (F + n) = 126 ∧ iv (c (F + n)) 97 122 ∧ 1 ≤ d ∧ d ≤ 60 ∧ okr c F n (d - 1)) ∨ (¬ c (F + n) = 126 ∧ ¬ iv (c (F + n)) 97 122 ∧ 1 ≤ d ∧ okr c F n (d + 1))
theorem okr_congr {c e : Nat → Int32} {F : Nat} : ∀ (n d : Nat), (∀ j, j < n → e (F + j) = c (F + j)) → okr c F n d → okr e F n d
  | 0, _, _, h => h
  | n + 1, d, h, ho => by
    have ih := fun d' => okr_congr n d' (fun j hj => h j (Nat.lt_succ_of_lt hj))
    unfold okr at ho ⊢
    rw [h n (Nat.lt_succ_self n)]
    rcases ho with ⟨h1, h2, h3⟩ | ⟨h1, h2, h3, h4, h5⟩ | ⟨h1, h2, h3, h4⟩
    · exact Or.inl ⟨h1, h2, ih _ h3⟩
    · exact Or.inr (Or.inl ⟨h1, h2, h3, h4, ih _ h5⟩)
    · exact Or.inr (Or.inr ⟨h1, h2, h3, ih _ h4⟩)
theorem okr_okc {c : Nat → Int32} {F : Nat} : ∀ (n m d : Nat), okr c F n d → okc c m (F + n) d → okc c (n + m) F 0
  | 0, m, d, h, ho => by
    have h' : d = 0 := h
    subst h'
    rw [Nat.zero_add]
    exact ho
  | n + 1, m, d, h, ho => by
    rw [show n + 1 + m = n + (m + 1) by omega]
    unfold okr at h
    rcases h with ⟨h1, h2, h3⟩ | ⟨h1, h2, h3, h4, h5⟩ | ⟨h1, h2, h3, h4⟩
    · exact okr_okc n (m + 1) d h3 (Or.inl ⟨h1, h2, ho⟩)
    · exact okr_okc n (m + 1) (d - 1) h5 (Or.inr (Or.inl ⟨h1, h2, by omega, by rw [show d - 1 + 1 = d by omega]; exact ho⟩))
    · exact okr_okc n (m + 1) (d + 1) h4 (Or.inr (Or.inr ⟨h1, h2, by omega, by rw [Nat.add_sub_cancel]; exact ho⟩))
/-- a place of the pile: what, sign -/
def ek (f s : Int32) : Prop := iv f 1 7 ∧ (f = 3 → s = 126) ∧ (¬ f = 3 → ¬ f = 7 → ¬ s = 126 ∧ ¬ iv s 97 122)
/-- P piled, W within, C codes, U units, F where the code begins, D numbers on the pile behind the code so far, B what the code may be -/
def EV (f s c : Nat → Int32) (P W C U : Int) (F : Nat) (D B : Int) : Prop :=
  (1 ≤ P ∧ f 0 = 8 ∧ ∀ j : Nat, 1 ≤ j → (j : Int) < P → ek (f j) (s j)) ∧ W = wc f P.toNat ∧ W ≤ 7 ∧ (0 ≤ U ∧ U ≤ 30) ∧ (F : Int) ≤ C ∧ okr c F (C - F).toNat D.toNat ∧ D ≤ U ∧ C - F + nc f P.toNat + (P - 1 - W) ≤ B
section EVS
variable {f s c f' s' c' : Nat → Int32} {P W C U D B : Int} {F : Nat}
theorem EV_bd (h : EV f s c P W C U F D B) (hD : P - W - 1 ≤ D) (hB : B ≤ 9 * U + 7) : 1 ≤ P ∧ P ≤ 38 ∧ (F : Int) ≤ C ∧ C ≤ F + 277 ∧ 0 ≤ W ∧ W ≤ 7 ∧ W ≤ P - 1 ∧ U ≤ 30 := by
  obtain ⟨⟨h1, h2, h3⟩, h4, h5, ⟨h6, h7⟩, h8, h9, h10, h11⟩ := h
  have n1 := nc_le (f := f) P.toNat
  have w1 := wc_le h2 (P.toNat - 1)
  rw [show P.toNat - 1 + 1 = P.toNat by omega] at w1
  refine ⟨h1, by omega, h8, by omega, by omega, h5, by omega, h7⟩
theorem EV_start (hf : f 0 = 8) : EV f s c 1 0 (F : Int) 0 F (1 - 0 - 1) (9 * 0 + 0) := by
  refine ⟨⟨by omega, hf, fun j h1 h2 => by omega⟩, ?_, by omega, ⟨by omega, by omega⟩, Int.le_refl _, ?_, by omega, ?_⟩
  · show (0 : Int) = wc f (0 + 1)
    rw [wc_s, if_neg (by rw [hf]; decide)]
    rfl
  · rw [show ((F : Int) - F).toNat = 0 by omega]
    rfl
  · have n1 := nc_le (f := f) (0 + 1)
    have w1 := wc_le hf 0
    show (F : Int) - F + nc f (0 + 1) + (1 - 1 - 0) ≤ 9 * 0 + 0
    omega
theorem EV_push {q : Int32} {t : Int} (h : EV f s c P W C U F (P - W - 1) (9 * U + W)) (hf : ∀ j, f' j = if j = P.toNat then q else f j) (hs : ∀ j, s' j = if j = P.toNat then 126 else s j) (hq : (q = 3 ∧ t = 0) ∨ (q = 7 ∧ t = 1)) (hW : W ≤ 6) (hU : U + t ≤ 30) : EV f' s' c (P + 1) (W + 1) C (U + t) F (P + 1 - (W + 1) - 1) (9 * (U + t) + (W + 1)) := by
  obtain ⟨⟨h1, h2, h3⟩, h4, h5, ⟨h6, h7⟩, h8, h9, h10, h11⟩ := h
  have eP : (P + 1).toNat = P.toNat + 1 := by omega
  have hc : ∀ j, j < P.toNat → f' j = f j := fun j hj => by rw [hf, if_neg (by omega)]
  have fP : f' P.toNat = q := by rw [hf, if_pos rfl]
  have sP : s' P.toNat = 126 := by rw [hs, if_pos rfl]
  have q37 : q = 3 ∨ q = 7 := hq.elim (fun h => Or.inl h.1) (fun h => Or.inr h.1)
  have ew : wc f' (P.toNat + 1) = wc f P.toNat + 1 := by rw [wc_s, fP, wc_congr _ hc, if_pos q37]
  have en : nc f' (P.toNat + 1) = nc f P.toNat + (if q = 3 then 1 else 0) := by rw [nc_s, fP, nc_congr _ hc]
  refine ⟨⟨by omega, ?_, fun j j1 j2 => ?_⟩, ?_, by omega, ⟨by omega, hU⟩, h8, ?_, by omega, ?_⟩
  · rw [hc 0 (by omega)]; exact h2
  · by_cases hj : j = P.toNat
    · rw [hj, fP, sP]
      rcases q37 with r | r
      · subst r; exact ⟨⟨by decide, by decide⟩, fun _ => rfl, fun r => absurd rfl r⟩
      · subst r; exact ⟨⟨by decide, by decide⟩, fun r => absurd r (by decide), fun _ r => absurd rfl r⟩
    · rw [hc j (by omega), hs, if_neg hj]
      exact h3 j j1 (by omega)
  · rw [eP, ew]; omega
  · rw [show P + 1 - (W + 1) - 1 = P - W - 1 by omega]; exact h9
  · rw [eP, en]
    rcases hq with ⟨r, r2⟩ | ⟨r, r2⟩
    · rw [if_pos r]; omega
    · rw [if_neg (by rw [r]; decide)]; omega
theorem EV_let {q : Int32} (h : EV f s c P W C U F (P - W - 1) (9 * U + W)) (hc : ∀ j, c' j = if j = C.toNat then q else c j) (hq : iv q 97 122) (hU : U + 1 ≤ 30) : EV f s c' P W (C + 1) (U + 1) F (P - W) (9 * (U + 1) - 1) := by
  have bd := EV_bd h (by omega) (by have := h.2.2.1; omega)
  obtain ⟨⟨h1, h2, h3⟩, h4, h5, ⟨h6, h7⟩, h8, h9, h10, h11⟩ := h
  refine ⟨⟨h1, h2, h3⟩, h4, h5, ⟨by omega, hU⟩, by omega, ?_, by omega, by omega⟩
  rw [show (C + 1 - F).toNat = (C - F).toNat + 1 by omega]
  have eq : c' (F + (C - F).toNat) = q := by rw [hc, if_pos (by omega)]
  refine Or.inr (Or.inl ⟨?_, ?_, by omega, by omega, ?_⟩)
  · rw [eq]; exact iv_ne (c := 126) (d := 126) hq ⟨by decide, by decide⟩ (by omega)
  · rw [eq]; exact hq
  · rw [show (P - W).toNat - 1 = (P - W - 1).toNat by omega]
    exact okr_congr _ _ (fun j hj => by rw [hc, if_neg (by omega)]) h9
theorem EV_pop {W' : Int} (h : EV f s c P W C U F (P - W) (9 * U - 1)) (hc : ∀ j, c' j = if j = C.toNat then s (P - 1).toNat else c j) (hf : iv (f (P - 1).toNat) 1 6) (hW : W' = W - (if f (P - 1).toNat = 3 then 1 else 0)) : EV f s c' (P - 1) W' (C + 1) U F (P - 1 - W') (9 * U - 1) := by
  have bd := EV_bd h (by omega) (by omega)
  obtain ⟨⟨h1, h2, h3⟩, h4, h5, ⟨h6, h7⟩, h8, h9, h10, h11⟩ := h
  have h0 : (P - 1).toNat ≠ 0 := fun z => by
    rw [z, h2] at hf
    exact absurd hf.2 (by decide)
  have eP : P.toNat = (P - 1).toNat + 1 := by omega
  have e3 := h3 (P - 1).toNat (by omega) (by omega)
  have w1 := wc_le h2 ((P - 1).toNat - 1)
  rw [show (P - 1).toNat - 1 + 1 = (P - 1).toNat by omega] at w1
  have n7 : ¬ f (P - 1).toNat = 7 := iv_ne (c := 7) (d := 7) hf ⟨by decide, by decide⟩ (by omega)
  have eC : (C + 1 - F).toNat = (C - F).toNat + 1 := by omega
  have eq : c' (F + (C - F).toNat) = s (P - 1).toNat := by rw [hc, if_pos (by omega)]
  rw [eP, wc_s] at h4
  rw [eP, nc_s] at h11
  have hok : ∀ d, okr c F (C - F).toNat d → okr c' F (C - F).toNat d := fun d => okr_congr _ _ (fun j hj => by rw [hc, if_neg (by omega)])
  by_cases k3 : f (P - 1).toNat = 3
  · rw [if_pos k3] at hW
    rw [if_pos (Or.inl k3)] at h4
    rw [if_pos k3] at h11
    refine ⟨⟨by omega, h2, fun j j1 j2 => h3 j j1 (by omega)⟩, by omega, by omega, ⟨h6, h7⟩, by omega, ?_, by omega, by omega⟩
    rw [eC]
    refine Or.inl ⟨by rw [eq]; exact e3.2.1 k3, by omega, ?_⟩
    rw [show (P - 1 - W').toNat = (P - W).toNat by omega]
    exact hok _ h9
  · rw [if_neg k3] at hW
    rw [if_neg (fun z => z.elim k3 n7)] at h4
    rw [if_neg k3] at h11
    have z := e3.2.2 k3 n7
    refine ⟨⟨by omega, h2, fun j j1 j2 => h3 j j1 (by omega)⟩, by omega, by omega, ⟨h6, h7⟩, by omega, ?_, by omega, by omega⟩
    rw [eC]
    refine Or.inr (Or.inr ⟨by rw [eq]; exact z.1, by rw [eq]; exact z.2, by omega, ?_⟩)
    rw [show (P - 1 - W').toNat + 1 = (P - W).toNat by omega]
    exact hok _ h9
theorem EV_rank {q z : Int32} (h : EV f s c P W C U F (P - W) (9 * U - 1)) (hf : ∀ j, f' j = if j = P.toNat then q else f j) (hs : ∀ j, s' j = if j = P.toNat then z else s j) (hq : iv q 1 6) (q3 : ¬ q = 3) (hz : ¬ z = 126 ∧ ¬ iv z 97 122) : EV f' s' c (P + 1) W C U F (P + 1 - W - 1) (9 * U + W) := by
  have bd := EV_bd h (by omega) (by omega)
  obtain ⟨⟨h1, h2, h3⟩, h4, h5, ⟨h6, h7⟩, h8, h9, h10, h11⟩ := h
  have eP : (P + 1).toNat = P.toNat + 1 := by omega
  have hc : ∀ j, j < P.toNat → f' j = f j := fun j hj => by rw [hf, if_neg (by omega)]
  have fP : f' P.toNat = q := by rw [hf, if_pos rfl]
  have sP : s' P.toNat = z := by rw [hs, if_pos rfl]
  have n7 : ¬ q = 7 := iv_ne (c := 7) (d := 7) hq ⟨by decide, by decide⟩ (by omega)
  have ew : wc f' (P.toNat + 1) = wc f P.toNat := by rw [wc_s, fP, wc_congr _ hc, if_neg (fun r => r.elim q3 n7)]; omega
  have en : nc f' (P.toNat + 1) = nc f P.toNat := by rw [nc_s, fP, nc_congr _ hc, if_neg q3]; omega
  refine ⟨⟨by omega, ?_, fun j j1 j2 => ?_⟩, ?_, h5, ⟨h6, h7⟩, h8, ?_, by omega, ?_⟩
  · rw [hc 0 (by omega)]; exact h2
  · by_cases hj : j = P.toNat
    · rw [hj, fP, sP]
      exact ⟨iv_w hq (by omega) (by omega), fun r => absurd r q3, fun _ _ => hz⟩
    · rw [hc j (by omega), hs, if_neg hj]
      exact h3 j j1 (by omega)
  · rw [eP, ew]; omega
  · rw [show P + 1 - W - 1 = P - W by omega]; exact h9
  · rw [eP, en]; omega
theorem EV_close (h : EV f s c P W C U F (P - W) (9 * U - 1)) (hf : f (P - 1).toNat = 7) : EV f s c (P - 1) (W - 1) C U F (P - 1 - (W - 1)) (9 * U - 1) := by
  have bd := EV_bd h (by omega) (by omega)
  obtain ⟨⟨h1, h2, h3⟩, h4, h5, ⟨h6, h7⟩, h8, h9, h10, h11⟩ := h
  have h0 : (P - 1).toNat ≠ 0 := fun z => by
    rw [z, h2] at hf
    exact absurd hf (by decide)
  have eP : P.toNat = (P - 1).toNat + 1 := by omega
  rw [eP, wc_s, if_pos (Or.inr hf)] at h4
  rw [eP, nc_s, if_neg (by rw [hf]; decide)] at h11
  refine ⟨⟨by omega, h2, fun j j1 j2 => h3 j j1 (by omega)⟩, by omega, by omega, ⟨h6, h7⟩, h8, ?_, by omega, by omega⟩
  rw [show P - 1 - (W - 1) = P - W by omega]
  exact h9
theorem EV_end (h : EV f s c P W C U F (P - W) (9 * U - 1)) (hf : f (P - 1).toNat = 8) : P = 1 ∧ (F : Int) ≤ C ∧ C ≤ F + 560 ∧ okr c F (C - F).toNat 1 := by
  have bd := EV_bd h (by omega) (by omega)
  obtain ⟨⟨h1, h2, h3⟩, h4, h5, ⟨h6, h7⟩, h8, h9, h10, h11⟩ := h
  have eP : P = 1 := by
    by_cases z : P = 1
    · exact z
    · have := (h3 (P - 1).toNat (by omega) (by omega)).1.2
      rw [hf] at this
      exact absurd this (by decide)
  subst eP
  have hW : W = 0 := by omega
  subst hW
  exact ⟨rfl, h8, by omega, h9⟩
theorem EV_top (h : EV f s c P W C U F D B) {k : Nat} (hk : (k : Int) < P) {a b : Int} (hf : iv (f k) a b) (hb : b ≤ 7) : 1 ≤ k := by
  obtain ⟨⟨h1, h2, h3⟩, -⟩ := h
  by_cases z : k = 0
  · rw [z, h2] at hf
    have := hf.2
    rw [show (8 : Int32).toInt = 8 by decide] at this
    omega
  · omega
theorem EV_f (h : EV f s c P W C U F D B) {k : Nat} (hk : (k : Int) < P) : iv (f k) 1 8 := by
  obtain ⟨⟨h1, h2, h3⟩, -⟩ := h
  by_cases z : k = 0
  · rw [z, h2]; exact ⟨by decide, by decide⟩
  · exact iv_w (h3 k (by omega) hk).1 (by omega) (by omega)
end EVS
/-- a unit is wanted; one stands there -/
def EX1 (M : hM) (R : hR) (y : Nat) : Prop := EV (M (R y 32)) (M (R y 33)) (M (R y 30)) (M y 39).toInt (M y 38).toInt (M y 37).toInt (M y 40).toInt (560 * (M y 36).toNatClampNeg) ((M y 39).toInt - (M y 38).toInt - 1) (9 * (M y 40).toInt + (M y 38).toInt)
def EX0 (M : hM) (R : hR) (y : Nat) : Prop := EV (M (R y 32)) (M (R y 33)) (M (R y 30)) (M y 39).toInt (M y 38).toInt (M y 37).toInt (M y 40).toInt (560 * (M y 36).toNatClampNeg) ((M y 39).toInt - (M y 38).toInt) (9 * (M y 40).toInt - 1)
def EXw (M : hM) (R : hR) (y : Nat) (w : Int32) : Prop := (w = 0 → EX0 M R y) ∧ (¬ w = 0 → EX1 M R y)
def OE (M : hM) (R : hR) (y : Nat) : Prop := 560 * (M y 36).toInt ≤ (M y 37).toInt ∧ (M y 37).toInt ≤ 560 * (M y 36).toInt + 560 ∧ okr (M (R y 30)) (560 * (M y 36).toNatClampNeg) ((M y 37).toInt - ((560 * (M y 36).toNatClampNeg : Nat) : Int)).toNat 1
def EZ (M : hM) (R : hR) (y : Nat) (w : Int32) : Prop := (M y 39 = 0 ∧ OE M R y) ∨ EXw M R y w
/-- what pushE and emit do -/
def PE (M M1 : hM) (R : hR) (y : Nat) (p q : Int32) : Prop := (M1 y 39).toInt = (M y 39).toInt + 1 ∧ (∀ j, M1 (R y 32) j = if j = (M y 39).toNatClampNeg then p else M (R y 32) j) ∧ ∀ j, M1 (R y 33) j = if j = (M y 39).toNatClampNeg then q else M (R y 33) j
def EM (M M1 : hM) (R : hR) (y : Nat) (p : Int32) : Prop := (M1 y 37).toInt = (M y 37).toInt + 1 ∧ ∀ j, M1 (R y 30) j = if j = (M y 37).toNatClampNeg then p else M (R y 30) j
/-- the other bank's code stays -/
def PC (M M1 : hM) (R : hR) (y : Nat) : Prop := M1 y 36 = M y 36 ∧ ∀ j : Nat, ¬ j / 560 = (M y 36).toNatClampNeg → M1 (R y 30) j = M (R y 30) j
section EXS
variable {σ : Nat → Option Nat} {M M1 M2 M3 M4 : hM} {R : hR} {y : Nat}
theorem PC_rf : PC M M R y := ⟨rfl, fun _ _ => rfl⟩
theorem PC_tr (h : PC M M1 R y) (h2 : PC M1 M2 R y) : PC M M2 R y := ⟨h2.1.trans h.1, fun j hj => (h2.2 j (by rw [h.1]; exact hj)).trans (h.2 j hj)⟩
theorem PC_ag (hTy : hT σ M3 R) (gy : σ y = some 9) (h : PC M M1 R y) (ha : hAd σ [(9, 36), (130, 999)] M1 M2) : PC M M2 R y := ⟨(ha y 9 36 gy rfl).trans h.1, fun j hj => (ha _ 130 j (hTy.r1 gy 30 130 (by decide) rfl) rfl).trans (h.2 j hj)⟩
theorem EX0_ag (hTy : hT σ M3 R) (gy : σ y = some 9) (h : EX0 M R y) (ha : hAd σ [(9, 36), (9, 37), (9, 38), (9, 39), (9, 40), (130, 999), (132, 999), (133, 999)] M M1) : EX0 M1 R y := by
  have r30 : M1 (R y 30) = M (R y 30) := funext fun j => ha _ 130 j (hTy.r1 gy 30 130 (by decide) rfl) rfl
  have r32 : M1 (R y 32) = M (R y 32) := funext fun j => ha _ 132 j (hTy.r1 gy 32 132 (by decide) rfl) rfl
  have r33 : M1 (R y 33) = M (R y 33) := funext fun j => ha _ 133 j (hTy.r1 gy 33 133 (by decide) rfl) rfl
  unfold EX0
  rw [r30, r32, r33, ha y 9 36 gy rfl, ha y 9 37 gy rfl, ha y 9 38 gy rfl, ha y 9 39 gy rfl, ha y 9 40 gy rfl]
  exact h
theorem EX1_ag (hTy : hT σ M3 R) (gy : σ y = some 9) (h : EX1 M R y) (ha : hAd σ [(9, 36), (9, 37), (9, 38), (9, 39), (9, 40), (130, 999), (132, 999), (133, 999)] M M1) : EX1 M1 R y := by
  have r30 : M1 (R y 30) = M (R y 30) := funext fun j => ha _ 130 j (hTy.r1 gy 30 130 (by decide) rfl) rfl
  have r32 : M1 (R y 32) = M (R y 32) := funext fun j => ha _ 132 j (hTy.r1 gy 32 132 (by decide) rfl) rfl
  have r33 : M1 (R y 33) = M (R y 33) := funext fun j => ha _ 133 j (hTy.r1 gy 33 133 (by decide) rfl) rfl
  unfold EX1
  rw [r30, r32, r33, ha y 9 36 gy rfl, ha y 9 37 gy rfl, ha y 9 38 gy rfl, ha y 9 39 gy rfl, ha y 9 40 gy rfl]
  exact h
theorem EX1_bd (h : EX1 M R y) : 1 ≤ (M y 39).toInt ∧ (M y 39).toInt ≤ 38 ∧ ((560 * (M y 36).toNatClampNeg : Nat) : Int) ≤ (M y 37).toInt ∧ (M y 37).toInt ≤ ((560 * (M y 36).toNatClampNeg : Nat) : Int) + 277 ∧ 0 ≤ (M y 38).toInt ∧ (M y 38).toInt ≤ 7 ∧ (M y 38).toInt ≤ (M y 39).toInt - 1 ∧ (M y 40).toInt ≤ 30 := EV_bd h (by omega) (by have := h.2.2.1; omega)
theorem EX0_bd (h : EX0 M R y) : 1 ≤ (M y 39).toInt ∧ (M y 39).toInt ≤ 38 ∧ ((560 * (M y 36).toNatClampNeg : Nat) : Int) ≤ (M y 37).toInt ∧ (M y 37).toInt ≤ ((560 * (M y 36).toNatClampNeg : Nat) : Int) + 277 ∧ 0 ≤ (M y 38).toInt ∧ (M y 38).toInt ≤ 7 ∧ (M y 38).toInt ≤ (M y 39).toInt - 1 ∧ (M y 40).toInt ≤ 30 := EV_bd h (by omega) (by omega)
/-- codes lies in the bank -/
def CB9 (M : hM) (y : Nat) : Prop := 560 * (M y 36).toInt ≤ (M y 37).toInt ∧ (M y 37).toInt < 560 * (M y 36).toInt + 560
theorem EX1_c (h : EX1 M R y) (i : iv (M y 36) 0 1) (h36 : M1 y 36 = M y 36) (h37 : M1 y 37 = M y 37) : CB9 M1 y := by
  have b := EX1_bd h
  have e := iv_nN i (by decide)
  unfold CB9
  rw [h36, h37]
  omega
theorem EX0_c (h : EX0 M R y) (i : iv (M y 36) 0 1) (h36 : M1 y 36 = M y 36) (h37 : M1 y 37 = M y 37) : CB9 M1 y := by
  have b := EX0_bd h
  have e := iv_nN i (by decide)
  unfold CB9
  rw [h36, h37]
  omega
theorem EX1_w {v : Int32} (h : EX1 M R y) (e : v = M y 38) : iv v 0 7 := by have b := EX1_bd h; rw [e]; exact ⟨by omega, by omega⟩
theorem EX0_w {v : Int32} (h : EX0 M R y) (e : v = M y 38) : iv v 0 7 := by have b := EX0_bd h; rw [e]; exact ⟨by omega, by omega⟩
theorem EX1_p {v : Int32} (h : EX1 M R y) (e : v = M y 39) : iv v 1 38 := by have b := EX1_bd h; rw [e]; exact ⟨by omega, by omega⟩
theorem EX0_p {v : Int32} (h : EX0 M R y) (e : v = M y 39) : iv v 1 38 := by have b := EX0_bd h; rw [e]; exact ⟨by omega, by omega⟩
theorem EX0_f {v k : Int32} (h : EX0 M R y) (e : v = M (R y 32) k.toNatClampNeg) (hk : iv k 0 89) (hl : k.toInt < (M y 39).toInt) : iv v 1 8 := by
  rw [e]
  have := iv_nN hk (by decide)
  exact EV_f h (by omega)
theorem EX0_top {v k : Int32} {a b : Int} (h : EX0 M R y) (e : v = M (R y 32) k.toNatClampNeg) (hk : iv k 0 89) (hl : k.toInt < (M y 39).toInt) (hv : iv v a b) (hb : b ≤ 7) : iv k 1 89 := by
  have q := iv_nN hk (by decide)
  rw [e] at hv
  have := EV_top h (k := k.toNatClampNeg) (by omega) hv hb
  exact ⟨by omega, hk.2⟩
theorem EX1_start (h36 : M1 y 36 = M y 36) (h37 : M1 y 37 = M y 37) (h40 : M1 y 40 = M y 40) (i : iv (M y 36) 0 1) (hc : (M y 37).toInt = 560 * (M y 36).toInt) (hu : M y 40 = 0) (h38 : M1 y 38 = 0) (h39 : (M1 y 39).toInt = 1) (f0 : M1 (R y 32) 0 = 8) : EX1 M1 R y := by
  unfold EX1
  have e := iv_nN i (by decide)
  rw [h36, h37, h38, h39, h40, hu, show (M y 37).toInt = ((560 * (M y 36).toNatClampNeg : Nat) : Int) by omega]
  exact EV_start f0
theorem EX1_push {q : Int32} {t : Int} (h : EX1 M R y) (h36 : M1 y 36 = M y 36) (h37 : M1 y 37 = M y 37) (r30 : M1 (R y 30) = M (R y 30)) (h38 : (M1 y 38).toInt = (M y 38).toInt + 1) (h40 : (M1 y 40).toInt = (M y 40).toInt + t) (h39 : (M1 y 39).toInt = (M y 39).toInt + 1) (f32 : ∀ j, M1 (R y 32) j = if j = (M y 39).toNatClampNeg then q else M (R y 32) j) (f33 : ∀ j, M1 (R y 33) j = if j = (M y 39).toNatClampNeg then 126 else M (R y 33) j) (hq : (q = 3 ∧ t = 0) ∨ (q = 7 ∧ t = 1)) (hW : (M y 38).toInt ≤ 6) (hU : (M y 40).toInt + t ≤ 30) : EX1 M1 R y := by
  unfold EX1 at h ⊢
  rw [h36, h37, r30, h38, h39, h40]
  exact EV_push h f32 f33 hq hW hU
theorem EX1_let {q : Int32} (h : EX1 M R y) (h36 : M1 y 36 = M y 36) (h38 : M1 y 38 = M y 38) (h39 : M1 y 39 = M y 39) (r32 : M1 (R y 32) = M (R y 32)) (r33 : M1 (R y 33) = M (R y 33)) (h40 : (M1 y 40).toInt = (M y 40).toInt + 1) (h37 : (M1 y 37).toInt = (M y 37).toInt + 1) (f30 : ∀ j, M1 (R y 30) j = if j = (M y 37).toNatClampNeg then q else M (R y 30) j) (hq : iv q 97 122) (hU : (M y 40).toInt + 1 ≤ 30) : EX0 M1 R y := by
  unfold EX1 at h
  unfold EX0
  rw [h36, h38, h39, r32, r33, h40, h37]
  exact EV_let h f30 hq hU
theorem EX0_pop {z k : Int32} (h : EX0 M R y) (h36 : M1 y 36 = M y 36) (h40 : M1 y 40 = M y 40) (r32 : M1 (R y 32) = M (R y 32)) (r33 : M1 (R y 33) = M (R y 33)) (hk : k.toInt = (M y 39).toInt + -1) (h39 : M1 y 39 = k) (h37 : (M1 y 37).toInt = (M y 37).toInt + 1) (f30 : ∀ j, M1 (R y 30) j = if j = (M y 37).toNatClampNeg then z else M (R y 30) j) (hz : z = M (R y 33) k.toNatClampNeg) (hf : iv (M (R y 32) k.toNatClampNeg) 1 6) (h38 : (M1 y 38).toInt = (M y 38).toInt - (if M (R y 32) k.toNatClampNeg = 3 then 1 else 0)) : EX0 M1 R y := by
  unfold EX0 at h ⊢
  have ek : k.toNatClampNeg = ((M y 39).toInt - 1).toNat := by
    have : k.toNatClampNeg = k.toInt.toNat := rfl
    rw [this, hk]
    rfl
  rw [ek] at hz hf h38
  rw [h36, h40, r32, r33, h39, hk, h37]
  rw [hz] at f30
  exact EV_pop h f30 hf h38
theorem EX0_rank {q z : Int32} (h : EX0 M R y) (h36 : M1 y 36 = M y 36) (h37 : M1 y 37 = M y 37) (h38 : M1 y 38 = M y 38) (h40 : M1 y 40 = M y 40) (r30 : M1 (R y 30) = M (R y 30)) (hp : PE M M1 R y q z) (hq : iv q 1 6) (q3 : ¬ q = 3) (hz : ¬ z = 126 ∧ ¬ iv z 97 122) : EX1 M1 R y := by
  unfold EX0 at h
  unfold EX1
  rw [h36, h37, h38, h40, r30, hp.1]
  exact EV_rank h hp.2.1 hp.2.2 hq q3 hz
theorem EX0_close {k : Int32} (h : EX0 M R y) (h36 : M1 y 36 = M y 36) (h37 : M1 y 37 = M y 37) (h40 : M1 y 40 = M y 40) (r30 : M1 (R y 30) = M (R y 30)) (r32 : M1 (R y 32) = M (R y 32)) (r33 : M1 (R y 33) = M (R y 33)) (hk : k.toInt = (M y 39).toInt + -1) (h39 : M1 y 39 = k) (hf : M (R y 32) k.toNatClampNeg = 7) (h38 : (M1 y 38).toInt = (M y 38).toInt + -1) : EX0 M1 R y := by
  unfold EX0 at h ⊢
  have ek : k.toNatClampNeg = ((M y 39).toInt - 1).toNat := by
    have : k.toNatClampNeg = k.toInt.toNat := rfl
    rw [this, hk]
    rfl
  rw [ek] at hf
  rw [h36, h37, h40, r30, r32, r33, h39, hk, h38]
  exact EV_close h hf
theorem EX0_end {k : Int32} (h : EX0 M R y) (i : iv (M y 36) 0 1) (h36 : M1 y 36 = M y 36) (h37 : M1 y 37 = M y 37) (r30 : M1 (R y 30) = M (R y 30)) (hk : k.toInt = (M y 39).toInt + -1) (h39 : M1 y 39 = k) (hf : M (R y 32) k.toNatClampNeg = 8) : M1 y 39 = 0 ∧ OE M1 R y := by
  have ek : k.toNatClampNeg = ((M y 39).toInt - 1).toNat := by
    have : k.toNatClampNeg = k.toInt.toNat := rfl
    rw [this, hk]
    rfl
  rw [ek] at hf
  obtain ⟨h1, h2, h3, h4⟩ := EV_end h hf
  have e := iv_nN i (by decide)
  refine ⟨?_, ?_⟩
  · rw [h39]
    apply Int32.toInt_inj.mp
    rw [hk, h1]
    decide
  · unfold OE
    rw [h36, h37, r30]
    exact ⟨by omega, by omega, h4⟩
theorem EM_of {a30 a31 k : Nat} {p q v c : Int32} (gy : σ y = some 9) (hTy : hT σ M4 R) (e1 : M1 = u2 M a30 k p) (e2 : M2 = u2 M1 a31 k q) (e3 : M3 = u2 M2 y 37 v) (h30 : a30 = R y 30) (h31 : a31 = R y 31) (ec : c = M y 37) (hk : k = c.toNatClampNeg) (hv : v.toInt = c.toInt + 1) (hc : CB9 M y) (i : iv (M y 36) 0 1) : EM M M3 R y p ∧ PC M M3 R y := by
  subst h30
  subst h31
  have g30 := hTy.r1 gy 30 130 (by decide) rfl
  have g31 := hTy.r1 gy 31 131 (by decide) rfl
  have n1 : R y 30 ≠ R y 31 := so_ne g30 g31 (by decide)
  have n2 : R y 30 ≠ y := so_ne g30 gy (by decide)
  have n3 : R y 31 ≠ y := so_ne g31 gy (by decide)
  have f : ∀ j, M3 (R y 30) j = if j = k then p else M (R y 30) j := fun j => by
    rw [e3, u2_a n2, e2, u2_a n1, e1]
    by_cases z : j = k
    · rw [if_pos z, z, u2_s]
    · rw [if_neg z, u2_k z]
  have e36 : M3 y 36 = M y 36 := by rw [e3, u2_k (by decide), e2, u2_a (Ne.symm n3), e1, u2_a (Ne.symm n2)]
  refine ⟨⟨?_, fun j => ?_⟩, e36, fun j hj => ?_⟩
  · rw [e3, u2_s, hv, ec]
  · rw [f, hk, ec]
  · rw [f, if_neg]
    intro z
    unfold CB9 at hc
    have e := iv_nN i (by decide)
    have e2 : k = (M y 37).toInt.toNat := by rw [hk, ec]; rfl
    apply hj
    rw [z]
    omega
theorem PE_of {a32 a33 k : Nat} {p q v c : Int32} (gy : σ y = some 9) (hTy : hT σ M4 R) (e1 : M1 = u2 M a32 k p) (e2 : M2 = u2 M1 a33 k q) (e3 : M3 = u2 M2 y 39 v) (h32 : a32 = R y 32) (h33 : a33 = R y 33) (ec : c = M y 39) (hk : k = c.toNatClampNeg) (hv : v.toInt = c.toInt + 1) : PE M M3 R y p q := by
  subst h32
  subst h33
  have g32 := hTy.r1 gy 32 132 (by decide) rfl
  have g33 := hTy.r1 gy 33 133 (by decide) rfl
  have n1 : R y 32 ≠ R y 33 := so_ne g32 g33 (by decide)
  have n2 : R y 32 ≠ y := so_ne g32 gy (by decide)
  have n3 : R y 33 ≠ y := so_ne g33 gy (by decide)
  refine ⟨?_, fun j => ?_, fun j => ?_⟩
  · rw [e3, u2_s, hv, ec]
  · rw [e3, u2_a n2, e2, u2_a n1, e1]
    by_cases z : j = k
    · rw [if_pos (by rw [z, hk, ec]), z, u2_s]
    · rw [if_neg (by rw [← ec, ← hk]; exact z), u2_k z]
  · rw [e3, u2_a n3, e2]
    by_cases z : j = k
    · rw [if_pos (by rw [z, hk, ec]), z, u2_s]
    · rw [if_neg (by rw [← ec, ← hk]; exact z), u2_k z, e1, u2_a (Ne.symm n1)]
end EXS
/-! how far: the fault ends it -/
theorem nu_nn {M : hM} {y : Nat} (h : PI M y) : 0 ≤ nu M y := by
  unfold PI at h
  unfold nu
  by_cases z : M y 8 = 0
  · rw [if_pos z]; omega
  · rw [if_neg z]; omega
theorem nu_eq {M M1 : hM} {y : Nat} (h3 : M1 y 3 = M y 3) (h7 : M1 y 7 = M y 7) (h8 : M1 y 8 = M y 8) : nu M1 y = nu M y := by unfold nu; rw [h3, h7, h8]
def gm (M : hM) (y : Nat) : Int := if M y 4 = 0 then 100 * nu M y + (M y 39).toInt + 1 else 0
def gn (M : hM) (y : Nat) : Int := if M y 4 = 0 then nu M y + 1 else 0
theorem gm_lt {M M1 : hM} {y : Nat} (hg : M y 4 = 0) (hp : PI M y) (i : iv (M y 39) 0 90) (h : M1 y 4 = 0 → 100 * nu M1 y + (M1 y 39).toInt < 100 * nu M y + (M y 39).toInt) : gm M1 y < gm M y := by
  have n := nu_nn hp
  have i1 := i.1
  unfold gm
  rw [if_pos hg]
  by_cases z : M1 y 4 = 0
  · rw [if_pos z]; have := h z; omega
  · rw [if_neg z]; omega
theorem gn_lt {M M1 : hM} {y : Nat} (hg : M y 4 = 0) (hp : PI M y) (h : M1 y 4 = 0 → nu M1 y < nu M y) : gn M1 y < gn M y := by
  have n := nu_nn hp
  unfold gn
  rw [if_pos hg]
  by_cases z : M1 y 4 = 0
  · rw [if_pos z]; have := h z; omega
  · rw [if_neg z]; omega
theorem gm_nn {M : hM} {y : Nat} (hp : PI M y) (i : iv (M y 39) 0 90) : 0 ≤ gm M y := by
  have n := nu_nn hp
  have i1 := i.1
  unfold gm
  by_cases z : M y 4 = 0
  · rw [if_pos z]; omega
  · rw [if_neg z]; omega
theorem gn_nn {M : hM} {y : Nat} (hp : PI M y) : 0 ≤ gn M y := by
  have n := nu_nn hp
  unfold gn
  by_cases z : M y 4 = 0
  · rw [if_pos z]; omega
  · rw [if_neg z]; omega
/-! what rankHere finds -/
def RK (M : hM) (R : hR) (y : Nat) (r : Int32) : Prop := ¬ r = 3 ∧ (¬ r = 0 → M y 8 = 3 ∨ M y 8 = 5) ∧ (4 ≤ r.toInt → iv (SG M R y (M y 6)) 37 62)
theorem RK_ag {σ : Nat → Option Nat} {M M1 M3 : hM} {R : hR} {y : Nat} {r : Int32} (hTy : hT σ M3 R) (gy : σ y = some 9) (h : RK M R y r) (ha : hAd σ [(9, 3), (9, 6), (9, 8), (101, 999)] M M1) : RK M1 R y r := by
  unfold RK
  rw [ha y 9 8 gy rfl, ha y 9 6 gy rfl, SG_ag hTy gy (ha.sub (by decide))]
  exact h
theorem RK_4 {M : hM} {R : hR} {y : Nat} {r : Int32} (h : RK M R y r) (i : iv r 2 6) (h2 : ¬ r = 2) : iv (SG M R y (M y 6)) 37 62 := by
  refine h.2.2 ?_
  have h3 := h.1
  have a : r.toInt ≠ 2 := fun q => h2 (Int32.toInt_inj.mp (q.trans (by decide)))
  have b : r.toInt ≠ 3 := fun q => h3 (Int32.toInt_inj.mp (q.trans (by decide)))
  have := i.1
  omega
theorem sg_ok {z : Int32} (h : iv z 37 62) : ¬ z = 126 ∧ ¬ iv z 97 122 := ⟨iv_ne (c := 126) (d := 126) h ⟨by decide, by decide⟩ (by omega), fun q => by have := h.2; have := q.1; omega⟩
/-! the other bank stays -/
def PBx (M0 M : hM) (R : hR) (y : Nat) : Prop := M y 35 = M0 y 35 ∧ M y 50 = M0 y 50 ∧ M y 51 = M0 y 51 ∧ M (R y 11) (bk M0 y) = M0 (R y 11) (bk M0 y) ∧ M (R y 17) (bk M0 y) = M0 (R y 17) (bk M0 y) ∧ (∀ j, j / 6 = bk M0 y → M (R y 19) j = M0 (R y 19) j) ∧ M (R y 25) (bk M0 y) = M0 (R y 25) (bk M0 y) ∧ M (R y 26) (bk M0 y) = M0 (R y 26) (bk M0 y) ∧ (∀ j, j / 560 = bk M0 y → M (R y 30) j = M0 (R y 30) j) ∧ M (R y 45) = M0 (R y 45) ∧ M (R y 49) = M0 (R y 49) ∧ M (R y 65) = M0 (R y 65) ∧ M (R y 66) = M0 (R y 66)
section PBXS
variable {σ : Nat → Option Nat} {M M1 M2 M3 : hM} {R : hR} {y : Nat}
theorem PBx_rf : PBx M M R y := ⟨rfl, rfl, rfl, rfl, rfl, fun _ _ => rfl, rfl, rfl, fun _ _ => rfl, rfl, rfl, rfl, rfl⟩
theorem PBx_tr (h : PBx M M1 R y) (k : PBx M1 M2 R y) : PBx M M2 R y := by
  obtain ⟨a1, a2, a3, a4, a5, a6, a7, a8, a9, b1, b2, b3, b4⟩ := h
  unfold PBx at k
  rw [show bk M1 y = bk M y by rw [bk, a1]] at k
  obtain ⟨c1, c2, c3, c4, c5, c6, c7, c8, c9, d1, d2, d3, d4⟩ := k
  exact ⟨c1.trans a1, c2.trans a2, c3.trans a3, c4.trans a4, c5.trans a5, fun j q => (c6 j q).trans (a6 j q), c7.trans a7, c8.trans a8, fun j q => (c9 j q).trans (a9 j q), d1.trans b1, d2.trans b2, d3.trans b3, d4.trans b4⟩
theorem PBx_ag (hTy : hT σ M3 R) (gy : σ y = some 9) (h : PBx M M1 R y) (ha : hAd σ [(9, 35), (9, 50), (9, 51), (111, 999), (117, 999), (119, 999), (125, 999), (126, 999), (130, 999), (145, 999), (149, 999), (165, 999), (166, 999)] M1 M2) : PBx M M2 R y := by
  have g11 := hTy.r1 gy 11 111 (by decide) rfl
  have g17 := hTy.r1 gy 17 117 (by decide) rfl
  have g19 := hTy.r1 gy 19 119 (by decide) rfl
  have g25 := hTy.r1 gy 25 125 (by decide) rfl
  have g26 := hTy.r1 gy 26 126 (by decide) rfl
  have g30 := hTy.r1 gy 30 130 (by decide) rfl
  have g45 := hTy.r1 gy 45 145 (by decide) rfl
  have g49 := hTy.r1 gy 49 149 (by decide) rfl
  have g65 := hTy.r1 gy 65 165 (by decide) rfl
  have g66 := hTy.r1 gy 66 166 (by decide) rfl
  obtain ⟨a1, a2, a3, a4, a5, a6, a7, a8, a9, b1, b2, b3, b4⟩ := h
  exact ⟨(ha y 9 35 gy rfl).trans a1, (ha y 9 50 gy rfl).trans a2, (ha y 9 51 gy rfl).trans a3, (ha _ 111 _ g11 rfl).trans a4, (ha _ 117 _ g17 rfl).trans a5, fun j q => (ha _ 119 j g19 rfl).trans (a6 j q), (ha _ 125 _ g25 rfl).trans a7, (ha _ 126 _ g26 rfl).trans a8, fun j q => (ha _ 130 j g30 rfl).trans (a9 j q), (funext fun j => ha _ 145 j g45 rfl).trans b1, (funext fun j => ha _ 149 j g49 rfl).trans b2, (funext fun j => ha _ 165 j g65 rfl).trans b3, (funext fun j => ha _ 166 j g66 rfl).trans b4⟩
theorem PBx_put {a j so : Nat} {v : Int32} (hTy : hT σ M3 R) (gy : σ y = some 9) (h : PBx M M1 R y) (e : M2 = u2 M1 a j v) (ga : σ a = some so) (hso : ((so = 111 ∨ so = 117 ∨ so = 125 ∨ so = 126) ∧ j ≠ bk M y) ∨ (so = 119 ∧ j / 6 ≠ bk M y)) : PBx M M2 R y := by
  have key : ∀ b s i, σ b = some s → (s = so → i ≠ j) → M2 b i = M1 b i := fun b s i gb hi => by
    rw [e]
    exact u2_n (fun q => by
      obtain ⟨q1, q2⟩ := q
      subst q1
      exact hi (Option.some.inj (gb.symm.trans ga)) q2)
  have g11 := hTy.r1 gy 11 111 (by decide) rfl
  have g17 := hTy.r1 gy 17 117 (by decide) rfl
  have g19 := hTy.r1 gy 19 119 (by decide) rfl
  have g25 := hTy.r1 gy 25 125 (by decide) rfl
  have g26 := hTy.r1 gy 26 126 (by decide) rfl
  have g30 := hTy.r1 gy 30 130 (by decide) rfl
  have g45 := hTy.r1 gy 45 145 (by decide) rfl
  have g49 := hTy.r1 gy 49 149 (by decide) rfl
  have g65 := hTy.r1 gy 65 165 (by decide) rfl
  have g66 := hTy.r1 gy 66 166 (by decide) rfl
  obtain ⟨a1, a2, a3, a4, a5, a6, a7, a8, a9, b1, b2, b3, b4⟩ := h
  exact ⟨(key y 9 _ gy (by omega)).trans a1, (key y 9 _ gy (by omega)).trans a2, (key y 9 _ gy (by omega)).trans a3, (key _ 111 _ g11 (by omega)).trans a4, (key _ 117 _ g17 (by omega)).trans a5, fun i q => (key _ 119 i g19 (by intro q1 q2; subst q2; omega)).trans (a6 i q), (key _ 125 _ g25 (by omega)).trans a7, (key _ 126 _ g26 (by omega)).trans a8, fun i q => (key _ 130 i g30 (by omega)).trans (a9 i q), (funext fun i => key _ 145 i g45 (by omega)).trans b1, (funext fun i => key _ 149 i g49 (by omega)).trans b2, (funext fun i => key _ 165 i g65 (by omega)).trans b3, (funext fun i => key _ 166 i g66 (by omega)).trans b4⟩
/-- through the rule: only the code changes -/
theorem PBx_pc (hTy : hT σ M3 R) (gy : σ y = some 9) (h : PBx M M1 R y) (hp : PC M1 M2 R y) (hr : ¬ (M1 y 36).toNatClampNeg = bk M y) (ha : hAd σ [(9, 35), (9, 50), (9, 51), (111, 999), (117, 999), (119, 999), (125, 999), (126, 999), (145, 999), (149, 999), (165, 999), (166, 999)] M1 M2) : PBx M M2 R y := by
  have g11 := hTy.r1 gy 11 111 (by decide) rfl
  have g17 := hTy.r1 gy 17 117 (by decide) rfl
  have g19 := hTy.r1 gy 19 119 (by decide) rfl
  have g25 := hTy.r1 gy 25 125 (by decide) rfl
  have g26 := hTy.r1 gy 26 126 (by decide) rfl
  have g45 := hTy.r1 gy 45 145 (by decide) rfl
  have g49 := hTy.r1 gy 49 149 (by decide) rfl
  have g65 := hTy.r1 gy 65 165 (by decide) rfl
  have g66 := hTy.r1 gy 66 166 (by decide) rfl
  obtain ⟨a1, a2, a3, a4, a5, a6, a7, a8, a9, b1, b2, b3, b4⟩ := h
  exact ⟨(ha y 9 35 gy rfl).trans a1, (ha y 9 50 gy rfl).trans a2, (ha y 9 51 gy rfl).trans a3, (ha _ 111 _ g11 rfl).trans a4, (ha _ 117 _ g17 rfl).trans a5, fun j q => (ha _ 119 j g19 rfl).trans (a6 j q), (ha _ 125 _ g25 rfl).trans a7, (ha _ 126 _ g26 rfl).trans a8, fun j q => (hp.2 j (fun z => hr (by rw [← z, q]))).trans (a9 j q), (funext fun j => ha _ 145 j g45 rfl).trans b1, (funext fun j => ha _ 149 j g49 rfl).trans b2, (funext fun j => ha _ 165 j g65 rfl).trans b3, (funext fun j => ha _ 166 j g66 rfl).trans b4⟩
theorem KV_px (h : KV M R y) (p : PBx M M1 R y) : KV M1 R y := by
  obtain ⟨a1, a2, a3, a4, a5, a6, a7, a8, a9, b1, b2, b3, b4⟩ := p
  have e : bk M1 y = bk M y := by rw [bk, a1]
  intro r hr
  rw [e, b1, a4]
  exact h r hr
theorem HV_px (hTy : hT σ M R) (gy : σ y = some 9) (h : HV M R y) (p : PBx M M1 R y) : HV M1 R y := by
  obtain ⟨a1, a2, a3, a4, a5, a6, a7, a8, a9, b1, b2, b3, b4⟩ := p
  have g11 := hTy.r1 gy 11 111 (by decide) rfl
  have i35 : iv (M y 35) 0 1 := hTy.1 y 9 gy 35 (by decide)
  have hb := iv_nat2 i35 (by decide) (d := 2) (by decide)
  have i11 : iv (M (R y 11) (bk M y)) 0 6 := hTy.1 _ 111 g11 (bk M y) hb
  intro c hc
  have e : bk M1 y = bk M y := by rw [bk, a1]
  rw [e] at hc ⊢
  rw [a4] at hc
  have hc6 : c < 6 := by have := i11.2; omega
  rw [a6 _ (by omega)]
  exact h c hc
theorem CW_px (h : CW M R y) (p : PBx M M1 R y) : CW M1 R y := by
  obtain ⟨a1, a2, a3, a4, a5, a6, a7, a8, a9, b1, b2, b3, b4⟩ := p
  have e : bk M1 y = bk M y := by rw [bk, a1]
  intro hc
  unfold CWo
  rw [e] at hc ⊢
  rw [a5] at hc
  exact CWb_ag (b := bk M y) a7 a8 a9 (h hc)
theorem WV_px (h : WV M R y) (p : PBx M M1 R y) : WV M1 R y := by
  obtain ⟨a1, a2, a3, a4, a5, a6, a7, a8, a9, b1, b2, b3, b4⟩ := p
  have e : bk M1 y = bk M y := by rw [bk, a1]
  refine ⟨fun i hi r hr => ?_, by rw [a2, a3]; exact h.2⟩
  rw [a2, a3] at hi
  rw [e, b2, a4]
  exact h.1 i hi r hr
theorem BV_px (h : BV M R y) (p : PBx M M1 R y) : BV M1 R y := by
  obtain ⟨a1, a2, a3, a4, a5, a6, a7, a8, a9, b1, b2, b3, b4⟩ := p
  have e : bk M1 y = bk M y := by rw [bk, a1]
  intro c hc h0 r hr
  rw [b4] at h0
  rw [e, b3, a4]
  exact h c hc h0 r hr
end PBXS
/-! the bank that is read into -/
def PH (M : hM) (R : hR) (y : Nat) : Prop := PG M R y ∧ (¬ Bt (M (R y 17) (rbN M y)) 0 → (M y 37).toInt = 560 * (M y 36).toInt)
section PHS
variable {σ : Nat → Option Nat} {M M1 M2 M3 : hM} {R : hR} {y : Nat}
theorem PG_c (hTy : hT σ M3 R) (gy : σ y = some 9) (h : PG M R y) (hf : M1 y 4 = 0 → M y 4 = 0) (ha : hAd σ [(9, 36), (111, 999), (112, 999), (117, 999), (119, 999), (120, 999), (125, 999), (126, 999), (130, 999)] M M1) : PG M1 R y := by
  have g11 := hTy.r1 gy 11 111 (by decide) rfl
  have g12 := hTy.r1 gy 12 112 (by decide) rfl
  have g17 := hTy.r1 gy 17 117 (by decide) rfl
  have g19 := hTy.r1 gy 19 119 (by decide) rfl
  have g20 := hTy.r1 gy 20 120 (by decide) rfl
  have g25 := hTy.r1 gy 25 125 (by decide) rfl
  have g26 := hTy.r1 gy 26 126 (by decide) rfl
  have g30 := hTy.r1 gy 30 130 (by decide) rfl
  intro h4
  obtain ⟨q1, q2, q3⟩ := h (hf h4)
  have e36 : rbN M1 y = rbN M y := by rw [rbN, ha y 9 36 gy rfl]
  rw [e36]
  refine ⟨fun c hc => ?_, fun r hr => ?_, fun hc => ?_⟩
  · rw [ha _ 111 _ g11 rfl] at hc
    rw [ha _ 119 _ g19 rfl]
    exact q1 c hc
  · rw [ha _ 112 _ g12 rfl] at hr
    rw [ha _ 120 _ g20 rfl, ha _ 111 _ g11 rfl]
    exact q2 r hr
  · rw [ha _ 117 _ g17 rfl] at hc
    exact CWb_ag (ha _ 125 _ g25 rfl) (ha _ 126 _ g26 rfl) (fun j _ => ha _ 130 j g30 rfl) (q3 hc)
theorem PH_call (hTy : hT σ M3 R) (gy : σ y = some 9) (h : PH M R y) (hf : M1 y 4 = 0 → M y 4 = 0) (ha : hAd σ [(9, 36), (9, 37), (111, 999), (112, 999), (117, 999), (119, 999), (120, 999), (125, 999), (126, 999), (130, 999)] M M1) : PH M1 R y := by
  refine ⟨PG_c hTy gy h.1 hf (ha.sub (by decide)), ?_⟩
  have g17 := hTy.r1 gy 17 117 (by decide) rfl
  rw [rbN, ha y 9 36 gy rfl, ha _ 117 _ g17 rfl, ha y 9 37 gy rfl]
  exact h.2
theorem PH_ag (hTy : hT σ M3 R) (gy : σ y = some 9) (h : PH M R y) (ha : hAd σ [(9, 4), (9, 36), (9, 37), (111, 999), (112, 999), (117, 999), (119, 999), (120, 999), (125, 999), (126, 999), (130, 999)] M M1) : PH M1 R y := PH_call hTy gy h (fun q => by rw [← ha y 9 4 gy rfl]; exact q) (ha.sub (by decide))
theorem PH_cat {i n : Nat} {v v2 : Int32} (hTy : hT σ M3 R) (gy : σ y = some 9) (h : PH M R y) (e1 : M1 = u2 M (R y 19) i v) (hi : i = 6 * rbN M y + n) (hn : (n : Int) = (M (R y 11) (rbN M y)).toInt) (e2 : M2 = u2 M1 (R y 11) (rbN M y) v2) (hv2 : v2.toInt = (n : Int) + 1) (hv : M y 4 = 0 → v.toInt < (n : Int)) : PH M2 R y := by
  have g11 := hTy.r1 gy 11 111 (by decide) rfl
  have g12 := hTy.r1 gy 12 112 (by decide) rfl
  have g17 := hTy.r1 gy 17 117 (by decide) rfl
  have g19 := hTy.r1 gy 19 119 (by decide) rfl
  have g20 := hTy.r1 gy 20 120 (by decide) rfl
  have g25 := hTy.r1 gy 25 125 (by decide) rfl
  have g26 := hTy.r1 gy 26 126 (by decide) rfl
  have g30 := hTy.r1 gy 30 130 (by decide) rfl
  have key : ∀ b s k, σ b = some s → s ≠ 119 → s ≠ 111 → M2 b k = M b k := fun b s k gb s1 s2 => by rw [e2, u2_a (so_ne gb g11 s2), e1, u2_a (so_ne gb g19 s1)]
  have e36 : rbN M2 y = rbN M y := by rw [rbN, key y 9 36 gy (by decide) (by decide)]
  have c2 : M2 (R y 11) (rbN M y) = v2 := by rw [e2, u2_s]
  have hh : ∀ k, M2 (R y 19) k = if k = i then v else M (R y 19) k := fun k => by
    rw [e2, u2_a (so_ne g19 g11 (by decide)), e1]
    by_cases z : k = i
    · rw [if_pos z, z, u2_s]
    · rw [if_neg z, u2_k z]
  refine ⟨fun h4 => ?_, ?_⟩
  · rw [key y 9 4 gy (by decide) (by decide)] at h4
    obtain ⟨q1, q2, q3⟩ := h.1 h4
    have hv := hv h4
    rw [e36]
    refine ⟨fun c hc => ?_, fun r hr => ?_, fun hc => ?_⟩
    · rw [c2] at hc
      rw [hh]
      by_cases z : c = n
      · rw [if_pos (by omega), z]; exact hv
      · rw [if_neg (by omega)]; exact q1 c (by omega)
    · rw [key _ 112 _ g12 (by decide) (by decide)] at hr
      rw [key _ 120 _ g20 (by decide) (by decide), c2]
      have := q2 r hr
      omega
    · rw [key _ 117 _ g17 (by decide) (by decide)] at hc
      exact CWb_ag (key _ 125 _ g25 (by decide) (by decide)) (key _ 126 _ g26 (by decide) (by decide)) (fun j _ => key _ 130 j g30 (by decide) (by decide)) (q3 hc)
  · rw [e36, key _ 117 _ g17 (by decide) (by decide), key y 9 37 gy (by decide) (by decide), key y 9 36 gy (by decide) (by decide)]
    exact h.2
theorem PH_room {i n : Nat} {v v2 : Int32} (hTy : hT σ M3 R) (gy : σ y = some 9) (h : PH M R y) (e1 : M1 = u2 M (R y 20) i v) (hi : i = 8 * rbN M y + n) (hn : (n : Int) = (M (R y 12) (rbN M y)).toInt) (e2 : M2 = u2 M1 (R y 12) (rbN M y) v2) (hv2 : v2.toInt = (n : Int) + 1) (hv : M y 4 = 0 → v.toInt < (M (R y 11) (rbN M y)).toInt) : PH M2 R y := by
  have g11 := hTy.r1 gy 11 111 (by decide) rfl
  have g12 := hTy.r1 gy 12 112 (by decide) rfl
  have g17 := hTy.r1 gy 17 117 (by decide) rfl
  have g19 := hTy.r1 gy 19 119 (by decide) rfl
  have g20 := hTy.r1 gy 20 120 (by decide) rfl
  have g25 := hTy.r1 gy 25 125 (by decide) rfl
  have g26 := hTy.r1 gy 26 126 (by decide) rfl
  have g30 := hTy.r1 gy 30 130 (by decide) rfl
  have key : ∀ b s k, σ b = some s → s ≠ 120 → s ≠ 112 → M2 b k = M b k := fun b s k gb s1 s2 => by rw [e2, u2_a (so_ne gb g12 s2), e1, u2_a (so_ne gb g20 s1)]
  have e36 : rbN M2 y = rbN M y := by rw [rbN, key y 9 36 gy (by decide) (by decide)]
  have c2 : M2 (R y 12) (rbN M y) = v2 := by rw [e2, u2_s]
  have hh : ∀ k, M2 (R y 20) k = if k = i then v else M (R y 20) k := fun k => by
    rw [e2, u2_a (so_ne g20 g12 (by decide)), e1]
    by_cases z : k = i
    · rw [if_pos z, z, u2_s]
    · rw [if_neg z, u2_k z]
  refine ⟨fun h4 => ?_, ?_⟩
  · rw [key y 9 4 gy (by decide) (by decide)] at h4
    obtain ⟨q1, q2, q3⟩ := h.1 h4
    have hv := hv h4
    rw [e36]
    refine ⟨fun c hc => ?_, fun r hr => ?_, fun hc => ?_⟩
    · rw [key _ 111 _ g11 (by decide) (by decide)] at hc
      rw [key _ 119 _ g19 (by decide) (by decide)]
      exact q1 c hc
    · rw [c2] at hr
      rw [hh, key _ 111 _ g11 (by decide) (by decide)]
      by_cases z : r = n
      · rw [if_pos (by omega)]; exact hv
      · rw [if_neg (by omega)]; exact q2 r (by omega)
    · rw [key _ 117 _ g17 (by decide) (by decide)] at hc
      exact CWb_ag (key _ 125 _ g25 (by decide) (by decide)) (key _ 126 _ g26 (by decide) (by decide)) (fun j _ => key _ 130 j g30 (by decide) (by decide)) (q3 hc)
  · rw [e36, key _ 117 _ g17 (by decide) (by decide), key y 9 37 gy (by decide) (by decide), key y 9 36 gy (by decide) (by decide)]
    exact h.2
theorem Bt_24 {v w c : Int32} (e : v = w ||| c) (hc : c = 2 ∨ c = 4) : Bt v 0 → Bt w 0 := by
  have k0 : iv (0 : Int32) 0 0 := ⟨by decide, by decide⟩
  rw [Bt_iff k0 (by decide), Bt_iff k0 (by decide), e, b_or]
  intro h
  have z : bt c (0 : Int32).toNatClampNeg = false := by
    rcases hc with rfl | rfl <;> decide
  rw [z, Bool.or_false] at h
  exact h
theorem Bt_24' {v w c : Int32} (e : v = w ||| c) : Bt w 0 → Bt v 0 := by
  have k0 : iv (0 : Int32) 0 0 := ⟨by decide, by decide⟩
  rw [Bt_iff k0 (by decide), Bt_iff k0 (by decide), e, b_or]
  intro h
  rw [h, Bool.true_or]
theorem Bt_1 {v w : Int32} (e : v = w ||| 1) : Bt v 0 := by
  have k0 : iv (0 : Int32) 0 0 := ⟨by decide, by decide⟩
  rw [Bt_iff k0 (by decide), e, b_or]
  rw [show bt 1 (0 : Int32).toNatClampNeg = true by decide, Bool.or_true]
theorem PH_told {v w c : Int32} (hTy : hT σ M3 R) (gy : σ y = some 9) (h : PH M R y) (e1 : M1 = u2 M (R y 17) (rbN M y) v) (ev : v = w ||| c) (hc : c = 2 ∨ c = 4) (ew : w = M (R y 17) (rbN M y)) : PH M1 R y := by
  have g11 := hTy.r1 gy 11 111 (by decide) rfl
  have g12 := hTy.r1 gy 12 112 (by decide) rfl
  have g17 := hTy.r1 gy 17 117 (by decide) rfl
  have g19 := hTy.r1 gy 19 119 (by decide) rfl
  have g20 := hTy.r1 gy 20 120 (by decide) rfl
  have g25 := hTy.r1 gy 25 125 (by decide) rfl
  have g26 := hTy.r1 gy 26 126 (by decide) rfl
  have g30 := hTy.r1 gy 30 130 (by decide) rfl
  have key : ∀ b s k, σ b = some s → s ≠ 117 → M1 b k = M b k := fun b s k gb s1 => by rw [e1, u2_a (so_ne gb g17 s1)]
  have e36 : rbN M1 y = rbN M y := by rw [rbN, key y 9 36 gy (by decide)]
  have c2 : M1 (R y 17) (rbN M y) = v := by rw [e1, u2_s]
  refine ⟨fun h4 => ?_, ?_⟩
  · rw [key y 9 4 gy (by decide)] at h4
    obtain ⟨q1, q2, q3⟩ := h.1 h4
    rw [e36]
    refine ⟨fun c hc => ?_, fun r hr => ?_, fun hc2 => ?_⟩
    · rw [key _ 111 _ g11 (by decide)] at hc
      rw [key _ 119 _ g19 (by decide)]
      exact q1 c hc
    · rw [key _ 112 _ g12 (by decide)] at hr
      rw [key _ 120 _ g20 (by decide), key _ 111 _ g11 (by decide)]
      exact q2 r hr
    · rw [c2] at hc2
      exact CWb_ag (key _ 125 _ g25 (by decide)) (key _ 126 _ g26 (by decide)) (fun j _ => key _ 130 j g30 (by decide)) (q3 (by rw [← ew]; exact Bt_24 ev hc hc2))
  · rw [e36, c2, key y 9 37 gy (by decide), key y 9 36 gy (by decide)]
    intro z
    exact h.2 (fun q => z (Bt_24' ev (by rw [ew]; exact q)))
theorem PH_rule {i7 : Int32} (h : PH M R y) (h4 : M1 y 4 = 0 → M y 4 = 0) (h36 : M1 y 36 = M y 36) (r11 : M1 (R y 11) = M (R y 11)) (r12 : M1 (R y 12) = M (R y 12)) (r19 : M1 (R y 19) = M (R y 19)) (r20 : M1 (R y 20) = M (R y 20)) (h17 : i7 = M1 (R y 17) (rbN M1 y)) (hb : Bt i7 0) (hc : M1 y 4 = 0 → CWb M1 R y (rbN M1 y)) : PH M1 R y := by
  have e36 : rbN M1 y = rbN M y := by rw [rbN, h36]
  refine ⟨fun z => ?_, fun z => absurd (by rw [← h17]; exact hb) z⟩
  obtain ⟨q1, q2, q3⟩ := h.1 (h4 z)
  refine ⟨?_, ?_, fun _ => hc z⟩
  · unfold HB; rw [e36, r11, r19]; exact q1
  · unfold TB; rw [e36, r11, r12, r20]; exact q2
/-- the rule, read to its end -/
theorem CWb_of {f t : Int32} (h : OE M1 R y) (hb : iv (M1 y 36) 0 1) (h36 : M2 y 36 = M1 y 36) (h30 : M2 (R y 30) = M1 (R y 30)) (hf : f = M2 (R y 25) (rbN M2 y)) (hf2 : f.toInt = 560 * (M1 y 36).toInt) (ht : t = M2 (R y 26) (rbN M2 y)) (ht2 : t = M1 y 37) : CWb M2 R y (rbN M2 y) := by
  obtain ⟨h1, h2, h3⟩ := h
  have e := iv_nN hb (by decide)
  have eb : rbN M2 y = (M1 y 36).toNatClampNeg := by rw [rbN, h36]
  unfold CWb
  rw [← hf, ← ht, h30, ht2, hf2, eb]
  refine ⟨by omega, by omega, ?_⟩
  rw [show (560 * (M1 y 36).toInt).toNat = 560 * (M1 y 36).toNatClampNeg by omega]
  have := okr_okc _ 0 1 h3 trivial
  rw [Nat.add_zero, show ((560 * (M1 y 36).toNatClampNeg : Nat) : Int) = 560 * (M1 y 36).toInt by omega] at this
  exact this
theorem PH_clear (h11 : M (R y 11) (rbN M y) = 0) (h12 : M (R y 12) (rbN M y) = 0) (h17 : M (R y 17) (rbN M y) = 0) (h37 : (M y 37).toInt = 560 * (M y 36).toInt) : PH M R y := by
  have k0 : iv (0 : Int32) 0 0 := ⟨by decide, by decide⟩
  refine ⟨fun _ => ⟨fun c hc => ?_, fun r hr => ?_, fun hc => ?_⟩, fun _ => h37⟩
  · rw [h11, show (0 : Int32).toInt = 0 by decide] at hc; omega
  · rw [h12, show (0 : Int32).toInt = 0 by decide] at hr; omega
  · rw [h17] at hc; exact absurd hc (Bt_0 k0 (by decide))
/-- the bank is the one that was read into -/
theorem PH_bank {v : Int32} (hTy : hT σ M3 R) (gy : σ y = some 9) (h : PH M R y) (hg : M y 4 = 0) (e : M1 = u2 M y 35 v) (hv : v = M y 36) : HV M1 R y ∧ TV M1 R y ∧ CW M1 R y := by
  have key : ∀ k t, k < hs_n 9 → tl 9 k = [t] → t ≠ 9 → M1 (R y k) = M (R y k) := fun k t hk ht h9 => funext fun j => by
    rw [e, u2_a (so_ne (hTy.r1 gy k t hk ht) gy h9)]
  have eb : bk M1 y = rbN M y := by rw [bk, e, u2_s, rbN, hv]
  obtain ⟨q1, q2, q3⟩ := h.1 hg
  have r11 := key 11 111 (by decide) rfl (by decide)
  have r12 := key 12 112 (by decide) rfl (by decide)
  have r17 := key 17 117 (by decide) rfl (by decide)
  have r19 := key 19 119 (by decide) rfl (by decide)
  have r20 := key 20 120 (by decide) rfl (by decide)
  have r25 := key 25 125 (by decide) rfl (by decide)
  have r26 := key 26 126 (by decide) rfl (by decide)
  have r30 := key 30 130 (by decide) rfl (by decide)
  refine ⟨?_, ?_, ?_⟩
  · unfold HV; rw [eb, r11, r19]; exact q1
  · unfold TV; rw [eb, r11, r12, r20]; exact q2
  · unfold CW CWo; rw [eb, r17, r25, r26, r30]; exact q3
theorem RB_put {v w : Int32} (e : M1 = u2 M y 36 v) (ev : v = 1 - w) (ew : w = M y 35) (iw : iv w 0 1) : RB M1 y := by
  unfold RB
  rw [e, u2_s, u2_k (by decide), ev, ← ew, iv_subE (x := 1) (y := w) (a := 1) (b := 1) ⟨by decide, by decide⟩ iw (by decide) (by decide)]
  rfl
theorem PI_0 {v : Int32} (e : M1 = u2 M y 7 v) (hv : v = 0) (i : iv (M y 3) 0 1600) : PI M1 y := by
  unfold PI
  rw [e, u2_s, u2_k (by decide), hv]
  exact i.1
theorem rb_ne2 {v : Int32} (h : RB M y) (e : v = M y 36) (i : iv (M y 35) 0 1) : v.toNatClampNeg ≠ bk M y := rb_ne (M0 := M) h e i rfl
theorem rb_ne6 {v t i p : Int32} (h : v.toNatClampNeg ≠ bk M y) (iv0 : iv v 0 1) (et : t = 6 * v) (ei : i = t + p) (ip : iv p 0 5) : i.toNatClampNeg / 6 ≠ bk M y := by
  have z := bank_at (n := 6) (by decide) iv0 et ei ip (by decide)
  have := iv_nN ip (by decide)
  have := ip.2
  omega
end PHS
/-- what isFull tells of the bank that is read into -/
def FN (M : hM) (N : hN) (R : hR) (y : Nat) : Prop := M y 8 = 3 → (N y 10 = 6513012 → (M (R y 11) (rbN M y)).toInt < 6) ∧ (N y 10 = 1919905645 → (M (R y 12) (rbN M y)).toInt < 8) ∧ (N y 10 = 127978992397940 → (M (R y 13) (rbN M y)).toInt < 7) ∧ (N y 10 = 465625113971 → ¬ Bt (M (R y 17) (rbN M y)) 0)
def NF (k : Nat) (w c : Int64) (n : Int) (M : hM) (R : hR) (y : Nat) : Prop := w = c → (M (R y k) (rbN M y)).toInt < n
def NL (w : Int64) (M : hM) (R : hR) (y : Nat) : Prop := w = 465625113971 → ¬ Bt (M (R y 17) (rbN M y)) 0
theorem NFc_ag {σ : Nat → Option Nat} {M M1 M3 : hM} {R : hR} {y : Nat} {w c : Int64} {n : Int} (hTy : hT σ M3 R) (gy : σ y = some 9) (h : NF 11 w c n M R y) (ha : hAd σ [(9, 36), (111, 999)] M M1) : NF 11 w c n M1 R y := by
  unfold NF
  rw [rbN, ha y 9 36 gy rfl, ha _ 111 _ (hTy.r1 gy 11 111 (by decide) rfl) rfl]
  exact h
theorem NFr_ag {σ : Nat → Option Nat} {M M1 M3 : hM} {R : hR} {y : Nat} {w c : Int64} {n : Int} (hTy : hT σ M3 R) (gy : σ y = some 9) (h : NF 12 w c n M R y) (ha : hAd σ [(9, 36), (112, 999)] M M1) : NF 12 w c n M1 R y := by
  unfold NF
  rw [rbN, ha y 9 36 gy rfl, ha _ 112 _ (hTy.r1 gy 12 112 (by decide) rfl) rfl]
  exact h
theorem NFt_ag {σ : Nat → Option Nat} {M M1 M3 : hM} {R : hR} {y : Nat} {w c : Int64} {n : Int} (hTy : hT σ M3 R) (gy : σ y = some 9) (h : NF 13 w c n M R y) (ha : hAd σ [(9, 36), (113, 999)] M M1) : NF 13 w c n M1 R y := by
  unfold NF
  rw [rbN, ha y 9 36 gy rfl, ha _ 113 _ (hTy.r1 gy 13 113 (by decide) rfl) rfl]
  exact h
theorem NL_ag {σ : Nat → Option Nat} {M M1 M3 : hM} {R : hR} {y : Nat} {w : Int64} (hTy : hT σ M3 R) (gy : σ y = some 9) (h : NL w M R y) (ha : hAd σ [(9, 36), (117, 999)] M M1) : NL w M1 R y := by
  unfold NL
  rw [rbN, ha y 9 36 gy rfl, ha _ 117 _ (hTy.r1 gy 17 117 (by decide) rfl) rfl]
  exact h
theorem gd_of {M : hM} {y : Nat} {v : Int32} (e : v = M y 4) (i : iv v 0 0) : M y 4 = 0 := by rw [← e]; exact iv_one i (by decide)
theorem gd_no {M : hM} {y : Nat} {v : Int32} {P : Prop} (e : v = M y 4) (i : iv v 1 5) (h : M y 4 = 0) : P := absurd (e.trans h) (iv_ne (c := 0) (d := 0) i ⟨by decide, by decide⟩ (by decide))
theorem PH_call9 {σ : Nat → Option Nat} {M M1 M3 : hM} {R : hR} {y : Nat} {l : List (Nat × Nat)} (hTy : hT σ M3 R) (gy : σ y = some 9) (hn : PN M M1 y) (hz : hAg σ l M M1) (hd : efdis [(9, 36), (9, 37), (111, 999), (112, 999), (117, 999), (119, 999), (120, 999), (125, 999), (126, 999), (130, 999)] l = true) (h : PH M R y) : PH M1 R y := PH_call hTy gy h hn.1 (hAd.ag hz hd)
