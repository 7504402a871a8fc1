theorem k_ss {fs : List Value} {k : Nat} {v w : Value} (h : fs[k]? = some w) : (fs.set k v)[k]? = some v := by
  have hl : k < fs.length := (List.getElem?_eq_some_iff.mp h).1
  simp [hl]
theorem k_sn {fs : List Value} {k j : Nat} {v w : Value} (hne : k ≠ j) (h : fs[j]? = some w) : (fs.set k v)[j]? = some w := by
  rw [List.getElem?_set_ne hne]
  exact h
theorem k_len {fs : List Value} {k : Nat} {w : Value} (h : fs[k]? = some w) : k < fs.length := (List.getElem?_eq_some_iff.mp h).1
abbrev dfX0 : List Value := [.int 0, .int 0, .null, .int 0]
theorem fsX0 : ∀ j, j < 4 → defaultValue (tyX0 j) = vp_V dfX0 j := fun j hj => match j, hj with
  | 0, _ => rfl
  | 1, _ => rfl
  | 2, _ => rfl
  | 3, _ => rfl
  | (k + 4), h => absurd h (by omega)
abbrev dfX1 : List Value := [.int 0, .int 0, .null, .null, .int 0, .int 0]
theorem fsX1 : ∀ j, j < 6 → defaultValue (tyX1 j) = vp_V dfX1 j := fun j hj => match j, hj with
  | 0, _ => rfl
  | 1, _ => rfl
  | 2, _ => rfl
  | 3, _ => rfl
  | 4, _ => rfl
  | 5, _ => rfl
  | (k + 6), h => absurd h (by omega)
abbrev dfX2 : List Value := [.null, .null, .int 0]
theorem fsX2 : ∀ j, j < 3 → defaultValue (tyX2 j) = vp_V dfX2 j := fun j hj => match j, hj with
  | 0, _ => rfl
  | 1, _ => rfl
  | 2, _ => rfl
  | (k + 3), h => absurd h (by omega)
abbrev dfX3 : List Value := [.null, .null, .int 0, .int 0]
theorem fsX3 : ∀ j, j < 4 → defaultValue (tyX3 j) = vp_V dfX3 j := fun j hj => match j, hj with
  | 0, _ => rfl
  | 1, _ => rfl
  | 2, _ => rfl
  | 3, _ => rfl
  | (k + 4), h => absurd h (by omega)
abbrev dfX4 : List Value := [.int 0, .int 0, .int 0, .int 0, .int 0, .null, .null, .null, .null, .null, .null]
theorem fsX4 : ∀ j, j < 11 → defaultValue (tyX4 j) = vp_V dfX4 j := fun j hj => match j, hj with
  | 0, _ => rfl
  | 1, _ => rfl
  | 2, _ => rfl
  | 3, _ => rfl
  | 4, _ => rfl
  | 5, _ => rfl
  | 6, _ => rfl
  | 7, _ => rfl
  | 8, _ => rfl
  | 9, _ => rfl
  | 10, _ => rfl
  | (k + 11), h => absurd h (by omega)
abbrev dfX5 : List Value := [.null, .int 0, .int 0, .null, .null, .null, .null, .null, .int 0, .int 0, .int 0, .int 0, .int 0, .int 0, .long 0]
theorem fsX5 : ∀ j, j < 15 → defaultValue (tyX5 j) = vp_V dfX5 j := fun j hj => match j, hj with
  | 0, _ => rfl
  | 1, _ => rfl
  | 2, _ => rfl
  | 3, _ => rfl
  | 4, _ => rfl
  | 5, _ => rfl
  | 6, _ => rfl
  | 7, _ => rfl
  | 8, _ => rfl
  | 9, _ => rfl
  | 10, _ => rfl
  | 11, _ => rfl
  | 12, _ => rfl
  | 13, _ => rfl
  | 14, _ => rfl
  | (k + 15), h => absurd h (by omega)
abbrev dfX6 : List Value := [.int 0, .null, .null, .null, .null, .null, .null, .int 0, .int 0]
theorem fsX6 : ∀ j, j < 9 → defaultValue (tyX6 j) = vp_V dfX6 j := fun j hj => match j, hj with
  | 0, _ => rfl
  | 1, _ => rfl
  | 2, _ => rfl
  | 3, _ => rfl
  | 4, _ => rfl
  | 5, _ => rfl
  | 6, _ => rfl
  | 7, _ => rfl
  | 8, _ => rfl
  | (k + 9), h => absurd h (by omega)
abbrev dfX7 : List Value := [.null, .null, .null, .null, .null, .int 0, .int 0, .int 0]
theorem fsX7 : ∀ j, j < 8 → defaultValue (tyX7 j) = vp_V dfX7 j := fun j hj => match j, hj with
  | 0, _ => rfl
  | 1, _ => rfl
  | 2, _ => rfl
  | 3, _ => rfl
  | 4, _ => rfl
  | 5, _ => rfl
  | 6, _ => rfl
  | 7, _ => rfl
  | (k + 8), h => absurd h (by omega)
abbrev dfX8 : List Value := [.null, .int 0, .null, .null, .null, .null, .null, .int 0, .null, .null, .null, .int 0, .null, .int 0]
theorem fsX8 : ∀ j, j < 14 → defaultValue (tyX8 j) = vp_V dfX8 j := fun j hj => match j, hj with
  | 0, _ => rfl
  | 1, _ => rfl
  | 2, _ => rfl
  | 3, _ => rfl
  | 4, _ => rfl
  | 5, _ => rfl
  | 6, _ => rfl
  | 7, _ => rfl
  | 8, _ => rfl
  | 9, _ => rfl
  | 10, _ => rfl
  | 11, _ => rfl
  | 12, _ => rfl
  | 13, _ => rfl
  | (k + 14), h => absurd h (by omega)
abbrev dfX9 : List Value := [.null, .null, .int 0, .int 0, .int 0, .int 0, .int 0, .int 0, .int 0, .int 0, .long 0, .null, .null, .null, .null, .null, .null, .null, .null, .null, .null, .null, .null, .null, .null, .null, .null, .null, .null, .null, .null, .null, .null, .null, .null, .int 0, .int 0, .int 0, .int 0, .int 0, .int 0, .int 0, .int 0, .int 0, .int 0, .null, .int 0, .int 0, .int 0, .null, .int 0, .int 0, .null, .null, .int 0, .null, .null, .null, .null, .null, .null, .null, .null, .int 0, .int 0, .null, .null]
theorem fsX9 : ∀ j, j < 67 → defaultValue (tyX9 j) = vp_V dfX9 j := fun j hj => match j, hj with
  | 0, _ => rfl
  | 1, _ => rfl
  | 2, _ => rfl
  | 3, _ => rfl
  | 4, _ => rfl
  | 5, _ => rfl
  | 6, _ => rfl
  | 7, _ => rfl
  | 8, _ => rfl
  | 9, _ => rfl
  | 10, _ => rfl
  | 11, _ => rfl
  | 12, _ => rfl
  | 13, _ => rfl
  | 14, _ => rfl
  | 15, _ => rfl
  | 16, _ => rfl
  | 17, _ => rfl
  | 18, _ => rfl
  | 19, _ => rfl
  | 20, _ => rfl
  | 21, _ => rfl
  | 22, _ => rfl
  | 23, _ => rfl
  | 24, _ => rfl
  | 25, _ => rfl
  | 26, _ => rfl
  | 27, _ => rfl
  | 28, _ => rfl
  | 29, _ => rfl
  | 30, _ => rfl
  | 31, _ => rfl
  | 32, _ => rfl
  | 33, _ => rfl
  | 34, _ => rfl
  | 35, _ => rfl
  | 36, _ => rfl
  | 37, _ => rfl
  | 38, _ => rfl
  | 39, _ => rfl
  | 40, _ => rfl
  | 41, _ => rfl
  | 42, _ => rfl
  | 43, _ => rfl
  | 44, _ => rfl
  | 45, _ => rfl
  | 46, _ => rfl
  | 47, _ => rfl
  | 48, _ => rfl
  | 49, _ => rfl
  | 50, _ => rfl
  | 51, _ => rfl
  | 52, _ => rfl
  | 53, _ => rfl
  | 54, _ => rfl
  | 55, _ => rfl
  | 56, _ => rfl
  | 57, _ => rfl
  | 58, _ => rfl
  | 59, _ => rfl
  | 60, _ => rfl
  | 61, _ => rfl
  | 62, _ => rfl
  | 63, _ => rfl
  | 64, _ => rfl
  | 65, _ => rfl
  | 66, _ => rfl
  | (k + 67), h => absurd h (by omega)
theorem k_un {f : Nat → Option Nat} {k j : Nat} {v : Option Nat} (h : j ≠ k) : va_up f k v j = f j := by simp [va_up, h]
theorem k_shr0 (y : Int32) : (0 : Int32) >>> (y &&& 31) = 0 := by
  apply Int32.toInt_inj.mp
  rw [pk_shr 0 (y &&& 31) _ rfl]
  have h : (0 : Int32).toInt = 0 := by decide
  rw [h]
  exact Int.zero_shiftRight _
theorem k_inc (i : Nat) : nI i + Int32.ofInt 1 = nI (i + 1) := nI_1 i
theorem k_ge1 {i N : Nat} {c : Int32} (hc : c = nI N) (hi : i ≤ N) (hN : N < 2 ^ 31) (h : c ≤ nI i) : i = N := by
  subst hc
  have := (nI_leI hN (by omega)).mp h
  omega
theorem k_ge2 {i N : Nat} {c : Int32} (hc : c = nI N) (hi : i ≤ N) (hN : N < 2 ^ 31) (h : ¬ c ≤ nI i) : i < N := by
  subst hc
  rcases Nat.lt_or_ge i N with q | q
  · exact q
  · exact absurd (nI_le q (by omega)) h
theorem k_gt1 {i N : Nat} {c : Int32} (hc : c = nI N) (hi : i ≤ N + 1) (hN : N + 1 < 2 ^ 31) (h : c < nI i) : i = N + 1 := by
  subst hc
  have := (nI_ltI (by omega) (by omega)).mp h
  omega
theorem k_gt2 {i N : Nat} {c : Int32} (hc : c = nI N) (hN : N + 1 < 2 ^ 31) (hi : i ≤ N + 1) (h : ¬ c < nI i) : i < N + 1 := by
  subst hc
  rcases Nat.lt_or_ge N i with q | q
  · exact absurd (nI_lt q (by omega)) h
  · omega
