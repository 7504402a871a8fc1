abbrev hM : Type := Nat → Nat → Int32
abbrev hN : Type := Nat → Nat → Int64
abbrev hR : Type := Nat → Nat → Nat
def iv (x : Int32) (lo hi : Int) : Prop := lo ≤ x.toInt ∧ x.toInt ≤ hi
def u2 {α : Type} (M : Nat → Nat → α) (a k : Nat) (v : α) : Nat → Nat → α := fun b j => if b = a ∧ j = k then v else M b j
def hw_v (t : Nat) (M : hM) (N : hN) (R : hR) (a k : Nat) : Value := match t with
  | 0 => .int (M a k)
  | 1 => .long (N a k)
  | _ => .ref (R a k)
/-- the kinds of an object's fields: 0 a number, 1 a long, 2 a reference -/
def hs_fl : Nat → List Nat
  | 0 => [0, 0, 2, 0]
  | 1 => [0, 0, 2, 2, 0, 0]
  | 2 => [2, 2, 0]
  | 3 => [2, 2, 0, 0]
  | 4 => [0, 0, 0, 0, 0, 2, 2, 2, 2, 2, 2]
  | 5 => [2, 0, 0, 2, 2, 2, 2, 2, 0, 0, 0, 0, 0, 0, 1]
  | 6 => [0, 2, 2, 2, 2, 2, 2, 0, 0]
  | 7 => [2, 2, 2, 2, 2, 0, 0, 0]
  | 8 => [2, 0, 2, 2, 2, 2, 2, 0, 2, 2, 2, 0, 2, 0]
  | 9 => [2, 2, 0, 0, 0, 0, 0, 0, 0, 0, 1, 2, 2, 2, 2, 2, 2, 2, 2, 2, 2, 2, 2, 2, 2, 2, 2, 2, 2, 2, 2, 2, 2, 2, 2, 0, 0, 0, 0, 0, 0, 0, 0, 0, 0, 2, 0, 0, 0, 2, 0, 0, 2, 2, 0, 2, 2, 2, 2, 2, 2, 2, 2, 0, 0, 2, 2]
  | _ => []
def hs_f (s k : Nat) : Nat := (hs_fl s).getD k 0
/-- rows: kind and length -/
def hs_a : Nat → Nat × Nat
  | 10 => (0, 1600)
  | 11 => (0, 0)
  | 12 => (1, 8)
  | 13 => (1, 7)
  | 14 => (1, 7)
  | 15 => (1, 6)
  | 17 => (1, 270)
  | 18 => (1, 30)
  | 19 => (1, 30)
  | 20 => (3, 30)
  | 21 => (1, 700)
  | 22 => (2, 19)
  | 23 => (2, 6)
  | 24 => (2, 8)
  | 25 => (2, 7)
  | 26 => (4, 41)
  | 27 => (4, 3)
  | 28 => (1, 56)
  | 29 => (1, 2048)
  | 100 => (0, 1620)
  | 101 => (0, 1600)
  | 111 => (1, 2)
  | 112 => (1, 2)
  | 113 => (1, 2)
  | 114 => (1, 2)
  | 115 => (1, 2)
  | 116 => (1, 2)
  | 117 => (1, 2)
  | 118 => (1, 12)
  | 119 => (1, 12)
  | 120 => (1, 16)
  | 121 => (1, 14)
  | 122 => (1, 14)
  | 123 => (1, 14)
  | 124 => (1, 14)
  | 125 => (1, 2)
  | 126 => (1, 2)
  | 127 => (2, 12)
  | 128 => (2, 16)
  | 129 => (2, 14)
  | 130 => (1, 1120)
  | 131 => (1, 1120)
  | 132 => (1, 90)
  | 133 => (1, 90)
  | 134 => (1, 60)
  | 145 => (1, 39)
  | 149 => (1, 1599)
  | 152 => (1, 39)
  | 153 => (1, 7)
  | 155 => (1, 2048)
  | 156 => (1, 72)
  | 157 => (1, 1000)
  | 158 => (1, 30)
  | 159 => (1, 30)
  | 160 => (1, 30)
  | 161 => (1, 30)
  | 162 => (1, 30)
  | 165 => (1, 117)
  | 166 => (3, 3)
  | _ => (0, 0)
def hs_n (s : Nat) : Nat := if s < 10 then (hs_fl s).length else (hs_a s).2
def hs_k (t : Nat) : Nat := match t with
  | 2 => 1
  | 4 => 2
  | _ => 0
/-- the interval of each number -/
def ti_o : Nat → Nat → Int × Int
  | 0, 3 => (0, 40)
  | 1, 0 => (0, 5)
  | 1, 1 => (0, 5)
  | 1, 4 => (-2147483648, 5)
  | 1, 5 => (-2147483648, 5)
  | 2, 2 => (0, 270)
  | 3, 2 => (0, 7)
  | 3, 3 => (0, 8)
  | 4, 0 => (0, 6)
  | 4, 1 => (0, 8)
  | 4, 2 => (0, 7)
  | 5, 8 => (-2147483648, 1600)
  | 6, 0 => (0, 30)
  | 6, 7 => (0, 1)
  | 6, 8 => (0, 1)
  | 8, 1 => (0, 1600)
  | 8, 11 => (0, 7)
  | 9, 2 => (0, 1600)
  | 9, 3 => (0, 1600)
  | 9, 4 => (0, 5)
  | 9, 6 => (0, 1600)
  | 9, 7 => (0, 1601)
  | 9, 35 => (0, 1)
  | 9, 36 => (0, 1)
  | 9, 37 => (0, 1120)
  | 9, 38 => (-2147483648, 2147483647)
  | 9, 39 => (0, 90)
  | 9, 40 => (0, 30)
  | 9, 41 => (0, 6)
  | 9, 50 => (0, 40)
  | 9, 51 => (0, 40)
  | 9, 54 => (0, 7)
  | 9, 63 => (0, 30)
  | _, _ => (-2147483648, 2147483647)
/-- of a row that holds who is where: 0..6 rooms, 14..21 keepers -/
def ti_w (k : Nat) : Int × Int := if k < 7 then (-1, 7) else if 14 ≤ k ∧ k < 22 then (-1, 5) else (-2147483648, 2147483647)
def ti_a : Nat → Nat → Int × Int
  | 12, _ => (-1, 5)
  | 13, _ => (-1, 7)
  | 19, _ => (0, 6)
  | 20, _ => (0, 1)
  | 111, _ => (0, 6)
  | 112, _ => (0, 8)
  | 113, _ => (0, 7)
  | 119, _ => (-1, 5)
  | 120, _ => (-1, 5)
  | 124, _ => (-1, 7)
  | 158, _ => (0, 9)
  | 166, _ => (0, 1)
  | 145, k => ti_w (k % 39)
  | 152, k => ti_w (k % 39)
  | 149, k => ti_w (k % 39)
  | 165, k => ti_w (k % 39)
  | _, _ => (-2147483648, 2147483647)
def ti (s k : Nat) : Int × Int := if s < 10 then ti_o s k else ti_a s k
/-- where references point -/
def tl_o : Nat → Nat → List Nat
  | 0, 2 => [26]
  | 1, 2 => [15]
  | 1, 3 => [15]
  | 2, 0 => [17]
  | 2, 1 => [18]
  | 3, 0 => [28]
  | 3, 1 => [29]
  | 4, 5 => [15]
  | 4, 6 => [15]
  | 4, 7 => [14]
  | 4, 8 => [7]
  | 4, 9 => [2]
  | 4, 10 => [14]
  | 5, 0 => [4]
  | 5, 3 => [22]
  | 5, 4 => [23]
  | 5, 5 => [24]
  | 5, 6 => [25]
  | 5, 7 => [10, 11]
  | 6, 1 => [18]
  | 6, 2 => [19]
  | 6, 3 => [20]
  | 6, 4 => [18]
  | 6, 5 => [18]
  | 6, 6 => [21]
  | 7, 0 => [12]
  | 7, 1 => [13]
  | 7, 2 => [14]
  | 7, 3 => [14]
  | 7, 4 => [14]
  | 8, 0 => [10]
  | 8, 2 => [5]
  | 8, 3 => [4]
  | 8, 4 => [0]
  | 8, 5 => [7]
  | 8, 6 => [27]
  | 8, 8 => [3]
  | 8, 9 => [1]
  | 8, 10 => [13]
  | 8, 12 => [6]
  | 9, 0 => [100]
  | 9, 1 => [101]
  | 9, 11 => [111]
  | 9, 12 => [112]
  | 9, 13 => [113]
  | 9, 14 => [114]
  | 9, 15 => [115]
  | 9, 16 => [116]
  | 9, 17 => [117]
  | 9, 18 => [118]
  | 9, 19 => [119]
  | 9, 20 => [120]
  | 9, 21 => [121]
  | 9, 22 => [122]
  | 9, 23 => [123]
  | 9, 24 => [124]
  | 9, 25 => [125]
  | 9, 26 => [126]
  | 9, 27 => [127]
  | 9, 28 => [128]
  | 9, 29 => [129]
  | 9, 30 => [130]
  | 9, 31 => [131]
  | 9, 32 => [132]
  | 9, 33 => [133]
  | 9, 34 => [134]
  | 9, 45 => [145]
  | 9, 49 => [149]
  | 9, 52 => [152]
  | 9, 53 => [153]
  | 9, 55 => [155]
  | 9, 56 => [156]
  | 9, 57 => [157]
  | 9, 58 => [158]
  | 9, 59 => [159]
  | 9, 60 => [160]
  | 9, 61 => [161]
  | 9, 62 => [162]
  | 9, 65 => [165]
  | 9, 66 => [166]
  | _, _ => []
def tl (s k : Nat) : List Nat := if s < 10 then tl_o s k else if (hs_a s).1 = 4 then [7] else []
theorem u2_s {α : Type} {M : Nat → Nat → α} {a k : Nat} {v : α} : u2 M a k v a k = v := by simp [u2]
theorem u2_n {α : Type} {M : Nat → Nat → α} {a k b j : Nat} {v : α} (h : ¬ (b = a ∧ j = k)) : u2 M a k v b j = M b j := by simp [u2, h]
theorem u2_a {α : Type} {M : Nat → Nat → α} {a k b j : Nat} {v : α} (h : b ≠ a) : u2 M a k v b j = M b j := u2_n (fun q => h q.1)
theorem u2_k {α : Type} {M : Nat → Nat → α} {a k b j : Nat} {v : α} (h : j ≠ k) : u2 M a k v b j = M b j := u2_n (fun q => h q.2)
theorem u2_r {α : Type} {M : Nat → Nat → α} {a k : Nat} {v : α} : u2 M a k v a = va_up (M a) k v := by
  funext j
  by_cases h : j = k <;> simp [u2, va_up, h]
/-! intervals -/
theorem iv_any (x : Int32) : iv x (-2147483648) 2147483647 := by
  have h1 := Int32.le_toInt x
  have h2 := Int32.toInt_lt x
  simp only [iv]
  omega
theorem iv_c {x : Int32} {lo hi : Int} (n : Int) (h : x.toInt = n) (h1 : lo ≤ n) (h2 : n ≤ hi) : iv x lo hi := ⟨by rw [h]; exact h1, by rw [h]; exact h2⟩
theorem iv_w {x : Int32} {lo hi lo' hi' : Int} (h : iv x lo hi) (h1 : lo' ≤ lo) (h2 : hi ≤ hi') : iv x lo' hi' := ⟨Int.le_trans h1 h.1, Int.le_trans h.2 h2⟩
theorem iv_add {x y : Int32} {a b c d lo hi : Int} (hx : iv x a b) (hy : iv y c d) (h1 : lo ≤ a + c) (h2 : b + d ≤ hi) (h3 : -2147483648 ≤ lo) (h4 : hi ≤ 2147483647) : iv (x + y) lo hi := by
  have e : (x + y).toInt = x.toInt + y.toInt := by
    rw [Int32.toInt_add]
    obtain ⟨p1, p2⟩ := hx
    obtain ⟨q1, q2⟩ := hy
    exact Int.bmod_eq_of_le (by omega) (by omega)
  obtain ⟨p1, p2⟩ := hx
  obtain ⟨q1, q2⟩ := hy
  exact ⟨by rw [e]; omega, by rw [e]; omega⟩
theorem iv_addE {x y : Int32} {a b c d : Int} (hx : iv x a b) (hy : iv y c d) (h1 : -2147483648 ≤ a + c) (h2 : b + d ≤ 2147483647) : (x + y).toInt = x.toInt + y.toInt := by
  rw [Int32.toInt_add]
  obtain ⟨p1, p2⟩ := hx
  obtain ⟨q1, q2⟩ := hy
  exact Int.bmod_eq_of_le (by omega) (by omega)
theorem iv_sub {x y : Int32} {a b c d lo hi : Int} (hx : iv x a b) (hy : iv y c d) (h1 : lo ≤ a - d) (h2 : b - c ≤ hi) (h3 : -2147483648 ≤ lo) (h4 : hi ≤ 2147483647) : iv (x - y) lo hi := by
  have e : (x - y).toInt = x.toInt - y.toInt := by
    rw [Int32.toInt_sub]
    obtain ⟨p1, p2⟩ := hx
    obtain ⟨q1, q2⟩ := hy
    exact Int.bmod_eq_of_le (by omega) (by omega)
  obtain ⟨p1, p2⟩ := hx
  obtain ⟨q1, q2⟩ := hy
  exact ⟨by rw [e]; omega, by rw [e]; omega⟩
theorem iv_subE {x y : Int32} {a b c d : Int} (hx : iv x a b) (hy : iv y c d) (h1 : -2147483648 ≤ a - d) (h2 : b - c ≤ 2147483647) : (x - y).toInt = x.toInt - y.toInt := by
  rw [Int32.toInt_sub]
  obtain ⟨p1, p2⟩ := hx
  obtain ⟨q1, q2⟩ := hy
  exact Int.bmod_eq_of_le (by omega) (by omega)
theorem iv_mulE {x y : Int32} {a b c d : Int} (hx : iv x a b) (hy : iv y c d) (h0 : 0 ≤ a) (h1 : 0 ≤ c) (h2 : b * d ≤ 2147483647) : (x * y).toInt = x.toInt * y.toInt := by
  rw [Int32.toInt_mul]
  obtain ⟨p1, p2⟩ := hx
  obtain ⟨q1, q2⟩ := hy
  have z : x.toInt * y.toInt ≤ b * d := Int.mul_le_mul p2 q2 (by omega) (by omega)
  have z0 : 0 ≤ x.toInt * y.toInt := Int.mul_nonneg (by omega) (by omega)
  exact Int.bmod_eq_of_le (by omega) (by omega)
theorem iv_mul {x y : Int32} {a b c d lo hi : Int} (hx : iv x a b) (hy : iv y c d) (h0 : 0 ≤ a) (h1 : 0 ≤ c) (h2 : b * d ≤ hi) (h3 : lo ≤ a * c) (h4 : hi ≤ 2147483647) : iv (x * y) lo hi := by
  have e := iv_mulE hx hy h0 h1 (Int.le_trans h2 h4)
  obtain ⟨p1, p2⟩ := hx
  obtain ⟨q1, q2⟩ := hy
  have z : x.toInt * y.toInt ≤ b * d := Int.mul_le_mul p2 q2 (by omega) (by omega)
  have z0 : a * c ≤ x.toInt * y.toInt := Int.mul_le_mul p1 q1 h1 (by omega)
  exact ⟨by rw [e]; omega, by rw [e]; omega⟩
/-- and with a mask -/
theorem iv_and {x y : Int32} (k : Nat) {hi : Int} (hm : y.toBitVec.toNat = 2 ^ k - 1) (hk : k ≤ 30) (h2 : (2 ^ k : Int) - 1 ≤ hi) : iv (x &&& y) 0 hi := by
  obtain ⟨h1, h3⟩ := vp_in_iff.mp (pk_andIn x k hm hk)
  refine ⟨h1, ?_⟩
  have : ((2 ^ k : Nat) : Int) = (2 ^ k : Int) := by simp
  omega
theorem iv_nI {x : Int32} {lo hi : Int} (h : iv x lo hi) (h0 : 0 ≤ lo) : ∃ j : Nat, (j : Int) = x.toInt ∧ x = nI j ∧ j < 2 ^ 31 := by
  obtain ⟨h1, h2⟩ := h
  have hb := Int32.toInt_lt x
  refine ⟨x.toInt.toNat, by omega, ?_, by omega⟩
  apply Int32.toInt_inj.mp
  rw [nI_toInt (by omega)]
  omega
theorem iv_or {x y : Int32} {a b c d hi : Int} (k : Nat) (hx : iv x a b) (hy : iv y c d) (h0 : 0 ≤ a) (h1 : 0 ≤ c) (hb : b < 2 ^ k) (hd : d < 2 ^ k) (hk : k ≤ 31) (hh : (2 ^ k : Int) - 1 ≤ hi) : iv (x ||| y) 0 hi := by
  obtain ⟨i, i1, i2, i3⟩ := iv_nI hx h0
  obtain ⟨j, j1, j2, j3⟩ := iv_nI hy h1
  have e : ((2 ^ k : Nat) : Int) = (2 ^ k : Int) := by simp
  have hi' : i < 2 ^ k := by have := hx.2; omega
  have hj' : j < 2 ^ k := by have := hy.2; omega
  have hz : i ||| j < 2 ^ k := Nat.or_lt_two_pow hi' hj'
  have h31 : 2 ^ k ≤ 2 ^ 31 := Nat.pow_le_pow_right (by omega) hk
  have e2 : nI i ||| nI j = nI (i ||| j) := by
    apply Int32.toBitVec_inj.mp
    apply BitVec.eq_of_toNat_eq
    show (nI i).toBitVec.toNat ||| (nI j).toBitVec.toNat = _
    rw [pk_tn (by omega), pk_tn (by omega), pk_tn (by omega)]
  rw [i2, j2, e2]
  have e3 := nI_toInt (n := i ||| j) (by omega)
  exact ⟨by rw [e3]; omega, by rw [e3]; omega⟩
theorem s_l0 : ∀ n, n < 32 → ((nI n &&& 31).toBitVec.smod 32).toNat = n := by decide +kernel
/-- one, so many places up -/
theorem iv_shl1 {y : Int32} {c d lo hi : Int} (n : Nat) (hy : iv y c d) (h0 : 0 ≤ c) (hd : d ≤ n) (hn : n ≤ 30) (h1 : lo ≤ 1) (h2 : (2 ^ n : Int) ≤ hi) : iv ((1 : Int32) <<< (y &&& 31)) lo hi := by
  obtain ⟨j, j1, j2, j3⟩ := iv_nI hy h0
  have hj : j ≤ n := by have := hy.2; omega
  have hp : 2 ^ j ≤ 2 ^ n := Nat.pow_le_pow_right (by omega) hj
  have hp0 : 0 < 2 ^ j := Nat.two_pow_pos j
  have h31 : 2 ^ n < 2 ^ 31 := Nat.pow_lt_pow_right (by omega) (by omega)
  have e : ((2 ^ n : Nat) : Int) = (2 ^ n : Int) := by simp
  have e2 : (1 : Int32) <<< (y &&& 31) = nI (2 ^ j) := by
    have h := pk_shlN (n := 1) (y &&& 31) j (by rw [j2]; exact s_l0 j (by omega)) (by omega)
    rw [Nat.one_mul] at h
    exact h
  rw [e2]
  have e3 := nI_toInt (n := 2 ^ j) (by omega)
  exact ⟨by rw [e3]; omega, by rw [e3]; omega⟩
theorem iv_bit {x y z : Int32} (hz : z.toBitVec.toNat = 1) : iv ((x >>> (y &&& 31)) &&& z) 0 1 := iv_and 1 (by rw [hz]) (by omega) (by omega)
theorem iv_rem {x y : Int32} {a b c d hi : Int} (hx : iv x a b) (hy : iv y c d) (h0 : 0 ≤ a) (h1 : 1 ≤ c) (hh : d - 1 ≤ hi) : iv (x - x / y * y) 0 hi := by
  obtain ⟨i, i1, i2, i3⟩ := iv_nI hx h0
  obtain ⟨j, j1, j2, j3⟩ := iv_nI hy (by omega)
  have hj : 0 < j := by have := hy.1; omega
  have hm : i % j < j := Nat.mod_lt _ hj
  rw [i2, j2, pk_rem i3 hj j3]
  have e3 := nI_toInt (n := i % j) (by omega)
  have := hy.2
  exact ⟨by rw [e3]; omega, by rw [e3]; omega⟩
theorem iv_div {x y : Int32} {a b hi : Int} (n : Nat) (hx : iv x a b) (hy : y.toInt = (n : Int)) (h0 : 0 ≤ a) (h1 : 1 ≤ n) (hh : b ≤ hi * n + n - 1) : iv (x / y) 0 hi := by
  obtain ⟨i, i1, i2, i3⟩ := iv_nI hx h0
  obtain ⟨j, j1, j2, j3⟩ := iv_nI (x := y) (lo := 0) (hi := n) ⟨by omega, by omega⟩ (by omega)
  have hj : j = n := by omega
  rw [i2, j2, pk_div i3 (by omega) j3]
  have hb : (i : Int) ≤ hi * n + n - 1 := by have := hx.2; omega
  subst hj
  have hd : i / j * j ≤ i := Nat.div_mul_le_self i j
  have hd2 : i < (i / j + 1) * j := Nat.lt_mul_of_div_lt (by omega) (by omega)
  have e3 := nI_toInt (n := i / j) (by have := Nat.div_le_self i j; omega)
  refine ⟨by rw [e3]; exact Int.natCast_nonneg _, ?_⟩
  rw [e3]
  have h2 : ((i / j : Nat) : Int) = (i : Int) / j := by simp
  rw [h2]
  have : (i : Int) / j < hi + 1 := Int.ediv_lt_of_lt_mul (by omega) (by rw [Int.add_mul]; omega)
  omega
theorem iv_in {i : Int32} {n : Nat} {lo hi : Int} (h : iv i lo hi) (h0 : 0 ≤ lo) (h1 : hi < n) : vp_in i n := vp_in_iff.mpr ⟨Int.le_trans h0 h.1, Int.lt_of_le_of_lt h.2 h1⟩
theorem in_lt {i : Int32} {n : Nat} (h : vp_in i n) : i.toNatClampNeg < n := Nat.not_le.mp fun q => h (Or.inr q)
theorem iv_max {x y : Int32} {a b c d lo hi : Int} (hx : iv x a b) (hy : iv y c d) (h1 : lo ≤ a ∨ lo ≤ c) (h2 : b ≤ hi) (h3 : d ≤ hi) : iv (if x < y then y else x) lo hi := by
  obtain ⟨p1, p2⟩ := hx
  obtain ⟨q1, q2⟩ := hy
  by_cases h : x < y
  · rw [if_pos h]
    rw [Int32.lt_iff_toInt_lt] at h
    exact ⟨by omega, by omega⟩
  · rw [if_neg h]
    rw [Int32.lt_iff_toInt_lt] at h
    exact ⟨by omega, by omega⟩
theorem iv_min {x y : Int32} {a b c d lo hi : Int} (hx : iv x a b) (hy : iv y c d) (h1 : b ≤ hi ∨ d ≤ hi) (h2 : lo ≤ a) (h3 : lo ≤ c) : iv (if y < x then y else x) lo hi := by
  obtain ⟨p1, p2⟩ := hx
  obtain ⟨q1, q2⟩ := hy
  by_cases h : y < x
  · rw [if_pos h]
    rw [Int32.lt_iff_toInt_lt] at h
    exact ⟨by omega, by omega⟩
  · rw [if_neg h]
    rw [Int32.lt_iff_toInt_lt] at h
    exact ⟨by omega, by omega⟩
/-! what a comparison tells -/
theorem iv_lt1 {x y : Int32} {a b c d hi : Int} (h : x < y) (hx : iv x a b) (hy : iv y c d) (h1 : d - 1 ≤ hi) : iv x a hi := by
  rw [Int32.lt_iff_toInt_lt] at h
  exact ⟨hx.1, by have := hy.2; omega⟩
theorem iv_lt2 {x y : Int32} {a b c d lo : Int} (h : x < y) (hx : iv x a b) (hy : iv y c d) (h1 : lo ≤ a + 1) : iv y lo d := by
  rw [Int32.lt_iff_toInt_lt] at h
  exact ⟨by have := hx.1; omega, hy.2⟩
theorem iv_nlt1 {x y : Int32} {a b c d lo : Int} (h : ¬ x < y) (hx : iv x a b) (hy : iv y c d) (h1 : lo ≤ c) : iv x lo b := by
  rw [Int32.lt_iff_toInt_lt] at h
  exact ⟨by have := hy.1; omega, hx.2⟩
theorem iv_nlt2 {x y : Int32} {a b c d hi : Int} (h : ¬ x < y) (hx : iv x a b) (hy : iv y c d) (h1 : b ≤ hi) : iv y c hi := by
  rw [Int32.lt_iff_toInt_lt] at h
  exact ⟨hy.1, by have := hx.2; omega⟩
theorem iv_le1 {x y : Int32} {a b c d hi : Int} (h : x ≤ y) (hx : iv x a b) (hy : iv y c d) (h1 : d ≤ hi) : iv x a hi := by
  rw [Int32.le_iff_toInt_le] at h
  exact ⟨hx.1, by have := hy.2; omega⟩
theorem iv_le2 {x y : Int32} {a b c d lo : Int} (h : x ≤ y) (hx : iv x a b) (hy : iv y c d) (h1 : lo ≤ a) : iv y lo d := by
  rw [Int32.le_iff_toInt_le] at h
  exact ⟨by have := hx.1; omega, hy.2⟩
theorem iv_nle1 {x y : Int32} {a b c d lo : Int} (h : ¬ x ≤ y) (hx : iv x a b) (hy : iv y c d) (h1 : lo ≤ c + 1) : iv x lo b := by
  rw [Int32.le_iff_toInt_le] at h
  exact ⟨by have := hy.1; omega, hx.2⟩
theorem iv_nle2 {x y : Int32} {a b c d hi : Int} (h : ¬ x ≤ y) (hx : iv x a b) (hy : iv y c d) (h1 : b - 1 ≤ hi) : iv y c hi := by
  rw [Int32.le_iff_toInt_le] at h
  exact ⟨hy.1, by have := hx.2; omega⟩
theorem iv_eq1 {x y : Int32} {a b c d : Int} (h : x = y) (hx : iv x a b) (hy : iv y c d) : iv x c d := by rw [h]; exact hy
theorem iv_eq2 {x y : Int32} {a b c d : Int} (h : x = y) (hx : iv x a b) (hy : iv y c d) : iv y a b := by rw [← h]; exact hx
theorem iv_m {x : Int32} {a b c d : Int} (hx : iv x a b) (hy : iv x c d) : iv x a d := ⟨hx.1, hy.2⟩
/-- not the least, not the greatest of its interval -/
theorem iv_neL {x y : Int32} {a b lo : Int} (h : ¬ x = y) (hx : iv x a b) (hy : y.toInt = a) (h1 : lo ≤ a + 1) : iv x lo b := by
  have : x.toInt ≠ y.toInt := fun q => h (Int32.toInt_inj.mp q)
  exact ⟨by have := hx.1; omega, hx.2⟩
theorem iv_neH {x y : Int32} {a b hi : Int} (h : ¬ x = y) (hx : iv x a b) (hy : y.toInt = b) (h1 : b - 1 ≤ hi) : iv x a hi := by
  have : x.toInt ≠ y.toInt := fun q => h (Int32.toInt_inj.mp q)
  exact ⟨hx.1, by have := hx.2; omega⟩
theorem iv_f {x : Int32} {a b : Int} {P : Prop} (h : iv x a b) (hab : b < a) : P := absurd (Int.le_trans h.1 h.2) (by omega)
theorem iv_ne {x y : Int32} {a b c d : Int} (hx : iv x a b) (hy : iv y c d) (h : b < c ∨ d < a) : ¬ x = y := by
  intro q
  subst q
  obtain ⟨p1, p2⟩ := hx
  obtain ⟨q1, q2⟩ := hy
  omega
/-! the typed heap -/
def ef (l : List (Nat × Nat)) (s k : Nat) : Bool := l.any (fun q => q.1 == s && (q.2 == 999 || q.2 == k))
def efsub (l1 l2 : List (Nat × Nat)) : Bool := l1.all (fun q => l2.any (fun r => r == q || (r.1 == q.1 && r.2 == 999)))
theorem efsub_ok {l1 l2 : List (Nat × Nat)} (h : efsub l1 l2 = true) {s k : Nat} (h1 : ef l1 s k = true) : ef l2 s k = true := by
  simp only [ef, List.any_eq_true] at h1 ⊢
  obtain ⟨q, hq, hq2⟩ := h1
  have h2 := List.all_eq_true.mp h q hq
  obtain ⟨r, hr, hr2⟩ := List.any_eq_true.mp h2
  refine ⟨r, hr, ?_⟩
  simp only [Bool.or_eq_true, Bool.and_eq_true, beq_iff_eq] at hr2 hq2 ⊢
  rcases hr2 with hr2 | hr2
  · rw [hr2]; exact hq2
  · exact ⟨hr2.1.trans hq2.1, Or.inl hr2.2⟩
def hw_c (D : va_G) (g : Nat → ClassId) (M : hM) (N : hN) (R : hR) (a s : Nat) (H : Heap) : Prop :=
  (s < 10 → t_OB a (D.1 s) (hs_n s) (D.2 s) H (fun k => hw_v (hs_f s k) M N R a k)) ∧ (10 ≤ s → H[a]? = some (arrV (g (hs_a s).1) (hs_a s).2 (fun j => hw_v (hs_k (hs_a s).1) M N R a j)))
def HW (D : va_G) (g : Nat → ClassId) (σ : Nat → Option Nat) (M : hM) (N : hN) (R : hR) (H : Heap) : Prop := ∀ a s, σ a = some s → hw_c D g M N R a s H
def hT (σ : Nat → Option Nat) (M : hM) (R : hR) : Prop := (∀ a s, σ a = some s → ∀ k, k < hs_n s → iv (M a k) (ti s k).1 (ti s k).2) ∧ ∀ a s, σ a = some s → ∀ k, k < hs_n s → tl s k = [] ∨ ∃ t, t ∈ tl s k ∧ σ (R a k) = some t
def hAg (σ : Nat → Option Nat) (l : List (Nat × Nat)) (M0 M : hM) : Prop := ∀ a s k, σ a = some s → ef l s k = false → M a k = M0 a k
def hA (σ : Nat → Option Nat) : Nat → Prop := fun q => σ q ≠ none
def kI (D : va_G) (g : Nat → ClassId) (σ : Nat → Option Nat) (l : List (Nat × Nat)) (M0 : hM) (H0 : Heap) (M : hM) (N : hN) (R : hR) (H : Heap) (locs : List Loc) : Prop := HW D g σ M N R H ∧ hT σ M R ∧ hAg σ l M0 M ∧ va_S (hA σ) H0 H locs
theorem HW.step {D : va_G} {g : Nat → ClassId} {σ : Nat → Option Nat} {M M1 : hM} {N N1 : hN} {R R1 : hR} {H H1 : Heap} (h : HW D g σ M N R H) {a s0 : Nat} (ha : σ a = some s0) (oq : ∀ q : Nat, q ≠ a → H1[q]? = H[q]?) (hM : ∀ b k, b ≠ a → M1 b k = M b k) (hN : ∀ b k, b ≠ a → N1 b k = N b k) (hR : ∀ b k, b ≠ a → R1 b k = R b k) (hs : hw_c D g M1 N1 R1 a s0 H1) : HW D g σ M1 N1 R1 H1 := by
  intro b s hb
  by_cases hab : b = a
  · subst hab
    cases Option.some.inj (ha.symm.trans hb)
    exact hs
  · have hv : ∀ t j, hw_v t M1 N1 R1 b j = hw_v t M N R b j := fun t j => by
      match t with
      | 0 => simp only [hw_v, hM b j hab]
      | 1 => simp only [hw_v, hN b j hab]
      | (n + 2) => simp only [hw_v, hR b j hab]
    obtain ⟨h1, h2⟩ := h b s hb
    refine ⟨fun q => ?_, fun q => ?_⟩
    · exact ((h1 q).kept (oq b hab)).to (fun k _ => (hv _ k).symm)
    · rw [oq b hab, h2 q]
      congr 2
      funext j
      exact (hv _ j).symm
theorem HW.other {D : va_G} {g : Nat → ClassId} {σ : Nat → Option Nat} {M : hM} {N : hN} {R : hR} {H H1 : Heap} (h : HW D g σ M N R H) (oq : ∀ q : Nat, σ q ≠ none → H1[q]? = H[q]?) : HW D g σ M N R H1 := by
  intro b s hb
  have hq := oq b (by rw [hb]; exact fun q => by cases q)
  obtain ⟨h1, h2⟩ := h b s hb
  exact ⟨fun q => (h1 q).kept hq, fun q => by rw [hq]; exact h2 q⟩
theorem HW.lt {D : va_G} {g : Nat → ClassId} {σ : Nat → Option Nat} {M : hM} {N : hN} {R : hR} {H : Heap} (h : HW D g σ M N R H) {a s : Nat} (ha : σ a = some s) : a < H.size := by
  obtain ⟨h1, h2⟩ := h a s ha
  by_cases q : s < 10
  · obtain ⟨cell, hc, -⟩ := h1 q
    exact (Array.getElem?_eq_some_iff.mp hc).1
  · exact (Array.getElem?_eq_some_iff.mp (h2 (by omega))).1
theorem hAg.rf {σ : Nat → Option Nat} {l : List (Nat × Nat)} {M : hM} : hAg σ l M M := fun _ _ _ _ _ => rfl
theorem hAg.put {σ : Nat → Option Nat} {l : List (Nat × Nat)} {M0 M : hM} {a s0 k : Nat} {v : Int32} (h : hAg σ l M0 M) (ha : σ a = some s0) (he : ef l s0 k = true) : hAg σ l M0 (u2 M a k v) := by
  intro b s j hb hf
  by_cases q : b = a ∧ j = k
  · obtain ⟨rfl, rfl⟩ := q
    cases Option.some.inj (ha.symm.trans hb)
    rw [he] at hf
    cases hf
  · rw [u2_n q]
    exact h b s j hb hf
theorem hAg.then {σ : Nat → Option Nat} {l1 l : List (Nat × Nat)} {M0 M M1 : hM} (h : hAg σ l M0 M) (h1 : hAg σ l1 M M1) (hs : efsub l1 l = true) : hAg σ l M0 M1 := by
  intro b s j hb hf
  have hf1 : ef l1 s j = false := by
    cases q : ef l1 s j with
    | false => rfl
    | true => rw [efsub_ok hs q] at hf; cases hf
  rw [h1 b s j hb hf1]
  exact h b s j hb hf
theorem hT.put {σ : Nat → Option Nat} {M : hM} {R : hR} {a s0 k : Nat} {v : Int32} (h : hT σ M R) (ha : σ a = some s0) (hv : iv v (ti s0 k).1 (ti s0 k).2) : hT σ (u2 M a k v) R := by
  refine ⟨fun b s hb j hj => ?_, h.2⟩
  by_cases q : b = a ∧ j = k
  · obtain ⟨rfl, rfl⟩ := q
    cases Option.some.inj (ha.symm.trans hb)
    rw [u2_s]
    exact hv
  · rw [u2_n q]
    exact h.1 b s hb j hj
theorem hT.putR {σ : Nat → Option Nat} {M : hM} {R : hR} {a s0 k v t : Nat} (h : hT σ M R) (ha : σ a = some s0) (ht : t ∈ tl s0 k) (hv : σ v = some t) : hT σ M (u2 R a k v) := by
  refine ⟨h.1, fun b s hb j hj => ?_⟩
  by_cases q : b = a ∧ j = k
  · obtain ⟨rfl, rfl⟩ := q
    cases Option.some.inj (ha.symm.trans hb)
    rw [u2_s]
    exact Or.inr ⟨t, ht, hv⟩
  · rw [u2_n q]
    exact h.2 b s hb j hj
theorem hT.r1 {σ : Nat → Option Nat} {M : hM} {R : hR} {a s0 : Nat} (h : hT σ M R) (ha : σ a = some s0) (k t : Nat) (hk : k < hs_n s0) (ht : tl s0 k = [t]) : σ (R a k) = some t := by
  rcases h.2 a s0 ha k hk with q | ⟨t', h1, h2⟩
  · rw [ht] at q; cases q
  · rw [ht] at h1
    rw [List.mem_singleton.mp h1] at h2
    exact h2
theorem hT.r2 {σ : Nat → Option Nat} {M : hM} {R : hR} {a s0 : Nat} (h : hT σ M R) (ha : σ a = some s0) (k t1 t2 : Nat) (hk : k < hs_n s0) (ht : tl s0 k = [t1, t2]) : σ (R a k) = some t1 ∨ σ (R a k) = some t2 := by
  rcases h.2 a s0 ha k hk with q | ⟨t', h1, h2⟩
  · rw [ht] at q; cases q
  · rw [ht] at h1
    rcases List.mem_cons.mp h1 with e | e
    · rw [e] at h2; exact Or.inl h2
    · rw [List.mem_singleton.mp e] at h2; exact Or.inr h2
