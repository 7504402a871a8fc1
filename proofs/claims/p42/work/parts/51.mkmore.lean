section CRX
variable {p : Program} {l : Launch} {e : Env} {Rm : Room} {s : State} {m : MethodId} {args : Array Value} {below : List Frame} {meth : Method} {c : Code} {H : Heap} {locs : List Loc} {cells slots : Nat} {Q : State → Prop} {cc : ByteArray} {pc : Nat} {ls : Array Slot} {rest st0 : List Value}
  {D : va_G} {g : Nat → ClassId} {A : Nat → Prop} {we : va_W} {rs : List (Nat × Nat)} {zz : Bool}
theorem cJ.weak (hJ : cJ D g A we rs zz H) : cJ D g A we rs false H := by
  obtain ⟨g1, g2, σ, M, N, R, h3, h4, h5, h6, -⟩ := hJ
  exact ⟨g1, g2, σ, M, N, R, h3, h4, h5, h6, fun h => by cases h⟩
theorem cJ.swap {u v : Nat × va_E} (hJ : cJ D g A [u, v] rs zz H) : cJ D g A [v, u] rs zz H := by
  obtain ⟨g1, g2, σ, M, N, R, h3, h4, h5, h6, h7⟩ := hJ
  have hm : ∀ (k : Nat) (x : Nat × va_E), [v, u][k]? = some x → ∃ j, j = 1 - k ∧ k < 2 ∧ [u, v][j]? = some x := fun k x hx => by
    match k, hx with
    | 0, hx => exact ⟨1, rfl, by omega, hx⟩
    | 1, hx => exact ⟨0, rfl, by omega, hx⟩
    | (n + 2), hx => simp at hx
  refine ⟨fun k x hx => ?_, ⟨fun i j x y hx hy hxy => ?_, fun k x hx => ?_⟩, σ, M, N, R, h3, h4, fun a ha => ⟨(h5 a ha).1, fun k x hx => ?_⟩, h6, h7⟩
  · obtain ⟨j, -, -, hj⟩ := hm k x hx
    exact g1 j x hj
  · obtain ⟨i', e1, l1, hi⟩ := hm i x hx
    obtain ⟨j', e2, l2, hj⟩ := hm j y hy
    have := g2.1 i' j' x y hi hj hxy
    omega
  · obtain ⟨j, -, -, hj⟩ := hm k x hx
    exact g2.2 j x hj
  · obtain ⟨j, -, -, hj⟩ := hm k x hx
    exact (h5 a ha).2 j x hj
theorem c_vA0 (hS : va_S A s.heap H locs) (hA : ∀ q, s.heap.size ≤ q → A q) : ∀ q, va_A [] H.size q → A q := fun q h => h.elim (fun ⟨k, e, h⟩ => by simp at h) (fun h => hA q (Nat.le_trans hS.1 h))
theorem c_vA1 {q : Nat} (hq : q < H.size) : ¬ va_A [] H.size q := fun h => h.elim (fun ⟨k, e, h⟩ => by simp at h) (fun h => absurd hq (Nat.not_lt.mpr h))
/-- a call that touches none of the cells -/
theorem c_goi0 {post : Int32 → va_W → Prop} {av : Array Value} (hJ : cJ D g A we rs zz H) (hS : va_S A s.heap H locs) (hA : ∀ q, s.heap.size ≤ q → A q) (hr : va_Run p l e Rm s m args below meth c H locs cells slots 0 0 (F0 m pc ls st0) rest (kQi D g post (va_A [] H.size) av) (va_A [] H.size))
    (kk : ∀ (r : Int32) (u : va_W) (H1 : Heap) (locs1 : List Loc), post r u → cJ D g A we rs zz H1 → va_S A s.heap H1 locs1 → W p l e Rm s m args below meth c H1 locs1 cells slots Q (F0 m (pc + 3) ls (.int r :: rest))) : W p l e Rm s m args below meth c H locs cells slots Q (F0 m pc ls st0) :=
  va_calli hr hS (fun q _ h => c_vA0 hS hA q h) (c_vA0 hS hA) (fun r u t H1 locs1 ht hvm hw hB hz1 hk1 hS1 => kk r u H1 locs1 hw (hJ.kept (fun q hq => hk1 q hq (c_vA1 hq))) hS1)
theorem c_gol0 {post : Int64 → va_W → Prop} {av : Array Value} (hJ : cJ D g A we rs zz H) (hS : va_S A s.heap H locs) (hA : ∀ q, s.heap.size ≤ q → A q) (hr : va_Run p l e Rm s m args below meth c H locs cells slots 0 0 (F0 m pc ls st0) rest (kQl D g post (va_A [] H.size) av) (va_A [] H.size))
    (kk : ∀ (r : Int64) (u : va_W) (H1 : Heap) (locs1 : List Loc), post r u → cJ D g A we rs zz H1 → va_S A s.heap H1 locs1 → W p l e Rm s m args below meth c H1 locs1 cells slots Q (F0 m (pc + 3) ls (.long r :: rest))) : W p l e Rm s m args below meth c H locs cells slots Q (F0 m pc ls st0) :=
  va_calll hr hS (fun q _ h => c_vA0 hS hA q h) (c_vA0 hS hA) (fun r u t H1 locs1 ht hvm hw hB hz1 hk1 hS1 => kk r u H1 locs1 hw (hJ.kept (fun q hq => hk1 q hq (c_vA1 hq))) hS1)
theorem c_pre0 {As : List Value} (hK : va_K D vwCl (kY g) s) : PreS s H (va_Pc As (kPre D g [] H.size)) As := k_preS (A := fun _ => True) hK (fun k q h => by simp at h) ⟨fun i j p q h => by simp at h, fun k q h => by simp at h⟩
theorem c_alen (hx : p.tables.exec = Jvm.exec) (hb : c.code = cc) (hK : va_K D vwCl (kY g) s) (hJ : cJ D g A we rs zz H) {a so n : Nat} {v : Int32} (ha : (a, so) ∈ rs) (hs : 10 ≤ so) (ht : hs_a so = (2, n)) (hv : Int32.ofNat n = v) (hdg : decode cc pc = .ok (.arraylength, 1))
    (kk : W p l e Rm s m args below meth c H locs cells slots Q (F0 m (pc + 1) ls (.int v :: rest))) : W p l e Rm s m args below meth c H locs cells slots Q (F0 m pc ls (.ref a :: rest)) := by
  obtain ⟨g1, g2, σ, M, N, R, h3, h4, h5, h6, h7⟩ := hJ
  have h := (h3 a so (h6 _ ha)).2 hs
  rw [ht] at h
  exact va_alen (D := D) hx hb hK (va_P1 (q := (a, .inl (g 2, n, .inr (.inl (N a))))) h) 0 2 rfl rfl hv hdg kk
theorem c_last (hx : p.tables.exec = Jvm.exec) (hb : c.code = cc) (hK : va_K D vwCl (kY g) s) (hJ : cJ D g A we rs zz H) (hS : va_S A s.heap H locs) {a so n : Nat} {i : Int32} {x : Int64} (ha : (a, so) ∈ rs) (hs : 10 ≤ so) (ht : hs_a so = (2, n)) (hin : vp_in i n) (hdg : decode cc pc = .ok (.lastore, 1))
    (kk : ∀ (H1 : Heap) (locs1 : List Loc), cJ D g A we rs zz H1 → va_S A s.heap H1 locs1 → W p l e Rm s m args below meth c H1 locs1 cells slots Q (F0 m (pc + 1) ls rest)) : W p l e Rm s m args below meth c H locs cells slots Q (F0 m pc ls (.long x :: .int i :: .ref a :: rest)) := by
  obtain ⟨g1, g2, σ, M, N, R, h3, h4, h5, h6, h7⟩ := hJ
  have ga := h6 _ ha
  have gn : σ a ≠ none := by rw [show σ a = some so from ga]; exact fun q => by cases q
  have h := (h3 a so ga).2 hs
  rw [ht] at h
  refine W.last hx hb h ((hK.2 2 _ rfl).1 n _) (fun q => by cases q) (by rw [arrV_size]; exact hin) rfl rfl hdg fun H1 e z oq => kk H1 _ ⟨g1.kept (fun k y hy => oq y.1 ((h5 a gn).2 k y hy)), g2, σ, M, u2 N a i.toNatClampNeg x, R, h3.step ga oq (fun _ _ _ => rfl) (fun b j h => u2_a h) (fun _ _ _ => rfl) ⟨fun q => absurd hs (by omega), fun _ => ?_⟩, h4, h5, h6, h7⟩ (hS.put z oq (h5 a gn).1)
  rw [e, arrV_store, ht]
  congr 2
  funext j
  by_cases q : j = i.toNatClampNeg
  · subst q; simp only [updV, if_true, hw_v, hs_k, u2_s]
  · simp only [updV, q, if_false, hw_v, hs_k, u2_k q]
end CRX
