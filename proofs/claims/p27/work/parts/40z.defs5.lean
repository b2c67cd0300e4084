def loD (t : Int32) : Int32 := if t.toInt < 30 then 0 else t - 30
theorem asks_r {f : Nat → Int32} {a b c : Int32} (ha : 0 ≤ a.toInt ∧ a.toInt ≤ 15) (hb : 0 ≤ b.toInt ∧ b.toInt ≤ 15) (hc : 0 ≤ c.toInt ∧ c.toInt ≤ 15) : ∀ k : Nat, k < 3 → 0 ≤ (upd (upd (upd f (0 : Int32).toNatClampNeg a) (1 : Int32).toNatClampNeg b) (2 : Int32).toNatClampNeg c k).toInt ∧ (upd (upd (upd f (0 : Int32).toNatClampNeg a) (1 : Int32).toNatClampNeg b) (2 : Int32).toNatClampNeg c k).toInt ≤ 15 := by
  intro k hk
  have e0 : (0 : Int32).toNatClampNeg = 0 := by decide
  have e1 : (1 : Int32).toNatClampNeg = 1 := by decide
  have e2 : (2 : Int32).toNatClampNeg = 2 := by decide
  rw [e0, e1, e2]
  unfold upd
  rcases (show k = 0 ∨ k = 1 ∨ k = 2 by omega) with rfl | rfl | rfl
  · exact ha
  · exact hb
  · exact hc
theorem i2l_nz {x : Int32} {z : Int64} (e : x.toInt64 = z) (h : x.toInt ≠ 0) : ¬ z = 0 := by
  intro h2
  apply h
  rw [h2] at e
  have h3 := congrArg Int64.toInt e
  rw [Int32.toInt_toInt64] at h3
  rw [h3]; rfl
theorem fill_all {P : Nat → Prop} {i j : Int32} (h0 : 0 ≤ i.toInt) (hj : j.toInt = i.toInt + 1) (h : ∀ k : Nat, (k : Int) < i.toInt → P k) (hi : P i.toNatClampNeg) : ∀ k : Nat, (k : Int) < j.toInt → P k := by
  intro k hk
  have hc := i_clamp0 h0
  by_cases e : k = i.toNatClampNeg
  · rw [e]; exact hi
  · exact h k (by omega)
