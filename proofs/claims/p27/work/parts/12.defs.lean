/-! ===== more of the reference ===== -/
def J49 (f47 f49 : Nat → Int32) : Prop := ∀ k : Nat, k < 5 → (f47 k).toInt = 2 → (f49 k).toInt ≠ 0
theorem J49_back {f47 f49 : Nat → Int32} {i j : Nat} {z : Int32} (h : J49 f47 f49) (hij : i = j) (hz : z.toInt ≠ 0) : J49 (upd f47 i 2) (upd f49 j z) := by
  subst hij
  intro k hk h2
  unfold upd at h2 ⊢
  by_cases e : k = i
  · rw [if_pos e]; exact hz
  · rw [if_neg e] at h2 ⊢; exact h k hk h2
theorem J49_sail {f47 f49 : Nat → Int32} {i : Nat} (h : J49 f47 f49) : J49 (upd f47 i 1) f49 := by
  intro k hk h2
  unfold upd at h2
  by_cases e : k = i
  · rw [if_pos e] at h2; exact absurd h2 (by decide)
  · rw [if_neg e] at h2; exact h k hk h2
theorem sub_nz {z a b : Int32} (e : z = a - b) (h : b.toInt ≠ a.toInt) : z.toInt ≠ 0 := by
  intro h2
  apply h
  have h3 : a - b = 0 := by rw [← e]; exact i_eq.mpr (by rw [h2]; rfl)
  have h4 : a = b := by
    have h5 := congrArg (fun t : Int32 => t + b) h3
    simpa using h5
  rw [h4]
def val4 (f : Nat → Int32) : Nat → Int
  | 0 => 0
  | n + 1 => 4 * val4 f n + (f n).toInt
theorem val4_succ (f : Nat → Int32) (n : Nat) : val4 f (n + 1) = 4 * val4 f n + (f n).toInt := rfl
theorem val4_out {f : Nat → Int32} {i : Nat} {v : Int32} : ∀ n : Nat, n ≤ i → val4 (upd f i v) n = val4 f n
  | 0, _ => rfl
  | n + 1, h => by
    rw [val4_succ, val4_succ, val4_out n (by omega)]
    have e : upd f i v n = f n := by unfold upd; rw [if_neg (by omega)]
    rw [e]
theorem val4_upd {f : Nat → Int32} {i : Nat} {v : Int32} : ∀ n : Nat, i < n → val4 (upd f i v) n = val4 f n + (v.toInt - (f i).toInt) * 4 ^ (n - 1 - i)
  | 0, h => absurd h (Nat.not_lt_zero i)
  | n + 1, h => by
    rw [val4_succ, val4_succ]
    by_cases e : i = n
    · subst e
      rw [val4_out i (Nat.le_refl i)]
      have e2 : upd f i v i = v := by unfold upd; rw [if_pos rfl]
      rw [e2, show i + 1 - 1 - i = 0 by omega, Int.pow_zero]
      omega
    · have e2 : upd f i v n = f n := by unfold upd; rw [if_neg (fun q => e q.symm)]
      rw [val4_upd n (by omega), e2, show n + 1 - 1 - i = (n - 1 - i) + 1 by omega, Int.pow_succ]
      generalize (4 : Int) ^ (n - 1 - i) = T
      rw [show (v.toInt - (f i).toInt) * (T * 4) = 4 * ((v.toInt - (f i).toInt) * T) by rw [Int.mul_comm T 4, ← Int.mul_assoc, Int.mul_comm (v.toInt - (f i).toInt) 4, Int.mul_assoc]]
      generalize (v.toInt - (f i).toInt) * T = U
      omega
theorem val4_rng {f : Nat → Int32} (h : ∀ k : Nat, k < 9 → 0 ≤ (f k).toInt ∧ (f k).toInt ≤ 3) : ∀ n : Nat, n ≤ 9 → 0 ≤ val4 f n ∧ val4 f n + 1 ≤ 4 ^ n
  | 0, _ => ⟨Int.le_refl 0, by show (0 : Int) + 1 ≤ 4 ^ 0; decide⟩
  | n + 1, hn => by
    have h1 := val4_rng h n (by omega)
    have h2 := h n (by omega)
    rw [val4_succ, Int.pow_succ]
    generalize (4 : Int) ^ n = T at h1 ⊢
    omega
theorem pow4_9 : ∀ n : Nat, n ≤ 9 → (4 : Int) ^ n ≤ 262144 := by decide
theorem val4_max {f : Nat → Int32} (h : ∀ k : Nat, k < 9 → 0 ≤ (f k).toInt ∧ (f k).toInt ≤ 3) {n : Int32} (h0 : 0 ≤ n.toInt) (h9 : n.toInt ≤ 9) : 0 ≤ val4 f n.toNatClampNeg ∧ val4 f n.toNatClampNeg ≤ 262143 := by
  have hc := i_clamp0 h0
  have h1 := val4_rng h n.toNatClampNeg (by omega)
  have h2 := pow4_9 n.toNatClampNeg (by omega)
  omega
/-- the carry: digit i was 3 and is 0 now -/
theorem carry_0 {f : Nat → Int32} {n i j z : Int32} {V : Int} (hi : 0 ≤ i.toInt) (hn : i.toInt < n.toInt) (hj : j.toInt = i.toInt - 1) (hz : z = f i.toNatClampNeg) (hz3 : z.toInt = 3) (h : val4 f n.toNatClampNeg + 4 ^ (n.toInt - 1 - i.toInt).toNat = V + 1) : val4 (upd f i.toNatClampNeg 0) n.toNatClampNeg + 4 ^ (n.toInt - 1 - j.toInt).toNat = V + 1 := by
  have c1 := i_clamp0 hi
  have c2 := i_clamp0 (x := n) (by omega)
  rw [val4_upd _ (by omega), ← hz, hz3, show (n.toInt - 1 - j.toInt).toNat = (n.toInt - 1 - i.toInt).toNat + 1 by omega, Int.pow_succ, show n.toNatClampNeg - 1 - i.toNatClampNeg = (n.toInt - 1 - i.toInt).toNat by omega]
  have e : (0 : Int32).toInt = 0 := by decide
  rw [e]
  generalize (4 : Int) ^ (n.toInt - 1 - i.toInt).toNat = T at h ⊢
  omega
theorem carry_1 {f : Nat → Int32} {n i z y : Int32} {V : Int} (hi : 0 ≤ i.toInt) (hn : i.toInt < n.toInt) (hz : z = f i.toNatClampNeg) (hy : y.toInt = z.toInt + 1) (h : val4 f n.toNatClampNeg + 4 ^ (n.toInt - 1 - i.toInt).toNat = V + 1) : val4 (upd f i.toNatClampNeg y) n.toNatClampNeg = V + 1 := by
  have c1 := i_clamp0 hi
  have c2 := i_clamp0 (x := n) (by omega)
  rw [val4_upd _ (by omega), ← hz, hy, show n.toNatClampNeg - 1 - i.toNatClampNeg = (n.toInt - 1 - i.toInt).toNat by omega]
  generalize (4 : Int) ^ (n.toInt - 1 - i.toInt).toNat = T at h ⊢
  rw [show (z.toInt + 1 - z.toInt) = 1 by omega, Int.one_mul]
  omega
theorem carry_e {f g : Nat → Int32} {n i : Int32} (h0 : 0 ≤ n.toInt) (h9 : n.toInt ≤ 9) (hi : i.toInt = -1) (hf : ∀ k : Nat, k < 9 → 0 ≤ (f k).toInt ∧ (f k).toInt ≤ 3) (hg : ∀ k : Nat, k < 9 → 0 ≤ (g k).toInt ∧ (g k).toInt ≤ 3) (h : val4 f n.toNatClampNeg + 4 ^ (n.toInt - 1 - i.toInt).toNat = val4 g n.toNatClampNeg + 1) : val4 f n.toNatClampNeg = 0 := by
  have c2 := i_clamp0 h0
  have h1 := val4_rng hf n.toNatClampNeg (by omega)
  have h2 := val4_rng hg n.toNatClampNeg (by omega)
  rw [show (n.toInt - 1 - i.toInt).toNat = n.toNatClampNeg by omega] at h
  omega
theorem carry_s {f : Nat → Int32} {n i : Int32} (hi : i.toInt = n.toInt - 1) : val4 f n.toNatClampNeg + 4 ^ (n.toInt - 1 - i.toInt).toNat = val4 f n.toNatClampNeg + 1 := by
  rw [show (n.toInt - 1 - i.toInt).toNat = 0 by omega]; rfl
