/-! ===== more of the reference ===== -/
def J49 (f47 f49 : Nat → Int32) : Prop := ∀ k : Nat, k < 5 → (f47 k).toInt = 2 → (f49 k).toInt ≠ 0
theorem J49_back {f47 f49 : Nat → Int32} {i j : Nat} {z : Int32} (h : J49 f47 f49) (hij : i = j) (hz : z.toInt ≠ 0) : J49 (upd f47 i 2) (upd f49 j z) := by
  subst hij
  intro k hk h2
  unfold upd at h2 ⊢
  by_cases e : k = i
  · rw [if_pos e]; exact hz
  · rw [if_neg e] at h2 ⊢; exact h k hk h2
theorem J49_sail {f47 f49 : Nat → Int32} {i : Nat} (h : J49 f47 f49) : J49 (upd f47 i 1) f49 := by
  intro k hk h2
  unfold upd at h2
  by_cases e : k = i
  · rw [if_pos e] at h2; exact absurd h2 (by decide)
  · rw [if_neg e] at h2; exact h k hk h2
theorem sub_nz {z a b : Int32} (e : z = a - b) (h : b.toInt ≠ a.toInt) : z.toInt ≠ 0 := by
  intro h2
  apply h
  have h3 : a - b = 0 := by rw [← e]; exact i_eq.mpr (by rw [h2]; rfl)
  have h4 : a = b := by
    have h5 := congrArg (fun t : Int32 => t + b) h3
    simpa using h5
  rw [h4]
