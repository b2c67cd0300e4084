theorem lc_gt {x y : Int64} (h : 0 < lg_cmp x y ∨ ¬ lg_cmp x y ≤ 0) : ¬ x = y := by
  intro e
  subst e
  have e2 : lg_cmp x x = 0 := by simp [lg_cmp]
  rw [e2] at h
  revert h
  decide
