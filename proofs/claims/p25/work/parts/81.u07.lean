set_option maxHeartbeats 4000000 in
set_option maxRecDepth 100000 in
theorem U_X8_state (l : Launch) (D : va_G) (E : Nat → Nat) (q : Nat)  (p0 : Int32) (sz : Nat) (s : XS) (hX : XI s)  : Met l yX8_state (wl yX8_state cX8_state 2 (some .int)) (RM 1 0 0) (mu_P D E [.ref q, .int p0] (XW E q s) sz) (va_Qi (fun (r : Int32) (s' : XS) => XI s' ∧ RX_X8_state p0 r s s') (mu_B D (va_A (XW E q s) sz) (XW E q)) (va_A (XW E q s) sz)) 0 0 (va_A (XW E q s) sz) := by
  obtain ⟨A, B, V, G, F, Q, wa, wf, ya, yv, yf⟩ := s
  have hX0 := hX
  obtain ⟨hv0, hv1, hv2, hv4, hv9, hv10, hv11, hv13, hv14, hv15, hrd, jq, hsg⟩ : (0 ≤ (V 0).toInt ∧ (V 0).toInt ≤ 399) ∧ (0 ≤ (V 1).toInt ∧ (V 1).toInt ≤ 60) ∧ (0 ≤ (V 2).toInt ∧ (V 2).toInt ≤ 60) ∧ (0 ≤ (V 4).toInt ∧ (V 4).toInt ≤ 120) ∧ (0 ≤ (V 9).toInt ∧ (V 9).toInt ≤ 9) ∧ (0 ≤ (V 10).toInt ∧ (V 10).toInt ≤ 9) ∧ (0 ≤ (V 11).toInt ∧ (V 11).toInt ≤ 3) ∧ (0 ≤ (V 13).toInt ∧ (V 13).toInt ≤ 120) ∧ (0 ≤ (V 14).toInt ∧ (V 14).toInt ≤ 120) ∧ (0 ≤ (V 15).toInt ∧ (V 15).toInt ≤ 120) ∧ (∀ k : Nat, k < 60 → 0 ≤ (F 9 k).toInt ∧ (F 9 k).toInt ≤ 399) ∧ JQ (F 1) Q ∧ (∀ i : Nat, i < 5 → 0 ≤ (yv i 0).toInt ∧ (yv i 0).toInt ≤ 40) := hX
  by_cases hk : 0 ≤ p0.toInt ∧ p0.toInt ≤ 4
  · have hj : (p0).toNatClampNeg < 5 := by have h9 := i_clamp0 (x := p0) (by omega); omega
    have hsi := hsg (p0).toNatClampNeg hj
    exact up_ri (T := XS) (w2 := XW E q) (A, B, V, G, F, Q, wa, wf, ya, yv, yf) (g_X8_state_S l D E q A (B 0) (B 1) (V 0) (fun k => some (ya k 7)) (ya (p0).toNatClampNeg 7) (ya (p0).toNatClampNeg) (yv (p0).toNatClampNeg 0) (yv (p0).toNatClampNeg 1) (yv (p0).toNatClampNeg 2) (yv (p0).toNatClampNeg 3) p0 (by omega) (by omega) hk rfl) (Nat.le_of_ble_eq_true rfl) (pm_sub (XWp (pm_poolV (B := (SB E ya yv yf (p0).toNatClampNeg)) (pr := (wpool E Q wa wf ++ srest E ya yv yf (p0).toNatClampNeg)) (pl_s (spool_ex hj)) (pe2 mlX_000 pv_47)))) rfl (fun r hp => ⟨hX0, Or.inl ⟨hk, hp, rfl, rfl, rfl, rfl, rfl, rfl, rfl, rfl, rfl, rfl, rfl, rfl, rfl, rfl, rfl, rfl, rfl⟩⟩)
  ·
    exact up_ri (T := XS) (w2 := XW E q) (A, B, V, G, F, Q, wa, wf, ya, yv, yf) (g_X8_state_T l D E q A (B 0) (B 1) (V 0) (fun k => some (ya k 7)) p0 (by omega) hk) (Nat.le_of_ble_eq_true rfl) (pm_sub (XWp (pm_tailV (pe mlX_000 pv_44)))) rfl (fun r hp => ⟨hX0, Or.inr ⟨hk, hp, rfl, rfl, rfl, rfl, rfl, rfl, rfl, rfl, rfl, rfl, rfl, rfl, rfl, rfl, rfl, rfl, rfl⟩⟩)
