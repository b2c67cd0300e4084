set_option maxHeartbeats 4000000 in
set_option maxRecDepth 100000 in
theorem g_X8_watchAt_O (l : Launch) (D : va_G) (E : Nat → Nat) (xh : Nat) (xa : Nat → Nat) (xtrialRule : Nat) (xdropRule : Nat) (xtoday : Int32) (xf1 : Nat → Int32) (xf3 : Nat → Option Nat) (p0 : Int32) (hi_x : (0 ≤ xtoday.toInt ∧ xtoday.toInt ≤ 399)) (jq : JQ xf1 xf3) : Met l yX8_watchAt (wl yX8_watchAt cX8_watchAt 2 (some (.object "SeaWatches$Watch"))) (RM 1 0 0) (rd_P D E [.ref xh, .int p0] [(xh, .inr (8, G8 xa xtrialRule xdropRule xtoday)), ((xa 1), .inl (E 0, 16, .inl xf1)), ((xa 3), .inl (E 3, 16, .inr (.inr (.inr (.inr xf3)))))]) (ro_Q (fun r => (r = none ∧ ¬ (0 ≤ p0.toInt ∧ p0.toInt ≤ 15 ∧ ((xf1 (p0).toNatClampNeg).toInt = 0 ∨ (xf1 (p0).toNatClampNeg).toInt = 1))) ∨ (r ≠ none ∧ (0 ≤ p0.toInt ∧ p0.toInt ≤ 15 ∧ ((xf1 (p0).toNatClampNeg).toInt = 0 ∨ (xf1 (p0).toNatClampNeg).toInt = 1))))) 0 0 (fun _ => False) := by
  refine Met.ofW (cc := cX8_watchAt) (maxL := 2) (ret := (some (.object "SeaWatches$Watch"))) (by decide) rfl ?_
  intro p e s m args below meth c s₁ B hml hv
  obtain ⟨rfl, hP, hK⟩ := hv
  have hx := B.exec; have hb := B.bytes; have hr := B.returns
  have hts := atoms_spec (ws := wl yX8_watchAt cX8_watchAt 2 (some (.object "SeaWatches$Watch"))) B.pre
  have htb : ∀ w ∈ tb, w.before _ s = true := fun w h => hts w (List.mem_cons_of_mem _ h)
  have hown : s.vm.findClass RX8 = some m.cls := findClass_of_methodNamed B.named
  have hlocks := B.notSynchronized
  have hP : va_P D vwCl [(xh, .inr (8, G8 xa xtrialRule xdropRule xtoday)), ((xa 1), .inl (E 0, 16, .inl xf1)), ((xa 3), .inl (E 3, 16, .inr (.inr (.inr (.inr xf3)))))] s.heap := hP
  have hl := lv_entry ([.ref xh, .int p0]) (n := 2) (Nat.le_of_ble_eq_true rfl)
  rw [lg_entry_eq]
  generalize (lg_sl ([.ref xh, .int p0]) ++ List.replicate (2 - (lg_sl ([.ref xh, .int p0])).length) Slot.unset).toArray = ls at hl ⊢
  have hl : lv_has ls 2 [(0, .ref xh), (1, .int p0)] := hl
  have lo_p0 := i_lo p0; have hi_p0 := i_hi p0
  refine lv_iload_n hx hb dX8_watchAt_0 rfl (lv_at hl 1 rfl) ?_
  refine callRS (rest := []) (As := [.int p0]) hx hb hml hown htb hK (g_X8_isPlace l D E p0 ) ok_X8_isPlace k_333 k_334 k_1 k_335 ⟨(Nat.le_of_ble_eq_true rfl), (Nat.le_of_ble_eq_true rfl)⟩ ⟨(Nat.le_of_ble_eq_true rfl), (Nat.le_of_ble_eq_true rfl)⟩ hl.1 (Nat.le_of_ble_eq_true rfl) rfl rfl dX8_watchAt_1 (hP.sub (ws' := ([] : va_W)) [] rfl) (fun r_1 hw_2 => ?_)
  rcases hw_2 with ⟨hr_1, hw_2⟩ | ⟨hr_1, hw_2⟩
  ·
    refine W_top (y := .int 1) (by rw [hr_1]) ?_
    refine lv_if_eq (tgt := 26) hx hb dX8_watchAt_4 (by decide) (fun c_4 => absurd c_4 (by decide)) (fun c_4 => ?_)
    refine lv_aload_n hx hb dX8_watchAt_7 rfl (lv_at hl 0 rfl) ?_
    refine va_get (D := D) (ci := 8) (v := .ref (xa 1)) (C := RX8) (T := TX8) (N := 14) hx hb htb iX8 hown hK.1 hP 0 rfl rfl 1 (by decide) (htb _ k_273) (fun _ h9 => h9) rfl dX8_watchAt_8 ?_
    refine lv_iload_n hx hb dX8_watchAt_11 rfl (lv_at hl 1 rfl) ?_
    refine va_iald hx hb hK.1 hP 1 0 rfl rfl (g_in rfl (by omega) (by omega)) dX8_watchAt_12 ?_
    refine lv_topi (fun z_5 ez_5 => ?_)
    have kz_5 := congrArg Int32.toInt ez_5
    refine lv_if_eq (tgt := 28) hx hb dX8_watchAt_13 (by decide) (fun c_6 => ?_) (fun c_6 => ?_)
    ·
      have ic_6 : z_5.toInt = 0 := (g_eq rfl t_0).mp c_6
      clear c_6
      refine lv_aload_n hx hb dX8_watchAt_28 rfl (lv_at hl 0 rfl) ?_
      refine va_get (D := D) (ci := 8) (v := .ref (xa 3)) (C := RX8) (T := TX8) (N := 14) hx hb htb iX8 hown hK.1 hP 0 rfl rfl 3 (by decide) (htb _ k_275) (fun _ h9 => h9) rfl dX8_watchAt_29 ?_
      refine lv_iload_n hx hb dX8_watchAt_32 rfl (lv_at hl 1 rfl) ?_
      refine va_aldq hx hb hK.1 hP 2 3 rfl rfl (g_in rfl (by omega) (by omega)) dX8_watchAt_33 ?_
      generalize hro : xf3 (p0 : Int32).toNatClampNeg = ro
      exact W.aret (v := va_rf ro) hx hb hr (Or.inl ⟨_, rfl⟩) (va_rf_or ro) (fun t ht hW => ⟨ro, rfl, Or.inr ⟨by obtain ⟨h, e⟩ := jq (p0).toNatClampNeg (by have h9 := i_clamp0 (x := p0) (by omega); omega) (by omega); rw [← hro, e]; simp, by omega⟩, ht⟩) (fun q h => by cases h) dX8_watchAt_34
    ·
      have ic_6 : z_5.toInt ≠ 0 := mt (g_eq rfl t_0).mpr c_6
      clear c_6
      refine lv_aload_n hx hb dX8_watchAt_16 rfl (lv_at hl 0 rfl) ?_
      refine va_get (D := D) (ci := 8) (v := .ref (xa 1)) (C := RX8) (T := TX8) (N := 14) hx hb htb iX8 hown hK.1 hP 0 rfl rfl 1 (by decide) (htb _ k_273) (fun _ h9 => h9) rfl dX8_watchAt_17 ?_
      refine lv_iload_n hx hb dX8_watchAt_20 rfl (lv_at hl 1 rfl) ?_
      refine va_iald hx hb hK.1 hP 1 0 rfl rfl (g_in rfl (by omega) (by omega)) dX8_watchAt_21 ?_
      refine lv_topi (fun z_7 ez_7 => ?_)
      have kz_7 := congrArg Int32.toInt ez_7
      refine lv_iconst (v := 1) hx hb dX8_watchAt_22 (by decide) ?_
      refine lv_icmp_eq (tgt := 28) hx hb dX8_watchAt_23 (by decide) (fun c_8 => ?_) (fun c_8 => ?_)
      ·
        have ic_8 : z_7.toInt = 1 := (g_eq rfl t_1).mp c_8
        clear c_8
        refine lv_aload_n hx hb dX8_watchAt_28 rfl (lv_at hl 0 rfl) ?_
        refine va_get (D := D) (ci := 8) (v := .ref (xa 3)) (C := RX8) (T := TX8) (N := 14) hx hb htb iX8 hown hK.1 hP 0 rfl rfl 3 (by decide) (htb _ k_275) (fun _ h9 => h9) rfl dX8_watchAt_29 ?_
        refine lv_iload_n hx hb dX8_watchAt_32 rfl (lv_at hl 1 rfl) ?_
        refine va_aldq hx hb hK.1 hP 2 3 rfl rfl (g_in rfl (by omega) (by omega)) dX8_watchAt_33 ?_
        generalize hro : xf3 (p0 : Int32).toNatClampNeg = ro
        exact W.aret (v := va_rf ro) hx hb hr (Or.inl ⟨_, rfl⟩) (va_rf_or ro) (fun t ht hW => ⟨ro, rfl, Or.inr ⟨by obtain ⟨h, e⟩ := jq (p0).toNatClampNeg (by have h9 := i_clamp0 (x := p0) (by omega); omega) (by omega); rw [← hro, e]; simp, by omega⟩, ht⟩) (fun q h => by cases h) dX8_watchAt_34
      ·
        have ic_8 : z_7.toInt ≠ 1 := mt (g_eq rfl t_1).mpr c_8
        clear c_8
        refine lv_null hx hb dX8_watchAt_26 ?_
        exact W.aret hx hb hr (Or.inl ⟨_, rfl⟩) (Or.inl rfl) (fun t ht hW => ⟨none, rfl, Or.inl ⟨rfl, by omega⟩, ht⟩) (fun q h => by cases h) dX8_watchAt_27
  ·
    refine W_top (y := .int 0) (by rw [hr_1]) ?_
    refine lv_if_eq (tgt := 26) hx hb dX8_watchAt_4 (by decide) (fun c_9 => ?_) (fun c_9 => absurd (by decide) c_9)
    refine lv_null hx hb dX8_watchAt_26 ?_
    exact W.aret hx hb hr (Or.inl ⟨_, rfl⟩) (Or.inl rfl) (fun t ht hW => ⟨none, rfl, Or.inl ⟨rfl, by omega⟩, ht⟩) (fun q h => by cases h) dX8_watchAt_27
set_option maxHeartbeats 4000000 in
set_option maxRecDepth 100000 in
theorem g_X8_firstLack (l : Launch) (D : va_G) (E : Nat → Nat) (xh : Nat) (xa : Nat → Nat) (xtrialRule : Nat) (xdropRule : Nat) (xtoday : Int32) (xf1 : Nat → Int32) (xf3 : Nat → Option Nat) (p0 : Int32) (p1 : Int32) (p2 : Int32) (hi_x : (0 ≤ xtoday.toInt ∧ xtoday.toInt ≤ 399)) (jq : JQ xf1 xf3) : Met l yX8_firstLack (wl yX8_firstLack cX8_firstLack 4 (some .int)) (RM 2 0 0) (rd_P D E [.ref xh, .int p0, .int p1, .int p2] [(xh, .inr (8, G8 xa xtrialRule xdropRule xtoday)), ((xa 1), .inl (E 0, 16, .inl xf1)), ((xa 3), .inl (E 3, 16, .inr (.inr (.inr (.inr xf3)))))]) (rd_Q (fun r => ((r.toInt = 0 ∧ (0 ≤ p0.toInt ∧ p0.toInt ≤ 15 ∧ ((xf1 (p0).toNatClampNeg).toInt = 0 ∨ (xf1 (p0).toNatClampNeg).toInt = 1)) ∧ (0 ≤ p1.toInt ∧ p1.toInt ≤ 15 ∧ ((xf1 (p1).toNatClampNeg).toInt = 0 ∨ (xf1 (p1).toNatClampNeg).toInt = 1)) ∧ (0 ≤ p2.toInt ∧ p2.toInt ≤ 15 ∧ ((xf1 (p2).toNatClampNeg).toInt = 0 ∨ (xf1 (p2).toNatClampNeg).toInt = 1))) ∨ (¬ (0 ≤ p0.toInt ∧ p0.toInt ≤ 15 ∧ ((xf1 (p0).toNatClampNeg).toInt = 0 ∨ (xf1 (p0).toNatClampNeg).toInt = 1)) ∧ ((¬ (0 ≤ p0.toInt ∧ p0.toInt ≤ 15) ∧ r.toInt = -1) ∨ ((0 ≤ p0.toInt ∧ p0.toInt ≤ 15) ∧ (xf1 (p0).toNatClampNeg).toInt = -5 ∧ r.toInt = -2) ∨ ((0 ≤ p0.toInt ∧ p0.toInt ≤ 15) ∧ (xf1 (p0).toNatClampNeg).toInt ≠ -5 ∧ r.toInt = -3))) ∨ ((0 ≤ p0.toInt ∧ p0.toInt ≤ 15 ∧ ((xf1 (p0).toNatClampNeg).toInt = 0 ∨ (xf1 (p0).toNatClampNeg).toInt = 1)) ∧ ¬ (0 ≤ p1.toInt ∧ p1.toInt ≤ 15 ∧ ((xf1 (p1).toNatClampNeg).toInt = 0 ∨ (xf1 (p1).toNatClampNeg).toInt = 1)) ∧ ((¬ (0 ≤ p1.toInt ∧ p1.toInt ≤ 15) ∧ r.toInt = -1) ∨ ((0 ≤ p1.toInt ∧ p1.toInt ≤ 15) ∧ (xf1 (p1).toNatClampNeg).toInt = -5 ∧ r.toInt = -2) ∨ ((0 ≤ p1.toInt ∧ p1.toInt ≤ 15) ∧ (xf1 (p1).toNatClampNeg).toInt ≠ -5 ∧ r.toInt = -3))) ∨ ((0 ≤ p0.toInt ∧ p0.toInt ≤ 15 ∧ ((xf1 (p0).toNatClampNeg).toInt = 0 ∨ (xf1 (p0).toNatClampNeg).toInt = 1)) ∧ (0 ≤ p1.toInt ∧ p1.toInt ≤ 15 ∧ ((xf1 (p1).toNatClampNeg).toInt = 0 ∨ (xf1 (p1).toNatClampNeg).toInt = 1)) ∧ ¬ (0 ≤ p2.toInt ∧ p2.toInt ≤ 15 ∧ ((xf1 (p2).toNatClampNeg).toInt = 0 ∨ (xf1 (p2).toNatClampNeg).toInt = 1)) ∧ ((¬ (0 ≤ p2.toInt ∧ p2.toInt ≤ 15) ∧ r.toInt = -1) ∨ ((0 ≤ p2.toInt ∧ p2.toInt ≤ 15) ∧ (xf1 (p2).toNatClampNeg).toInt = -5 ∧ r.toInt = -2) ∨ ((0 ≤ p2.toInt ∧ p2.toInt ≤ 15) ∧ (xf1 (p2).toNatClampNeg).toInt ≠ -5 ∧ r.toInt = -3)))))) 0 0 (fun _ => False) := by
  refine Met.ofW (cc := cX8_firstLack) (maxL := 4) (ret := (some .int)) (by decide) rfl ?_
  intro p e s m args below meth c s₁ B hml hv
  obtain ⟨rfl, hP, hK⟩ := hv
  have hx := B.exec; have hb := B.bytes; have hr := B.returns
  have hts := atoms_spec (ws := wl yX8_firstLack cX8_firstLack 4 (some .int)) B.pre
  have htb : ∀ w ∈ tb, w.before _ s = true := fun w h => hts w (List.mem_cons_of_mem _ h)
  have hown : s.vm.findClass RX8 = some m.cls := findClass_of_methodNamed B.named
  have hlocks := B.notSynchronized
  have hP : va_P D vwCl [(xh, .inr (8, G8 xa xtrialRule xdropRule xtoday)), ((xa 1), .inl (E 0, 16, .inl xf1)), ((xa 3), .inl (E 3, 16, .inr (.inr (.inr (.inr xf3)))))] s.heap := hP
  have hl := lv_entry ([.ref xh, .int p0, .int p1, .int p2]) (n := 4) (Nat.le_of_ble_eq_true rfl)
  rw [lg_entry_eq]
  generalize (lg_sl ([.ref xh, .int p0, .int p1, .int p2]) ++ List.replicate (4 - (lg_sl ([.ref xh, .int p0, .int p1, .int p2])).length) Slot.unset).toArray = ls at hl ⊢
  have hl : lv_has ls 4 [(0, .ref xh), (1, .int p0), (2, .int p1), (3, .int p2)] := hl
  have lo_p0 := i_lo p0; have hi_p0 := i_hi p0
  have lo_p1 := i_lo p1; have hi_p1 := i_hi p1
  have lo_p2 := i_lo p2; have hi_p2 := i_hi p2
  refine lv_aload_n hx hb dX8_firstLack_0 rfl (lv_at hl 0 rfl) ?_
  refine lv_iload_n hx hb dX8_firstLack_1 rfl (lv_at hl 1 rfl) ?_
  refine ro_call (runRV (rest := []) (As := [.int p0]) hx hb hml hown htb (g_X8_watchAt_O l D E xh xa xtrialRule xdropRule xtoday xf1 xf3 p0 (by (try dsimp only); omega) jq) ok_X8_watchAt k_369 k_371 ks_1 k_1 k_372 ⟨(Nat.le_of_ble_eq_true rfl), (Nat.le_of_ble_eq_true rfl)⟩ ⟨(Nat.le_of_ble_eq_true rfl), (Nat.le_of_ble_eq_true rfl)⟩ hl.1 (Nat.le_of_ble_eq_true rfl) rfl rfl dX8_firstLack_2 (prV (hP.sub (ws' := [(xh, .inr (8, G8 xa xtrialRule xdropRule xtoday)), ((xa 1), .inl (E 0, 16, .inl xf1)), ((xa 3), .inl (E 3, 16, .inr (.inr (.inr (.inr xf3)))))]) [0, 1, 2] rfl) hK rfl rfl 0 rfl)) (fun hw_2 => ?_) (fun b_4 hw_2 => ?_)
  ·
    try dsimp only at hw_2
    have hk_5 : ¬ (0 ≤ p0.toInt ∧ p0.toInt ≤ 15 ∧ ((xf1 (p0).toNatClampNeg).toInt = 0 ∨ (xf1 (p0).toNatClampNeg).toInt = 1)) := hw_2.elim (fun h => h.2) (fun h => absurd rfl h.1)
    clear hw_2
    refine lv_ifnonnullN hx hb dX8_firstLack_5 ?_
    refine lv_aload_n hx hb dX8_firstLack_8 rfl (lv_at hl 0 rfl) ?_
    refine lv_iload_n hx hb dX8_firstLack_9 rfl (lv_at hl 1 rfl) ?_
    refine callRV (rest := []) (As := [.int p0]) hx hb hml hown htb hK (g_X8_lackAt l D E xh xa xtrialRule xdropRule xtoday xf1 p0 (by (try dsimp only); omega)) ok_X8_lackAt k_396 k_398 ks_3 k_1 k_399 ⟨(Nat.le_of_ble_eq_true rfl), (Nat.le_of_ble_eq_true rfl)⟩ ⟨(Nat.le_of_ble_eq_true rfl), (Nat.le_of_ble_eq_true rfl)⟩ hl.1 (Nat.le_of_ble_eq_true rfl) rfl rfl dX8_firstLack_10 (hP.sub (ws' := [(xh, .inr (8, G8 xa xtrialRule xdropRule xtoday)), ((xa 1), .inl (E 0, 16, .inl xf1))]) [0, 1] rfl) rfl rfl 0 rfl (fun r_6 hw_7 => ?_)
    exact W.iret (v := r_6) hx hb hr (fun t ht hW => ⟨r_6, rfl, (Or.inr (Or.inl ⟨hk_5, by have h9 := hw_7; omega⟩)), ht⟩) (fun q h => by cases h) dX8_firstLack_13
  ·
    try dsimp only at hw_2
    have hk_9 : (0 ≤ p0.toInt ∧ p0.toInt ≤ 15 ∧ ((xf1 (p0).toNatClampNeg).toInt = 0 ∨ (xf1 (p0).toNatClampNeg).toInt = 1)) := hw_2.elim (fun h => by cases h.1) (fun h => h.2)
    clear hw_2
    refine lv_ifnonnull (tgt := 14) hx hb dX8_firstLack_5 (by decide) ?_
    refine lv_aload_n hx hb dX8_firstLack_14 rfl (lv_at hl 0 rfl) ?_
    refine lv_iload_n hx hb dX8_firstLack_15 rfl (lv_at hl 2 rfl) ?_
    refine ro_call (runRV (rest := []) (As := [.int p1]) hx hb hml hown htb (g_X8_watchAt_O l D E xh xa xtrialRule xdropRule xtoday xf1 xf3 p1 (by (try dsimp only); omega) jq) ok_X8_watchAt k_369 k_371 ks_1 k_1 k_372 ⟨(Nat.le_of_ble_eq_true rfl), (Nat.le_of_ble_eq_true rfl)⟩ ⟨(Nat.le_of_ble_eq_true rfl), (Nat.le_of_ble_eq_true rfl)⟩ hl.1 (Nat.le_of_ble_eq_true rfl) rfl rfl dX8_firstLack_16 (prV (hP.sub (ws' := [(xh, .inr (8, G8 xa xtrialRule xdropRule xtoday)), ((xa 1), .inl (E 0, 16, .inl xf1)), ((xa 3), .inl (E 3, 16, .inr (.inr (.inr (.inr xf3)))))]) [0, 1, 2] rfl) hK rfl rfl 0 rfl)) (fun hw_11 => ?_) (fun b_13 hw_11 => ?_)
    ·
      try dsimp only at hw_11
      have hk_14 : ¬ (0 ≤ p1.toInt ∧ p1.toInt ≤ 15 ∧ ((xf1 (p1).toNatClampNeg).toInt = 0 ∨ (xf1 (p1).toNatClampNeg).toInt = 1)) := hw_11.elim (fun h => h.2) (fun h => absurd rfl h.1)
      clear hw_11
      refine lv_ifnonnullN hx hb dX8_firstLack_19 ?_
      refine lv_aload_n hx hb dX8_firstLack_22 rfl (lv_at hl 0 rfl) ?_
      refine lv_iload_n hx hb dX8_firstLack_23 rfl (lv_at hl 2 rfl) ?_
      refine callRV (rest := []) (As := [.int p1]) hx hb hml hown htb hK (g_X8_lackAt l D E xh xa xtrialRule xdropRule xtoday xf1 p1 (by (try dsimp only); omega)) ok_X8_lackAt k_396 k_398 ks_3 k_1 k_399 ⟨(Nat.le_of_ble_eq_true rfl), (Nat.le_of_ble_eq_true rfl)⟩ ⟨(Nat.le_of_ble_eq_true rfl), (Nat.le_of_ble_eq_true rfl)⟩ hl.1 (Nat.le_of_ble_eq_true rfl) rfl rfl dX8_firstLack_24 (hP.sub (ws' := [(xh, .inr (8, G8 xa xtrialRule xdropRule xtoday)), ((xa 1), .inl (E 0, 16, .inl xf1))]) [0, 1] rfl) rfl rfl 0 rfl (fun r_15 hw_16 => ?_)
      exact W.iret (v := r_15) hx hb hr (fun t ht hW => ⟨r_15, rfl, (Or.inr (Or.inr (Or.inl ⟨hk_9, hk_14, by have h9 := hw_16; omega⟩))), ht⟩) (fun q h => by cases h) dX8_firstLack_27
    ·
      try dsimp only at hw_11
      have hk_18 : (0 ≤ p1.toInt ∧ p1.toInt ≤ 15 ∧ ((xf1 (p1).toNatClampNeg).toInt = 0 ∨ (xf1 (p1).toNatClampNeg).toInt = 1)) := hw_11.elim (fun h => by cases h.1) (fun h => h.2)
      clear hw_11
      refine lv_ifnonnull (tgt := 28) hx hb dX8_firstLack_19 (by decide) ?_
      refine lv_aload_n hx hb dX8_firstLack_28 rfl (lv_at hl 0 rfl) ?_
      refine lv_iload_n hx hb dX8_firstLack_29 rfl (lv_at hl 3 rfl) ?_
      refine ro_call (runRV (rest := []) (As := [.int p2]) hx hb hml hown htb (g_X8_watchAt_O l D E xh xa xtrialRule xdropRule xtoday xf1 xf3 p2 (by (try dsimp only); omega) jq) ok_X8_watchAt k_369 k_371 ks_1 k_1 k_372 ⟨(Nat.le_of_ble_eq_true rfl), (Nat.le_of_ble_eq_true rfl)⟩ ⟨(Nat.le_of_ble_eq_true rfl), (Nat.le_of_ble_eq_true rfl)⟩ hl.1 (Nat.le_of_ble_eq_true rfl) rfl rfl dX8_firstLack_30 (prV (hP.sub (ws' := [(xh, .inr (8, G8 xa xtrialRule xdropRule xtoday)), ((xa 1), .inl (E 0, 16, .inl xf1)), ((xa 3), .inl (E 3, 16, .inr (.inr (.inr (.inr xf3)))))]) [0, 1, 2] rfl) hK rfl rfl 0 rfl)) (fun hw_20 => ?_) (fun b_22 hw_20 => ?_)
      ·
        try dsimp only at hw_20
        have hk_23 : ¬ (0 ≤ p2.toInt ∧ p2.toInt ≤ 15 ∧ ((xf1 (p2).toNatClampNeg).toInt = 0 ∨ (xf1 (p2).toNatClampNeg).toInt = 1)) := hw_20.elim (fun h => h.2) (fun h => absurd rfl h.1)
        clear hw_20
        refine lv_ifnonnullN hx hb dX8_firstLack_33 ?_
        refine lv_aload_n hx hb dX8_firstLack_36 rfl (lv_at hl 0 rfl) ?_
        refine lv_iload_n hx hb dX8_firstLack_37 rfl (lv_at hl 3 rfl) ?_
        refine callRV (rest := []) (As := [.int p2]) hx hb hml hown htb hK (g_X8_lackAt l D E xh xa xtrialRule xdropRule xtoday xf1 p2 (by (try dsimp only); omega)) ok_X8_lackAt k_396 k_398 ks_3 k_1 k_399 ⟨(Nat.le_of_ble_eq_true rfl), (Nat.le_of_ble_eq_true rfl)⟩ ⟨(Nat.le_of_ble_eq_true rfl), (Nat.le_of_ble_eq_true rfl)⟩ hl.1 (Nat.le_of_ble_eq_true rfl) rfl rfl dX8_firstLack_38 (hP.sub (ws' := [(xh, .inr (8, G8 xa xtrialRule xdropRule xtoday)), ((xa 1), .inl (E 0, 16, .inl xf1))]) [0, 1] rfl) rfl rfl 0 rfl (fun r_24 hw_25 => ?_)
        refine lv_goto (tgt := 45) hx hb dX8_firstLack_41 (by decide) ?_
        exact W.iret (v := r_24) hx hb hr (fun t ht hW => ⟨r_24, rfl, (Or.inr (Or.inr (Or.inr ⟨hk_9, hk_18, hk_23, by have h9 := hw_25; omega⟩))), ht⟩) (fun q h => by cases h) dX8_firstLack_45
      ·
        try dsimp only at hw_20
        have hk_27 : (0 ≤ p2.toInt ∧ p2.toInt ≤ 15 ∧ ((xf1 (p2).toNatClampNeg).toInt = 0 ∨ (xf1 (p2).toNatClampNeg).toInt = 1)) := hw_20.elim (fun h => by cases h.1) (fun h => h.2)
        clear hw_20
        refine lv_ifnonnull (tgt := 44) hx hb dX8_firstLack_33 (by decide) ?_
        refine lv_iconst (v := 0) hx hb dX8_firstLack_44 (by decide) ?_
        exact W.iret (v := 0) hx hb hr (fun t ht hW => ⟨0, rfl, (Or.inl ⟨by decide, hk_9, hk_18, hk_27⟩), ht⟩) (fun q h => by cases h) dX8_firstLack_45
