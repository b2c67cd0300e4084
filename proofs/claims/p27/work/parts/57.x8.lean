set_option maxHeartbeats 4000000 in
set_option maxRecDepth 100000 in
theorem g_X0_tryFrom_0 (l : Launch) (D : va_G) (E : Nat → Nat) (dh : Nat) (da : Nat → Nat) (dlisted : Int32) (dshared : Int32) (dsailing : Int32) (dleastWorst : Int32) (df0 : Nat → Int32) (df1 : Nat → Int32) (df2 : Nat → Int32) (df3 : Nat → Int32) (df4 : Nat → Int32) (p0 : Int32) (p1 : Int32) (sz : Nat) (hi_d : (0 ≤ dlisted.toInt ∧ dlisted.toInt ≤ 9) ∧ (0 ≤ dshared.toInt ∧ dshared.toInt ≤ 9) ∧ (0 ≤ dsailing.toInt ∧ dsailing.toInt ≤ 3)) (g0 : 9 ≤ p0.toInt ∧ p0.toInt ≤ 9) : Met l yX0_tryFrom (wl yX0_tryFrom cX0_tryFrom 4 none) (RM 3 0 0) (mu_P D E [.ref dh, .int p0, .int p1] [(dh, .inr (0, G0 da dlisted dshared dsailing dleastWorst)), ((da 0), .inl (E 0, 9, .inl df0)), ((da 1), .inl (E 0, 9, .inl df1)), ((da 2), .inl (E 0, 9, .inl df2)), ((da 3), .inl (E 0, 3, .inl df3)), ((da 4), .inl (E 0, 3, .inl df4))] sz) (va_Qv (fun (u : (Nat → Int32) × (Int32)) => (((df1, df4, u.2, u.1) : TS) = tfX df0 df3 dlisted dsailing 0 p0 p1 (df1, df4, dleastWorst, df2))) (mu_B D (va_A [(dh, .inr (0, G0 da dlisted dshared dsailing dleastWorst)), ((da 0), .inl (E 0, 9, .inl df0)), ((da 1), .inl (E 0, 9, .inl df1)), ((da 2), .inl (E 0, 9, .inl df2)), ((da 3), .inl (E 0, 3, .inl df3)), ((da 4), .inl (E 0, 3, .inl df4))] sz) (fun (u : (Nat → Int32) × (Int32)) => [(dh, .inr (0, G0 da dlisted dshared dsailing u.2)), ((da 0), .inl (E 0, 9, .inl df0)), ((da 1), .inl (E 0, 9, .inl df1)), ((da 2), .inl (E 0, 9, .inl u.1)), ((da 3), .inl (E 0, 3, .inl df3)), ((da 4), .inl (E 0, 3, .inl df4))])) (va_A [(dh, .inr (0, G0 da dlisted dshared dsailing dleastWorst)), ((da 0), .inl (E 0, 9, .inl df0)), ((da 1), .inl (E 0, 9, .inl df1)), ((da 2), .inl (E 0, 9, .inl df2)), ((da 3), .inl (E 0, 3, .inl df3)), ((da 4), .inl (E 0, 3, .inl df4))] sz)) 0 0 (va_A [(dh, .inr (0, G0 da dlisted dshared dsailing dleastWorst)), ((da 0), .inl (E 0, 9, .inl df0)), ((da 1), .inl (E 0, 9, .inl df1)), ((da 2), .inl (E 0, 9, .inl df2)), ((da 3), .inl (E 0, 3, .inl df3)), ((da 4), .inl (E 0, 3, .inl df4))] sz) := by
  refine Met.ofW (cc := cX0_tryFrom) (maxL := 4) (ret := none) (by decide) rfl ?_
  intro p e s m args below meth c s₁ B hml hv
  obtain ⟨rfl, hsz, hP, hK, hD0⟩ := hv
  have hx := B.exec; have hb := B.bytes; have hr := B.returns
  have hts := atoms_spec (ws := wl yX0_tryFrom cX0_tryFrom 4 none) B.pre
  have htb : ∀ w ∈ tb, w.before _ s = true := fun w h => hts w (List.mem_cons_of_mem _ h)
  have hown : s.vm.findClass RX0 = some m.cls := findClass_of_methodNamed B.named
  have hlocks := B.notSynchronized
  subst hsz
  have hD := hD0.self (sz := s.heap.size)
  generalize hAe : va_A [(dh, .inr (0, G0 da dlisted dshared dsailing dleastWorst)), ((da 0), .inl (E 0, 9, .inl df0)), ((da 1), .inl (E 0, 9, .inl df1)), ((da 2), .inl (E 0, 9, .inl df2)), ((da 3), .inl (E 0, 3, .inl df3)), ((da 4), .inl (E 0, 3, .inl df4))] s.heap.size = A at hD ⊢
  have hA : ∀ q : Nat, s.heap.size ≤ q → A q := fun q h => by rw [← hAe]; exact Or.inr h
  have hS : va_S A s.heap s.heap [] := va_S.rf
  have hP : va_P D vwCl [(dh, .inr (0, G0 da dlisted dshared dsailing dleastWorst)), ((da 0), .inl (E 0, 9, .inl df0)), ((da 1), .inl (E 0, 9, .inl df1)), ((da 2), .inl (E 0, 9, .inl df2)), ((da 3), .inl (E 0, 3, .inl df3)), ((da 4), .inl (E 0, 3, .inl df4))] s.heap := hP
  have hl := lv_entry ([.ref dh, .int p0, .int p1]) (n := 4) (Nat.le_of_ble_eq_true rfl)
  rw [lg_entry_eq]
  generalize (lg_sl ([.ref dh, .int p0, .int p1]) ++ List.replicate (4 - (lg_sl ([.ref dh, .int p0, .int p1])).length) Slot.unset).toArray = ls at hl ⊢
  have hl : lv_has ls 4 [(0, .ref dh), (1, .int p0), (2, .int p1)] := hl
  have lo_p0 := i_lo p0; have hi_p0 := i_hi p0
  have lo_p1 := i_lo p1; have hi_p1 := i_hi p1
  refine lv_iload_n hx hb dX0_tryFrom_0 rfl (lv_at hl 1 rfl) ?_
  refine lv_aload_n hx hb dX0_tryFrom_1 rfl (lv_at hl 0 rfl) ?_
  refine va_get (D := D) (ci := 0) (v := .int dlisted) (C := RX0) (T := TX0) (N := 9) hx hb htb iX0 hown hK.1 hP 0 rfl rfl 5 (by decide) (htb _ k_196) (fun _ h9 => h9) rfl dX0_tryFrom_2 ?_
  refine lv_icmp_ge (tgt := 14) hx hb dX0_tryFrom_5 (by decide) (fun c_1 => ?_) (fun c_1 => absurd (by rw [g_le rfl rfl]; omega) c_1)
  refine lv_aload_n hx hb dX0_tryFrom_14 rfl (lv_at hl 0 rfl) ?_
  have hPc := hP.sub (ws' := [(dh, .inr (0, G0 da dlisted dshared dsailing dleastWorst)), ((da 0), .inl (E 0, 9, .inl df0)), ((da 1), .inl (E 0, 9, .inl df1)), ((da 2), .inl (E 0, 9, .inl df2)), ((da 3), .inl (E 0, 3, .inl df3))]) [0, 1, 2, 3, 4] rfl
  have hDc := hD.sub (ws' := [(dh, .inr (0, G0 da dlisted dshared dsailing dleastWorst)), ((da 0), .inl (E 0, 9, .inl df0)), ((da 1), .inl (E 0, 9, .inl df1)), ((da 2), .inl (E 0, 9, .inl df2)), ((da 3), .inl (E 0, 3, .inl df3))]) [0, 1, 2, 3, 4] (by decide) rfl
  refine aft_v (runMV (rest := []) (As := []) hx hb hml hown htb hK (g_X0_keepIfBetter l D E dh da dlisted dshared dsailing dleastWorst df0 df1 df2 df3 _ (by (try dsimp only); omega)) ok_X0_keepIfBetter k_909 k_911 ks_35 k_7 k_912 ⟨(Nat.le_of_ble_eq_true rfl), (Nat.le_of_ble_eq_true rfl)⟩ ⟨(Nat.le_of_ble_eq_true rfl), (Nat.le_of_ble_eq_true rfl)⟩ hl.1 (Nat.le_of_ble_eq_true rfl) rfl rfl dX0_tryFrom_15 hPc hDc rfl rfl 0 rfl) hP hD hS hA [0, 1, 2, 3, 4] [5] (wr := [((da 4), .inl (E 0, 3, .inl df4))]) rfl rfl (by decide) (by decide) (fun u_4 H locs hw_3 hP hD hS => ?_)
  clear hPc hDc
  obtain ⟨w_5, w_6⟩ := u_4
  try dsimp only at hw_3
  have hP : va_P D vwCl [((da 4), .inl (E 0, 3, .inl df4)), (dh, .inr (0, G0 da dlisted dshared dsailing w_6)), ((da 0), .inl (E 0, 9, .inl df0)), ((da 1), .inl (E 0, 9, .inl df1)), ((da 2), .inl (E 0, 9, .inl w_5)), ((da 3), .inl (E 0, 3, .inl df3))] H := hP
  have hD := toW hP hD rfl
  have hP9 := hP.sub (ws' := [(dh, .inr (0, G0 da dlisted dshared dsailing w_6)), ((da 0), .inl (E 0, 9, .inl df0)), ((da 1), .inl (E 0, 9, .inl df1)), ((da 2), .inl (E 0, 9, .inl w_5)), ((da 3), .inl (E 0, 3, .inl df3)), ((da 4), .inl (E 0, 3, .inl df4))]) [1, 2, 3, 4, 5, 0] rfl
  have hD9 := hD.sub (ws' := [(dh, .inr (0, G0 da dlisted dshared dsailing w_6)), ((da 0), .inl (E 0, 9, .inl df0)), ((da 1), .inl (E 0, 9, .inl df1)), ((da 2), .inl (E 0, 9, .inl w_5)), ((da 3), .inl (E 0, 3, .inl df3)), ((da 4), .inl (E 0, 3, .inl df4))]) [1, 2, 3, 4, 5, 0] (by decide) rfl
  exact W.vret hx hb hr (fun t ht hW => ⟨⟨(w_5, w_6), rfl, (by (try dsimp only); rw [tfX_end (by omega)]; unfold kpX; (try dsimp only); rw [← hw_3]), by rw [ht]; exact hP9, hD9⟩, hS.F ht⟩) hS.2.2 dX0_tryFrom_18
set_option maxHeartbeats 4000000 in
set_option maxRecDepth 100000 in
theorem g_X0_tryFrom_1 (l : Launch) (D : va_G) (E : Nat → Nat) (dh : Nat) (da : Nat → Nat) (dlisted : Int32) (dshared : Int32) (dsailing : Int32) (dleastWorst : Int32) (df0 : Nat → Int32) (df1 : Nat → Int32) (df2 : Nat → Int32) (df3 : Nat → Int32) (df4 : Nat → Int32) (p0 : Int32) (p1 : Int32) (sz : Nat) (hi_d : (0 ≤ dlisted.toInt ∧ dlisted.toInt ≤ 9) ∧ (0 ≤ dshared.toInt ∧ dshared.toInt ≤ 9) ∧ (0 ≤ dsailing.toInt ∧ dsailing.toInt ≤ 3)) (g0 : 8 ≤ p0.toInt ∧ p0.toInt ≤ 9) : Met l yX0_tryFrom (wl yX0_tryFrom cX0_tryFrom 4 none) (RM 4 0 0) (mu_P D E [.ref dh, .int p0, .int p1] [(dh, .inr (0, G0 da dlisted dshared dsailing dleastWorst)), ((da 0), .inl (E 0, 9, .inl df0)), ((da 1), .inl (E 0, 9, .inl df1)), ((da 2), .inl (E 0, 9, .inl df2)), ((da 3), .inl (E 0, 3, .inl df3)), ((da 4), .inl (E 0, 3, .inl df4))] sz) (va_Qv (fun (u : (Nat → Int32) × (Nat → Int32) × (Nat → Int32) × (Int32)) => (((u.1, u.2.2.1, u.2.2.2, u.2.1) : TS) = tfX df0 df3 dlisted dsailing 1 p0 p1 (df1, df4, dleastWorst, df2))) (mu_B D (va_A [(dh, .inr (0, G0 da dlisted dshared dsailing dleastWorst)), ((da 0), .inl (E 0, 9, .inl df0)), ((da 1), .inl (E 0, 9, .inl df1)), ((da 2), .inl (E 0, 9, .inl df2)), ((da 3), .inl (E 0, 3, .inl df3)), ((da 4), .inl (E 0, 3, .inl df4))] sz) (fun (u : (Nat → Int32) × (Nat → Int32) × (Nat → Int32) × (Int32)) => [(dh, .inr (0, G0 da dlisted dshared dsailing u.2.2.2)), ((da 0), .inl (E 0, 9, .inl df0)), ((da 1), .inl (E 0, 9, .inl u.1)), ((da 2), .inl (E 0, 9, .inl u.2.1)), ((da 3), .inl (E 0, 3, .inl df3)), ((da 4), .inl (E 0, 3, .inl u.2.2.1))])) (va_A [(dh, .inr (0, G0 da dlisted dshared dsailing dleastWorst)), ((da 0), .inl (E 0, 9, .inl df0)), ((da 1), .inl (E 0, 9, .inl df1)), ((da 2), .inl (E 0, 9, .inl df2)), ((da 3), .inl (E 0, 3, .inl df3)), ((da 4), .inl (E 0, 3, .inl df4))] sz)) 0 0 (va_A [(dh, .inr (0, G0 da dlisted dshared dsailing dleastWorst)), ((da 0), .inl (E 0, 9, .inl df0)), ((da 1), .inl (E 0, 9, .inl df1)), ((da 2), .inl (E 0, 9, .inl df2)), ((da 3), .inl (E 0, 3, .inl df3)), ((da 4), .inl (E 0, 3, .inl df4))] sz) := by
  refine Met.ofW (cc := cX0_tryFrom) (maxL := 4) (ret := none) (by decide) rfl ?_
  intro p e s m args below meth c s₁ B hml hv
  obtain ⟨rfl, hsz, hP, hK, hD0⟩ := hv
  have hx := B.exec; have hb := B.bytes; have hr := B.returns
  have hts := atoms_spec (ws := wl yX0_tryFrom cX0_tryFrom 4 none) B.pre
  have htb : ∀ w ∈ tb, w.before _ s = true := fun w h => hts w (List.mem_cons_of_mem _ h)
  have hown : s.vm.findClass RX0 = some m.cls := findClass_of_methodNamed B.named
  have hlocks := B.notSynchronized
  subst hsz
  have hD := hD0.self (sz := s.heap.size)
  generalize hAe : va_A [(dh, .inr (0, G0 da dlisted dshared dsailing dleastWorst)), ((da 0), .inl (E 0, 9, .inl df0)), ((da 1), .inl (E 0, 9, .inl df1)), ((da 2), .inl (E 0, 9, .inl df2)), ((da 3), .inl (E 0, 3, .inl df3)), ((da 4), .inl (E 0, 3, .inl df4))] s.heap.size = A at hD ⊢
  have hA : ∀ q : Nat, s.heap.size ≤ q → A q := fun q h => by rw [← hAe]; exact Or.inr h
  have hS : va_S A s.heap s.heap [] := va_S.rf
  have hP : va_P D vwCl [(dh, .inr (0, G0 da dlisted dshared dsailing dleastWorst)), ((da 0), .inl (E 0, 9, .inl df0)), ((da 1), .inl (E 0, 9, .inl df1)), ((da 2), .inl (E 0, 9, .inl df2)), ((da 3), .inl (E 0, 3, .inl df3)), ((da 4), .inl (E 0, 3, .inl df4))] s.heap := hP
  have hl := lv_entry ([.ref dh, .int p0, .int p1]) (n := 4) (Nat.le_of_ble_eq_true rfl)
  rw [lg_entry_eq]
  generalize (lg_sl ([.ref dh, .int p0, .int p1]) ++ List.replicate (4 - (lg_sl ([.ref dh, .int p0, .int p1])).length) Slot.unset).toArray = ls at hl ⊢
  have hl : lv_has ls 4 [(0, .ref dh), (1, .int p0), (2, .int p1)] := hl
  have lo_p0 := i_lo p0; have hi_p0 := i_hi p0
  have lo_p1 := i_lo p1; have hi_p1 := i_hi p1
  refine lv_iload_n hx hb dX0_tryFrom_0 rfl (lv_at hl 1 rfl) ?_
  refine lv_aload_n hx hb dX0_tryFrom_1 rfl (lv_at hl 0 rfl) ?_
  refine va_get (D := D) (ci := 0) (v := .int dlisted) (C := RX0) (T := TX0) (N := 9) hx hb htb iX0 hown hK.1 hP 0 rfl rfl 5 (by decide) (htb _ k_196) (fun _ h9 => h9) rfl dX0_tryFrom_2 ?_
  refine lv_icmp_ge (tgt := 14) hx hb dX0_tryFrom_5 (by decide) (fun c_1 => ?_) (fun c_1 => ?_)
  ·
    have ic_1 : dlisted.toInt ≤ p0.toInt := by first | exact (g_le rfl rfl).mp c_1 | (have h := mt (g_lt rfl rfl).mpr c_1; omega)
    clear c_1
    refine lv_aload_n hx hb dX0_tryFrom_14 rfl (lv_at hl 0 rfl) ?_
    have hPc := hP.sub (ws' := [(dh, .inr (0, G0 da dlisted dshared dsailing dleastWorst)), ((da 0), .inl (E 0, 9, .inl df0)), ((da 1), .inl (E 0, 9, .inl df1)), ((da 2), .inl (E 0, 9, .inl df2)), ((da 3), .inl (E 0, 3, .inl df3))]) [0, 1, 2, 3, 4] rfl
    have hDc := hD.sub (ws' := [(dh, .inr (0, G0 da dlisted dshared dsailing dleastWorst)), ((da 0), .inl (E 0, 9, .inl df0)), ((da 1), .inl (E 0, 9, .inl df1)), ((da 2), .inl (E 0, 9, .inl df2)), ((da 3), .inl (E 0, 3, .inl df3))]) [0, 1, 2, 3, 4] (by decide) rfl
    refine aft_v (runMV (rest := []) (As := []) hx hb hml hown htb hK (g_X0_keepIfBetter l D E dh da dlisted dshared dsailing dleastWorst df0 df1 df2 df3 _ (by (try dsimp only); omega)) ok_X0_keepIfBetter k_909 k_911 ks_35 k_7 k_912 ⟨(Nat.le_of_ble_eq_true rfl), (Nat.le_of_ble_eq_true rfl)⟩ ⟨(Nat.le_of_ble_eq_true rfl), (Nat.le_of_ble_eq_true rfl)⟩ hl.1 (Nat.le_of_ble_eq_true rfl) rfl rfl dX0_tryFrom_15 hPc hDc rfl rfl 0 rfl) hP hD hS hA [0, 1, 2, 3, 4] [5] (wr := [((da 4), .inl (E 0, 3, .inl df4))]) rfl rfl (by decide) (by decide) (fun u_4 H locs hw_3 hP hD hS => ?_)
    clear hPc hDc
    obtain ⟨w_5, w_6⟩ := u_4
    try dsimp only at hw_3
    have hP : va_P D vwCl [((da 4), .inl (E 0, 3, .inl df4)), (dh, .inr (0, G0 da dlisted dshared dsailing w_6)), ((da 0), .inl (E 0, 9, .inl df0)), ((da 1), .inl (E 0, 9, .inl df1)), ((da 2), .inl (E 0, 9, .inl w_5)), ((da 3), .inl (E 0, 3, .inl df3))] H := hP
    have hD := toW hP hD rfl
    have hP9 := hP.sub (ws' := [(dh, .inr (0, G0 da dlisted dshared dsailing w_6)), ((da 0), .inl (E 0, 9, .inl df0)), ((da 1), .inl (E 0, 9, .inl df1)), ((da 2), .inl (E 0, 9, .inl w_5)), ((da 3), .inl (E 0, 3, .inl df3)), ((da 4), .inl (E 0, 3, .inl df4))]) [1, 2, 3, 4, 5, 0] rfl
    have hD9 := hD.sub (ws' := [(dh, .inr (0, G0 da dlisted dshared dsailing w_6)), ((da 0), .inl (E 0, 9, .inl df0)), ((da 1), .inl (E 0, 9, .inl df1)), ((da 2), .inl (E 0, 9, .inl w_5)), ((da 3), .inl (E 0, 3, .inl df3)), ((da 4), .inl (E 0, 3, .inl df4))]) [1, 2, 3, 4, 5, 0] (by decide) rfl
    exact W.vret hx hb hr (fun t ht hW => ⟨⟨(df1, w_5, df4, w_6), rfl, (by (try dsimp only); rw [tfX_end (by omega)]; unfold kpX; (try dsimp only); rw [← hw_3]), by rw [ht]; exact hP9, hD9⟩, hS.F ht⟩) hS.2.2 dX0_tryFrom_18
  ·
    have ic_1 : p0.toInt < dlisted.toInt := by first | exact (g_lt rfl rfl).mp c_1 | (have h := mt (g_le rfl rfl).mpr c_1; omega)
    clear c_1
    refine lv_iload_n hx hb dX0_tryFrom_8 rfl (lv_at hl 1 rfl) ?_
    refine lv_bipush (v := 9) hx hb dX0_tryFrom_9 (by decide) ?_
    refine lv_icmp_lt (tgt := 19) hx hb dX0_tryFrom_11 (by decide) (fun c_7 => ?_) (fun c_7 => absurd (by rw [g_lt rfl t_9]; omega) c_7)
    refine lv_iconst (v := 0) hx hb dX0_tryFrom_19 (by decide) ?_
    refine lv_istore_n (lv' := [(3, .int 0), (0, .ref dh), (1, .int p0), (2, .int p1)]) hx hb dX0_tryFrom_20 rfl hl (by decide) rfl (fun ls hl => ?_)
    have loop_8 : ∀ (N_10 : Nat) (L3_21 : Int32) (dleastWorst_21 : Int32) (df1_21 : Nat → Int32) (df2_21 : Nat → Int32) (df4_21 : Nat → Int32) (H : Heap) (locs : List Loc) (ls : Array Slot), 3 - L3_21.toInt < (N_10 : Int) → (0 ≤ L3_21.toInt ∧ L3_21.toInt ≤ dsailing.toInt) → (((df1_21, df4_21, dleastWorst_21, df2_21) : TS) = lpX (tfX df0 df3 dlisted dsailing 0) p0 p1 (df1, df4, dleastWorst, df2) (L3_21).toNatClampNeg) → va_P D vwCl [(dh, .inr (0, G0 da dlisted dshared dsailing dleastWorst_21)), ((da 0), .inl (E 0, 9, .inl df0)), ((da 1), .inl (E 0, 9, .inl df1_21)), ((da 2), .inl (E 0, 9, .inl df2_21)), ((da 3), .inl (E 0, 3, .inl df3)), ((da 4), .inl (E 0, 3, .inl df4_21))] H → va_D A [(dh, .inr (0, G0 da dlisted dshared dsailing dleastWorst_21)), ((da 0), .inl (E 0, 9, .inl df0)), ((da 1), .inl (E 0, 9, .inl df1_21)), ((da 2), .inl (E 0, 9, .inl df2_21)), ((da 3), .inl (E 0, 3, .inl df3)), ((da 4), .inl (E 0, 3, .inl df4_21))] → va_S A s.heap H locs → lv_has ls 4 [(3, .int L3_21), (0, .ref dh), (1, .int p0), (2, .int p1)] → W p l e (headSpec (wl yX0_tryFrom cX0_tryFrom 4 none) (RM 4 0 0)).room s m [Value.ref dh, .int p0, .int p1].toArray below meth c H locs 0 0 (MQ below (va_Qv (fun (u : (Nat → Int32) × (Nat → Int32) × (Nat → Int32) × (Int32)) => (((u.1, u.2.2.1, u.2.2.2, u.2.1) : TS) = tfX df0 df3 dlisted dsailing 1 p0 p1 (df1, df4, dleastWorst, df2))) (mu_B D A (fun (u : (Nat → Int32) × (Nat → Int32) × (Nat → Int32) × (Int32)) => [(dh, .inr (0, G0 da dlisted dshared dsailing u.2.2.2)), ((da 0), .inl (E 0, 9, .inl df0)), ((da 1), .inl (E 0, 9, .inl u.1)), ((da 2), .inl (E 0, 9, .inl u.2.1)), ((da 3), .inl (E 0, 3, .inl df3)), ((da 4), .inl (E 0, 3, .inl u.2.2.1))])) A) [Value.ref dh, .int p0, .int p1].toArray s 0 0 A) (F0 m 21 ls []) := by
      intro N_10
      induction N_10 with
      | zero => intro L3_21 dleastWorst_21 df1_21 df2_21 df4_21 H locs ls hm v0_21 v1_21 _ _ _ _; exfalso; omega
      | succ N_10 ih_9 =>
        intro L3_21 dleastWorst_21 df1_21 df2_21 df4_21 H locs ls hm v0_21 v1_21 hP hD hS hl
        have lo_L3_21 := i_lo L3_21; have hi_L3_21 := i_hi L3_21
        have lo_dleastWorst_21 := i_lo dleastWorst_21; have hi_dleastWorst_21 := i_hi dleastWorst_21
        refine lv_iload_n hx hb dX0_tryFrom_21 rfl (lv_at hl 0 rfl) ?_
        refine lv_aload_n hx hb dX0_tryFrom_22 rfl (lv_at hl 1 rfl) ?_
        refine va_get (D := D) (ci := 0) (v := .int dsailing) (C := RX0) (T := TX0) (N := 9) hx hb htb iX0 hown hK.1 hP 0 rfl rfl 7 (by decide) (htb _ k_200) (fun _ h9 => h9) rfl dX0_tryFrom_23 ?_
        refine lv_icmp_ge (tgt := 89) hx hb dX0_tryFrom_26 (by decide) (fun c_11 => ?_) (fun c_11 => ?_)
        ·
          have ic_11 : dsailing.toInt ≤ L3_21.toInt := by first | exact (g_le rfl rfl).mp c_11 | (have h := mt (g_lt rfl rfl).mpr c_11; omega)
          clear c_11
          refine lv_iload_n hx hb dX0_tryFrom_89 rfl (lv_at hl 3 rfl) ?_
          refine lv_if_le (tgt := 110) hx hb dX0_tryFrom_90 (by decide) (fun c_12 => ?_) (fun c_12 => ?_)
          ·
            have ic_12 : p1.toInt ≤ 0 := by first | exact (g_le rfl t_0).mp c_12 | (have h := mt (g_lt t_0 rfl).mpr c_12; omega)
            clear c_12
            have hP9 := hP.sub (ws' := [(dh, .inr (0, G0 da dlisted dshared dsailing dleastWorst_21)), ((da 0), .inl (E 0, 9, .inl df0)), ((da 1), .inl (E 0, 9, .inl df1_21)), ((da 2), .inl (E 0, 9, .inl df2_21)), ((da 3), .inl (E 0, 3, .inl df3)), ((da 4), .inl (E 0, 3, .inl df4_21))]) [0, 1, 2, 3, 4, 5] rfl
            have hD9 := hD.sub (ws' := [(dh, .inr (0, G0 da dlisted dshared dsailing dleastWorst_21)), ((da 0), .inl (E 0, 9, .inl df0)), ((da 1), .inl (E 0, 9, .inl df1_21)), ((da 2), .inl (E 0, 9, .inl df2_21)), ((da 3), .inl (E 0, 3, .inl df3)), ((da 4), .inl (E 0, 3, .inl df4_21))]) [0, 1, 2, 3, 4, 5] (by decide) rfl
            exact W.vret hx hb hr (fun t ht hW => ⟨⟨(df1_21, df2_21, df4_21, dleastWorst_21), rfl, (by (try dsimp only); rw [tfX_no (by omega) (by omega), show (dsailing : Int32).toNatClampNeg = (L3_21).toNatClampNeg from clampE (by omega) (by omega), ← v1_21]), by rw [ht]; exact hP9, hD9⟩, hS.F ht⟩) hS.2.2 dX0_tryFrom_110
          ·
            have ic_12 : 0 < p1.toInt := by first | exact (g_lt t_0 rfl).mp c_12 | (have h := mt (g_le rfl t_0).mpr c_12; omega)
            clear c_12
            refine lv_aload_n hx hb dX0_tryFrom_93 rfl (lv_at hl 1 rfl) ?_
            refine va_get (D := D) (ci := 0) (v := .ref (da 1)) (C := RX0) (T := TX0) (N := 9) hx hb htb iX0 hown hK.1 hP 0 rfl rfl 1 (by decide) (htb _ k_191) (fun _ h9 => h9) rfl dX0_tryFrom_94 ?_
            refine lv_iload_n hx hb dX0_tryFrom_97 rfl (lv_at hl 2 rfl) ?_
            refine lv_iconst (v := (-1)) hx hb dX0_tryFrom_98 (by decide) ?_
            refine va_iast hx hb hK.1 hP hD hS 2 0 rfl rfl (g_in rfl (by omega) (by omega)) dX0_tryFrom_99 (fun H locs hP hD hS => ?_)
            have hP : va_P D vwCl [(dh, .inr (0, G0 da dlisted dshared dsailing dleastWorst_21)), ((da 0), .inl (E 0, 9, .inl df0)), ((da 1), .inl (E 0, 9, .inl (upd df1_21 (p0 : Int32).toNatClampNeg (-1)))), ((da 2), .inl (E 0, 9, .inl df2_21)), ((da 3), .inl (E 0, 3, .inl df3)), ((da 4), .inl (E 0, 3, .inl df4_21))] H := hP
            have hD := toW hP hD rfl
            refine lv_aload_n hx hb dX0_tryFrom_100 rfl (lv_at hl 1 rfl) ?_
            refine lv_iload_n hx hb dX0_tryFrom_101 rfl (lv_at hl 2 rfl) ?_
            refine lv_iconst (v := 1) hx hb dX0_tryFrom_102 (by decide) ?_
            refine lv_iadd hx hb dX0_tryFrom_103 ?_
            refine lv_topi (fun z_13 ez_13 => ?_)
            have jz_13 : z_13.toInt = p0.toInt + 1 := by rw [ez_13]; exact g_add rfl t_1 (by omega) (by omega)
            refine lv_iload_n hx hb dX0_tryFrom_104 rfl (lv_at hl 3 rfl) ?_
            refine lv_iconst (v := 1) hx hb dX0_tryFrom_105 (by decide) ?_
            refine lv_isub hx hb dX0_tryFrom_106 ?_
            refine lv_topi (fun z_14 ez_14 => ?_)
            have jz_14 : z_14.toInt = p1.toInt - 1 := by rw [ez_14]; exact g_sub rfl t_1 (by omega) (by omega)
            have hPc := hP.sub (ws' := [(dh, .inr (0, G0 da dlisted dshared dsailing dleastWorst_21)), ((da 0), .inl (E 0, 9, .inl df0)), ((da 1), .inl (E 0, 9, .inl (upd df1_21 (p0 : Int32).toNatClampNeg (-1)))), ((da 2), .inl (E 0, 9, .inl df2_21)), ((da 3), .inl (E 0, 3, .inl df3)), ((da 4), .inl (E 0, 3, .inl df4_21))]) [0, 1, 2, 3, 4, 5] rfl
            have hDc := hD.sub (ws' := [(dh, .inr (0, G0 da dlisted dshared dsailing dleastWorst_21)), ((da 0), .inl (E 0, 9, .inl df0)), ((da 1), .inl (E 0, 9, .inl (upd df1_21 (p0 : Int32).toNatClampNeg (-1)))), ((da 2), .inl (E 0, 9, .inl df2_21)), ((da 3), .inl (E 0, 3, .inl df3)), ((da 4), .inl (E 0, 3, .inl df4_21))]) [0, 1, 2, 3, 4, 5] (by decide) rfl
            refine aft_v (runMV (rest := []) (As := [.int z_13, .int z_14]) hx hb hml hown htb hK (g_X0_tryFrom_0 l D E dh da dlisted dshared dsailing dleastWorst_21 df0 (upd df1_21 (p0 : Int32).toNatClampNeg (-1)) df2_21 df3 df4_21 z_13 z_14 _ (by (try dsimp only); omega) (by (try dsimp only); omega)) ok_X0_tryFrom k_905 k_907 ks_34 k_7 k_908 ⟨(Nat.le_of_ble_eq_true rfl), (Nat.le_of_ble_eq_true rfl)⟩ ⟨(Nat.le_of_ble_eq_true rfl), (Nat.le_of_ble_eq_true rfl)⟩ hl.1 (Nat.le_of_ble_eq_true rfl) rfl rfl dX0_tryFrom_107 hPc hDc rfl rfl 0 rfl) hP hD hS hA [0, 1, 2, 3, 4, 5] [] (wr := ([] : va_W)) rfl rfl (by decide) (by decide) (fun u_17 H locs hw_16 hP hD hS => ?_)
            clear hPc hDc
            obtain ⟨w_18, w_19⟩ := u_17
            try dsimp only at hw_16
            have hP : va_P D vwCl [(dh, .inr (0, G0 da dlisted dshared dsailing w_19)), ((da 0), .inl (E 0, 9, .inl df0)), ((da 1), .inl (E 0, 9, .inl (upd df1_21 (p0 : Int32).toNatClampNeg (-1)))), ((da 2), .inl (E 0, 9, .inl w_18)), ((da 3), .inl (E 0, 3, .inl df3)), ((da 4), .inl (E 0, 3, .inl df4_21))] H := hP
            have hD := toW hP hD rfl
            have hP9 := hP.sub (ws' := [(dh, .inr (0, G0 da dlisted dshared dsailing w_19)), ((da 0), .inl (E 0, 9, .inl df0)), ((da 1), .inl (E 0, 9, .inl (upd df1_21 (p0 : Int32).toNatClampNeg (-1)))), ((da 2), .inl (E 0, 9, .inl w_18)), ((da 3), .inl (E 0, 3, .inl df3)), ((da 4), .inl (E 0, 3, .inl df4_21))]) [0, 1, 2, 3, 4, 5] rfl
            have hD9 := hD.sub (ws' := [(dh, .inr (0, G0 da dlisted dshared dsailing w_19)), ((da 0), .inl (E 0, 9, .inl df0)), ((da 1), .inl (E 0, 9, .inl (upd df1_21 (p0 : Int32).toNatClampNeg (-1)))), ((da 2), .inl (E 0, 9, .inl w_18)), ((da 3), .inl (E 0, 3, .inl df3)), ((da 4), .inl (E 0, 3, .inl df4_21))]) [0, 1, 2, 3, 4, 5] (by decide) rfl
            exact W.vret hx hb hr (fun t ht hW => ⟨⟨((upd df1_21 (p0 : Int32).toNatClampNeg (-1)), w_18, df4_21, w_19), rfl, (by (try dsimp only); exact tf_go (by omega) (by omega) (by rw [show (dsailing : Int32).toNatClampNeg = (L3_21).toNatClampNeg from clampE (by omega) (by omega)]; exact v1_21) ez_13 ez_14 hw_16), by rw [ht]; exact hP9, hD9⟩, hS.F ht⟩) hS.2.2 dX0_tryFrom_110
        ·
          have ic_11 : L3_21.toInt < dsailing.toInt := by first | exact (g_lt rfl rfl).mp c_11 | (have h := mt (g_le rfl rfl).mpr c_11; omega)
          clear c_11
          refine lv_iload_n hx hb dX0_tryFrom_29 rfl (lv_at hl 0 rfl) ?_
          refine lv_aload_n hx hb dX0_tryFrom_30 rfl (lv_at hl 1 rfl) ?_
          refine va_get (D := D) (ci := 0) (v := .ref (da 4)) (C := RX0) (T := TX0) (N := 9) hx hb htb iX0 hown hK.1 hP 0 rfl rfl 4 (by decide) (htb _ k_195) (fun _ h9 => h9) rfl dX0_tryFrom_31 ?_
          refine va_alen hx hb hK.1 hP 5 0 rfl rfl (v := 3) (show Int32.ofNat 3 = 3 by decide) dX0_tryFrom_34 ?_
          refine lv_icmp_ge (tgt := 89) hx hb dX0_tryFrom_35 (by decide) (fun c_20 => absurd c_20 (by rw [g_le t_3 rfl]; omega)) (fun c_20 => ?_)
          refine lv_aload_n hx hb dX0_tryFrom_38 rfl (lv_at hl 1 rfl) ?_
          refine va_get (D := D) (ci := 0) (v := .ref (da 4)) (C := RX0) (T := TX0) (N := 9) hx hb htb iX0 hown hK.1 hP 0 rfl rfl 4 (by decide) (htb _ k_195) (fun _ h9 => h9) rfl dX0_tryFrom_39 ?_
          refine lv_iload_n hx hb dX0_tryFrom_42 rfl (lv_at hl 0 rfl) ?_
          refine va_iald hx hb hK.1 hP 5 0 rfl rfl (g_in rfl (by omega) (by omega)) dX0_tryFrom_43 ?_
          refine lv_topi (fun z_21 ez_21 => ?_)
          have kz_21 := congrArg Int32.toInt ez_21
          refine lv_iconst (v := 3) hx hb dX0_tryFrom_44 (by decide) ?_
          refine lv_icmp_ge (tgt := 83) hx hb dX0_tryFrom_45 (by decide) (fun c_22 => ?_) (fun c_22 => ?_)
          ·
            have ic_22 : 3 ≤ z_21.toInt := by first | exact (g_le t_3 rfl).mp c_22 | (have h := mt (g_lt rfl t_3).mpr c_22; omega)
            clear c_22
            obtain ⟨z_23, ez_23⟩ : ∃ y : Int32, y = L3_21 + 1 := ⟨_, rfl⟩
            have jz_23 : z_23.toInt = L3_21.toInt + 1 := by rw [ez_23]; exact g_add rfl t_1 (by omega) (by omega)
            refine lv_iinc (v := z_23) (lv' := [(3, .int z_23), (0, .ref dh), (1, .int p0), (2, .int p1)]) hx hb dX0_tryFrom_83 hl (k := 0) rfl (by rw [ez_23]; rfl) (by decide) rfl (fun ls hl => ?_)
            refine lv_goto (tgt := 21) hx hb dX0_tryFrom_86 (by decide) ?_
            exact ih_9 z_23 dleastWorst_21 df1_21 df2_21 df4_21 _ _ _ (by (try dsimp only); omega) (by (try dsimp only); omega) (by rw [clampS (by omega) jz_23, lpX_s, ← v1_21]; rw [shX_no (by (try dsimp only); rw [← ez_21]; omega)]) hP hD hS (lv_sub hl [0, 1, 2, 3] rfl)
          ·
            have ic_22 : z_21.toInt < 3 := by first | exact (g_lt rfl t_3).mp c_22 | (have h := mt (g_le t_3 rfl).mpr c_22; omega)
            clear c_22
            refine lv_aload_n hx hb dX0_tryFrom_48 rfl (lv_at hl 1 rfl) ?_
            refine va_get (D := D) (ci := 0) (v := .ref (da 1)) (C := RX0) (T := TX0) (N := 9) hx hb htb iX0 hown hK.1 hP 0 rfl rfl 1 (by decide) (htb _ k_191) (fun _ h9 => h9) rfl dX0_tryFrom_49 ?_
            refine lv_iload_n hx hb dX0_tryFrom_52 rfl (lv_at hl 2 rfl) ?_
            refine lv_iload_n hx hb dX0_tryFrom_53 rfl (lv_at hl 0 rfl) ?_
            refine va_iast hx hb hK.1 hP hD hS 2 0 rfl rfl (g_in rfl (by omega) (by omega)) dX0_tryFrom_54 (fun H locs hP hD hS => ?_)
            have hP : va_P D vwCl [(dh, .inr (0, G0 da dlisted dshared dsailing dleastWorst_21)), ((da 0), .inl (E 0, 9, .inl df0)), ((da 1), .inl (E 0, 9, .inl (upd df1_21 (p0 : Int32).toNatClampNeg L3_21))), ((da 2), .inl (E 0, 9, .inl df2_21)), ((da 3), .inl (E 0, 3, .inl df3)), ((da 4), .inl (E 0, 3, .inl df4_21))] H := hP
            have hD := toW hP hD rfl
            refine lv_aload_n hx hb dX0_tryFrom_55 rfl (lv_at hl 1 rfl) ?_
            refine va_get (D := D) (ci := 0) (v := .ref (da 4)) (C := RX0) (T := TX0) (N := 9) hx hb htb iX0 hown hK.1 hP 0 rfl rfl 4 (by decide) (htb _ k_195) (fun _ h9 => h9) rfl dX0_tryFrom_56 ?_
            refine lv_iload_n hx hb dX0_tryFrom_59 rfl (lv_at hl 0 rfl) ?_
            refine lv_dup2_11 hx hb dX0_tryFrom_60 rfl rfl ?_
            refine va_iald hx hb hK.1 hP 5 0 rfl rfl (g_in rfl (by omega) (by omega)) dX0_tryFrom_61 ?_
            refine lv_topi (fun z_24 ez_24 => ?_)
            have kz_24 := congrArg Int32.toInt ez_24
            refine lv_iconst (v := 1) hx hb dX0_tryFrom_62 (by decide) ?_
            refine lv_iadd hx hb dX0_tryFrom_63 ?_
            refine lv_topi (fun z_25 ez_25 => ?_)
            refine va_iast hx hb hK.1 hP hD hS 5 0 rfl rfl (g_in rfl (by omega) (by omega)) dX0_tryFrom_64 (fun H locs hP hD hS => ?_)
            have hP : va_P D vwCl [(dh, .inr (0, G0 da dlisted dshared dsailing dleastWorst_21)), ((da 0), .inl (E 0, 9, .inl df0)), ((da 1), .inl (E 0, 9, .inl (upd df1_21 (p0 : Int32).toNatClampNeg L3_21))), ((da 2), .inl (E 0, 9, .inl df2_21)), ((da 3), .inl (E 0, 3, .inl df3)), ((da 4), .inl (E 0, 3, .inl (upd df4_21 (L3_21 : Int32).toNatClampNeg z_25)))] H := hP
            have hD := toW hP hD rfl
            refine lv_aload_n hx hb dX0_tryFrom_65 rfl (lv_at hl 1 rfl) ?_
            refine lv_iload_n hx hb dX0_tryFrom_66 rfl (lv_at hl 2 rfl) ?_
            refine lv_iconst (v := 1) hx hb dX0_tryFrom_67 (by decide) ?_
            refine lv_iadd hx hb dX0_tryFrom_68 ?_
            refine lv_topi (fun z_26 ez_26 => ?_)
            have jz_26 : z_26.toInt = p0.toInt + 1 := by rw [ez_26]; exact g_add rfl t_1 (by omega) (by omega)
            refine lv_iload_n hx hb dX0_tryFrom_69 rfl (lv_at hl 3 rfl) ?_
            have hPc := hP.sub (ws' := [(dh, .inr (0, G0 da dlisted dshared dsailing dleastWorst_21)), ((da 0), .inl (E 0, 9, .inl df0)), ((da 1), .inl (E 0, 9, .inl (upd df1_21 (p0 : Int32).toNatClampNeg L3_21))), ((da 2), .inl (E 0, 9, .inl df2_21)), ((da 3), .inl (E 0, 3, .inl df3)), ((da 4), .inl (E 0, 3, .inl (upd df4_21 (L3_21 : Int32).toNatClampNeg z_25)))]) [0, 1, 2, 3, 4, 5] rfl
            have hDc := hD.sub (ws' := [(dh, .inr (0, G0 da dlisted dshared dsailing dleastWorst_21)), ((da 0), .inl (E 0, 9, .inl df0)), ((da 1), .inl (E 0, 9, .inl (upd df1_21 (p0 : Int32).toNatClampNeg L3_21))), ((da 2), .inl (E 0, 9, .inl df2_21)), ((da 3), .inl (E 0, 3, .inl df3)), ((da 4), .inl (E 0, 3, .inl (upd df4_21 (L3_21 : Int32).toNatClampNeg z_25)))]) [0, 1, 2, 3, 4, 5] (by decide) rfl
            refine aft_v (runMV (rest := []) (As := [.int z_26, .int p1]) hx hb hml hown htb hK (g_X0_tryFrom_0 l D E dh da dlisted dshared dsailing dleastWorst_21 df0 (upd df1_21 (p0 : Int32).toNatClampNeg L3_21) df2_21 df3 (upd df4_21 (L3_21 : Int32).toNatClampNeg z_25) z_26 p1 _ (by (try dsimp only); omega) (by (try dsimp only); omega)) ok_X0_tryFrom k_905 k_907 ks_34 k_7 k_908 ⟨(Nat.le_of_ble_eq_true rfl), (Nat.le_of_ble_eq_true rfl)⟩ ⟨(Nat.le_of_ble_eq_true rfl), (Nat.le_of_ble_eq_true rfl)⟩ hl.1 (Nat.le_of_ble_eq_true rfl) rfl rfl dX0_tryFrom_70 hPc hDc rfl rfl 0 rfl) hP hD hS hA [0, 1, 2, 3, 4, 5] [] (wr := ([] : va_W)) rfl rfl (by decide) (by decide) (fun u_29 H locs hw_28 hP hD hS => ?_)
            clear hPc hDc
            obtain ⟨w_30, w_31⟩ := u_29
            try dsimp only at hw_28
            have hP : va_P D vwCl [(dh, .inr (0, G0 da dlisted dshared dsailing w_31)), ((da 0), .inl (E 0, 9, .inl df0)), ((da 1), .inl (E 0, 9, .inl (upd df1_21 (p0 : Int32).toNatClampNeg L3_21))), ((da 2), .inl (E 0, 9, .inl w_30)), ((da 3), .inl (E 0, 3, .inl df3)), ((da 4), .inl (E 0, 3, .inl (upd df4_21 (L3_21 : Int32).toNatClampNeg z_25)))] H := hP
            have hD := toW hP hD rfl
            refine lv_aload_n hx hb dX0_tryFrom_73 rfl (lv_at hl 1 rfl) ?_
            refine va_get (D := D) (ci := 0) (v := .ref (da 4)) (C := RX0) (T := TX0) (N := 9) hx hb htb iX0 hown hK.1 hP 0 rfl rfl 4 (by decide) (htb _ k_195) (fun _ h9 => h9) rfl dX0_tryFrom_74 ?_
            refine lv_iload_n hx hb dX0_tryFrom_77 rfl (lv_at hl 0 rfl) ?_
            refine lv_dup2_11 hx hb dX0_tryFrom_78 rfl rfl ?_
            refine va_iald hx hb hK.1 hP 5 0 rfl rfl (g_in rfl (by omega) (by omega)) dX0_tryFrom_79 ?_
            refine lv_topi (fun z_32 ez_32 => ?_)
            have kz_32 := congrArg Int32.toInt ez_32
            refine lv_iconst (v := 1) hx hb dX0_tryFrom_80 (by decide) ?_
            refine lv_isub hx hb dX0_tryFrom_81 ?_
            refine lv_topi (fun z_33 ez_33 => ?_)
            refine va_iast hx hb hK.1 hP hD hS 5 0 rfl rfl (g_in rfl (by omega) (by omega)) dX0_tryFrom_82 (fun H locs hP hD hS => ?_)
            have hP : va_P D vwCl [(dh, .inr (0, G0 da dlisted dshared dsailing w_31)), ((da 0), .inl (E 0, 9, .inl df0)), ((da 1), .inl (E 0, 9, .inl (upd df1_21 (p0 : Int32).toNatClampNeg L3_21))), ((da 2), .inl (E 0, 9, .inl w_30)), ((da 3), .inl (E 0, 3, .inl df3)), ((da 4), .inl (E 0, 3, .inl (upd (upd df4_21 (L3_21 : Int32).toNatClampNeg z_25) (L3_21 : Int32).toNatClampNeg z_33)))] H := hP
            have hD := toW hP hD rfl
            obtain ⟨z_34, ez_34⟩ : ∃ y : Int32, y = L3_21 + 1 := ⟨_, rfl⟩
            have jz_34 : z_34.toInt = L3_21.toInt + 1 := by rw [ez_34]; exact g_add rfl t_1 (by omega) (by omega)
            refine lv_iinc (v := z_34) (lv' := [(3, .int z_34), (0, .ref dh), (1, .int p0), (2, .int p1)]) hx hb dX0_tryFrom_83 hl (k := 0) rfl (by rw [ez_34]; rfl) (by decide) rfl (fun ls hl => ?_)
            refine lv_goto (tgt := 21) hx hb dX0_tryFrom_86 (by decide) ?_
            exact ih_9 z_34 w_31 (upd df1_21 (p0 : Int32).toNatClampNeg L3_21) w_30 (upd (upd df4_21 (L3_21 : Int32).toNatClampNeg z_25) (L3_21 : Int32).toNatClampNeg z_33) _ _ _ (by (try dsimp only); omega) (by (try dsimp only); omega) (by rw [clampS (by omega) jz_34, lpX_s, ← v1_21]; rw [ez_33, ez_32]; refine shX_go (j := z_26) (by rw [← ez_21]; omega) ?_ ez_26; rw [ofN_c (by omega), ← ez_24, ← ez_25]; exact hw_28) hP hD hS (lv_sub hl [0, 1, 2, 3] rfl)
    exact loop_8 4 0 dleastWorst df1 df2 df4 _ _ _ (by have h0 := t_0; (try dsimp only); omega) (by have h0 := t_0; (try dsimp only); omega) (by rw [clamp_0]; rfl) hP hD hS (lv_sub hl [0, 1, 2, 3] rfl)
set_option maxHeartbeats 4000000 in
set_option maxRecDepth 100000 in
theorem g_X0_tryFrom_2 (l : Launch) (D : va_G) (E : Nat → Nat) (dh : Nat) (da : Nat → Nat) (dlisted : Int32) (dshared : Int32) (dsailing : Int32) (dleastWorst : Int32) (df0 : Nat → Int32) (df1 : Nat → Int32) (df2 : Nat → Int32) (df3 : Nat → Int32) (df4 : Nat → Int32) (p0 : Int32) (p1 : Int32) (sz : Nat) (hi_d : (0 ≤ dlisted.toInt ∧ dlisted.toInt ≤ 9) ∧ (0 ≤ dshared.toInt ∧ dshared.toInt ≤ 9) ∧ (0 ≤ dsailing.toInt ∧ dsailing.toInt ≤ 3)) (g0 : 7 ≤ p0.toInt ∧ p0.toInt ≤ 9) : Met l yX0_tryFrom (wl yX0_tryFrom cX0_tryFrom 4 none) (RM 5 0 0) (mu_P D E [.ref dh, .int p0, .int p1] [(dh, .inr (0, G0 da dlisted dshared dsailing dleastWorst)), ((da 0), .inl (E 0, 9, .inl df0)), ((da 1), .inl (E 0, 9, .inl df1)), ((da 2), .inl (E 0, 9, .inl df2)), ((da 3), .inl (E 0, 3, .inl df3)), ((da 4), .inl (E 0, 3, .inl df4))] sz) (va_Qv (fun (u : (Nat → Int32) × (Nat → Int32) × (Nat → Int32) × (Int32)) => (((u.1, u.2.2.1, u.2.2.2, u.2.1) : TS) = tfX df0 df3 dlisted dsailing 2 p0 p1 (df1, df4, dleastWorst, df2))) (mu_B D (va_A [(dh, .inr (0, G0 da dlisted dshared dsailing dleastWorst)), ((da 0), .inl (E 0, 9, .inl df0)), ((da 1), .inl (E 0, 9, .inl df1)), ((da 2), .inl (E 0, 9, .inl df2)), ((da 3), .inl (E 0, 3, .inl df3)), ((da 4), .inl (E 0, 3, .inl df4))] sz) (fun (u : (Nat → Int32) × (Nat → Int32) × (Nat → Int32) × (Int32)) => [(dh, .inr (0, G0 da dlisted dshared dsailing u.2.2.2)), ((da 0), .inl (E 0, 9, .inl df0)), ((da 1), .inl (E 0, 9, .inl u.1)), ((da 2), .inl (E 0, 9, .inl u.2.1)), ((da 3), .inl (E 0, 3, .inl df3)), ((da 4), .inl (E 0, 3, .inl u.2.2.1))])) (va_A [(dh, .inr (0, G0 da dlisted dshared dsailing dleastWorst)), ((da 0), .inl (E 0, 9, .inl df0)), ((da 1), .inl (E 0, 9, .inl df1)), ((da 2), .inl (E 0, 9, .inl df2)), ((da 3), .inl (E 0, 3, .inl df3)), ((da 4), .inl (E 0, 3, .inl df4))] sz)) 0 0 (va_A [(dh, .inr (0, G0 da dlisted dshared dsailing dleastWorst)), ((da 0), .inl (E 0, 9, .inl df0)), ((da 1), .inl (E 0, 9, .inl df1)), ((da 2), .inl (E 0, 9, .inl df2)), ((da 3), .inl (E 0, 3, .inl df3)), ((da 4), .inl (E 0, 3, .inl df4))] sz) := by
  refine Met.ofW (cc := cX0_tryFrom) (maxL := 4) (ret := none) (by decide) rfl ?_
  intro p e s m args below meth c s₁ B hml hv
  obtain ⟨rfl, hsz, hP, hK, hD0⟩ := hv
  have hx := B.exec; have hb := B.bytes; have hr := B.returns
  have hts := atoms_spec (ws := wl yX0_tryFrom cX0_tryFrom 4 none) B.pre
  have htb : ∀ w ∈ tb, w.before _ s = true := fun w h => hts w (List.mem_cons_of_mem _ h)
  have hown : s.vm.findClass RX0 = some m.cls := findClass_of_methodNamed B.named
  have hlocks := B.notSynchronized
  subst hsz
  have hD := hD0.self (sz := s.heap.size)
  generalize hAe : va_A [(dh, .inr (0, G0 da dlisted dshared dsailing dleastWorst)), ((da 0), .inl (E 0, 9, .inl df0)), ((da 1), .inl (E 0, 9, .inl df1)), ((da 2), .inl (E 0, 9, .inl df2)), ((da 3), .inl (E 0, 3, .inl df3)), ((da 4), .inl (E 0, 3, .inl df4))] s.heap.size = A at hD ⊢
  have hA : ∀ q : Nat, s.heap.size ≤ q → A q := fun q h => by rw [← hAe]; exact Or.inr h
  have hS : va_S A s.heap s.heap [] := va_S.rf
  have hP : va_P D vwCl [(dh, .inr (0, G0 da dlisted dshared dsailing dleastWorst)), ((da 0), .inl (E 0, 9, .inl df0)), ((da 1), .inl (E 0, 9, .inl df1)), ((da 2), .inl (E 0, 9, .inl df2)), ((da 3), .inl (E 0, 3, .inl df3)), ((da 4), .inl (E 0, 3, .inl df4))] s.heap := hP
  have hl := lv_entry ([.ref dh, .int p0, .int p1]) (n := 4) (Nat.le_of_ble_eq_true rfl)
  rw [lg_entry_eq]
  generalize (lg_sl ([.ref dh, .int p0, .int p1]) ++ List.replicate (4 - (lg_sl ([.ref dh, .int p0, .int p1])).length) Slot.unset).toArray = ls at hl ⊢
  have hl : lv_has ls 4 [(0, .ref dh), (1, .int p0), (2, .int p1)] := hl
  have lo_p0 := i_lo p0; have hi_p0 := i_hi p0
  have lo_p1 := i_lo p1; have hi_p1 := i_hi p1
  refine lv_iload_n hx hb dX0_tryFrom_0 rfl (lv_at hl 1 rfl) ?_
  refine lv_aload_n hx hb dX0_tryFrom_1 rfl (lv_at hl 0 rfl) ?_
  refine va_get (D := D) (ci := 0) (v := .int dlisted) (C := RX0) (T := TX0) (N := 9) hx hb htb iX0 hown hK.1 hP 0 rfl rfl 5 (by decide) (htb _ k_196) (fun _ h9 => h9) rfl dX0_tryFrom_2 ?_
  refine lv_icmp_ge (tgt := 14) hx hb dX0_tryFrom_5 (by decide) (fun c_1 => ?_) (fun c_1 => ?_)
  ·
    have ic_1 : dlisted.toInt ≤ p0.toInt := by first | exact (g_le rfl rfl).mp c_1 | (have h := mt (g_lt rfl rfl).mpr c_1; omega)
    clear c_1
    refine lv_aload_n hx hb dX0_tryFrom_14 rfl (lv_at hl 0 rfl) ?_
    have hPc := hP.sub (ws' := [(dh, .inr (0, G0 da dlisted dshared dsailing dleastWorst)), ((da 0), .inl (E 0, 9, .inl df0)), ((da 1), .inl (E 0, 9, .inl df1)), ((da 2), .inl (E 0, 9, .inl df2)), ((da 3), .inl (E 0, 3, .inl df3))]) [0, 1, 2, 3, 4] rfl
    have hDc := hD.sub (ws' := [(dh, .inr (0, G0 da dlisted dshared dsailing dleastWorst)), ((da 0), .inl (E 0, 9, .inl df0)), ((da 1), .inl (E 0, 9, .inl df1)), ((da 2), .inl (E 0, 9, .inl df2)), ((da 3), .inl (E 0, 3, .inl df3))]) [0, 1, 2, 3, 4] (by decide) rfl
    refine aft_v (runMV (rest := []) (As := []) hx hb hml hown htb hK (g_X0_keepIfBetter l D E dh da dlisted dshared dsailing dleastWorst df0 df1 df2 df3 _ (by (try dsimp only); omega)) ok_X0_keepIfBetter k_909 k_911 ks_35 k_7 k_912 ⟨(Nat.le_of_ble_eq_true rfl), (Nat.le_of_ble_eq_true rfl)⟩ ⟨(Nat.le_of_ble_eq_true rfl), (Nat.le_of_ble_eq_true rfl)⟩ hl.1 (Nat.le_of_ble_eq_true rfl) rfl rfl dX0_tryFrom_15 hPc hDc rfl rfl 0 rfl) hP hD hS hA [0, 1, 2, 3, 4] [5] (wr := [((da 4), .inl (E 0, 3, .inl df4))]) rfl rfl (by decide) (by decide) (fun u_4 H locs hw_3 hP hD hS => ?_)
    clear hPc hDc
    obtain ⟨w_5, w_6⟩ := u_4
    try dsimp only at hw_3
    have hP : va_P D vwCl [((da 4), .inl (E 0, 3, .inl df4)), (dh, .inr (0, G0 da dlisted dshared dsailing w_6)), ((da 0), .inl (E 0, 9, .inl df0)), ((da 1), .inl (E 0, 9, .inl df1)), ((da 2), .inl (E 0, 9, .inl w_5)), ((da 3), .inl (E 0, 3, .inl df3))] H := hP
    have hD := toW hP hD rfl
    have hP9 := hP.sub (ws' := [(dh, .inr (0, G0 da dlisted dshared dsailing w_6)), ((da 0), .inl (E 0, 9, .inl df0)), ((da 1), .inl (E 0, 9, .inl df1)), ((da 2), .inl (E 0, 9, .inl w_5)), ((da 3), .inl (E 0, 3, .inl df3)), ((da 4), .inl (E 0, 3, .inl df4))]) [1, 2, 3, 4, 5, 0] rfl
    have hD9 := hD.sub (ws' := [(dh, .inr (0, G0 da dlisted dshared dsailing w_6)), ((da 0), .inl (E 0, 9, .inl df0)), ((da 1), .inl (E 0, 9, .inl df1)), ((da 2), .inl (E 0, 9, .inl w_5)), ((da 3), .inl (E 0, 3, .inl df3)), ((da 4), .inl (E 0, 3, .inl df4))]) [1, 2, 3, 4, 5, 0] (by decide) rfl
    exact W.vret hx hb hr (fun t ht hW => ⟨⟨(df1, w_5, df4, w_6), rfl, (by (try dsimp only); rw [tfX_end (by omega)]; unfold kpX; (try dsimp only); rw [← hw_3]), by rw [ht]; exact hP9, hD9⟩, hS.F ht⟩) hS.2.2 dX0_tryFrom_18
  ·
    have ic_1 : p0.toInt < dlisted.toInt := by first | exact (g_lt rfl rfl).mp c_1 | (have h := mt (g_le rfl rfl).mpr c_1; omega)
    clear c_1
    refine lv_iload_n hx hb dX0_tryFrom_8 rfl (lv_at hl 1 rfl) ?_
    refine lv_bipush (v := 9) hx hb dX0_tryFrom_9 (by decide) ?_
    refine lv_icmp_lt (tgt := 19) hx hb dX0_tryFrom_11 (by decide) (fun c_7 => ?_) (fun c_7 => absurd (by rw [g_lt rfl t_9]; omega) c_7)
    refine lv_iconst (v := 0) hx hb dX0_tryFrom_19 (by decide) ?_
    refine lv_istore_n (lv' := [(3, .int 0), (0, .ref dh), (1, .int p0), (2, .int p1)]) hx hb dX0_tryFrom_20 rfl hl (by decide) rfl (fun ls hl => ?_)
    have loop_8 : ∀ (N_10 : Nat) (L3_21 : Int32) (dleastWorst_21 : Int32) (df1_21 : Nat → Int32) (df2_21 : Nat → Int32) (df4_21 : Nat → Int32) (H : Heap) (locs : List Loc) (ls : Array Slot), 3 - L3_21.toInt < (N_10 : Int) → (0 ≤ L3_21.toInt ∧ L3_21.toInt ≤ dsailing.toInt) → (((df1_21, df4_21, dleastWorst_21, df2_21) : TS) = lpX (tfX df0 df3 dlisted dsailing 1) p0 p1 (df1, df4, dleastWorst, df2) (L3_21).toNatClampNeg) → va_P D vwCl [(dh, .inr (0, G0 da dlisted dshared dsailing dleastWorst_21)), ((da 0), .inl (E 0, 9, .inl df0)), ((da 1), .inl (E 0, 9, .inl df1_21)), ((da 2), .inl (E 0, 9, .inl df2_21)), ((da 3), .inl (E 0, 3, .inl df3)), ((da 4), .inl (E 0, 3, .inl df4_21))] H → va_D A [(dh, .inr (0, G0 da dlisted dshared dsailing dleastWorst_21)), ((da 0), .inl (E 0, 9, .inl df0)), ((da 1), .inl (E 0, 9, .inl df1_21)), ((da 2), .inl (E 0, 9, .inl df2_21)), ((da 3), .inl (E 0, 3, .inl df3)), ((da 4), .inl (E 0, 3, .inl df4_21))] → va_S A s.heap H locs → lv_has ls 4 [(3, .int L3_21), (0, .ref dh), (1, .int p0), (2, .int p1)] → W p l e (headSpec (wl yX0_tryFrom cX0_tryFrom 4 none) (RM 5 0 0)).room s m [Value.ref dh, .int p0, .int p1].toArray below meth c H locs 0 0 (MQ below (va_Qv (fun (u : (Nat → Int32) × (Nat → Int32) × (Nat → Int32) × (Int32)) => (((u.1, u.2.2.1, u.2.2.2, u.2.1) : TS) = tfX df0 df3 dlisted dsailing 2 p0 p1 (df1, df4, dleastWorst, df2))) (mu_B D A (fun (u : (Nat → Int32) × (Nat → Int32) × (Nat → Int32) × (Int32)) => [(dh, .inr (0, G0 da dlisted dshared dsailing u.2.2.2)), ((da 0), .inl (E 0, 9, .inl df0)), ((da 1), .inl (E 0, 9, .inl u.1)), ((da 2), .inl (E 0, 9, .inl u.2.1)), ((da 3), .inl (E 0, 3, .inl df3)), ((da 4), .inl (E 0, 3, .inl u.2.2.1))])) A) [Value.ref dh, .int p0, .int p1].toArray s 0 0 A) (F0 m 21 ls []) := by
      intro N_10
      induction N_10 with
      | zero => intro L3_21 dleastWorst_21 df1_21 df2_21 df4_21 H locs ls hm v0_21 v1_21 _ _ _ _; exfalso; omega
      | succ N_10 ih_9 =>
        intro L3_21 dleastWorst_21 df1_21 df2_21 df4_21 H locs ls hm v0_21 v1_21 hP hD hS hl
        have lo_L3_21 := i_lo L3_21; have hi_L3_21 := i_hi L3_21
        have lo_dleastWorst_21 := i_lo dleastWorst_21; have hi_dleastWorst_21 := i_hi dleastWorst_21
        refine lv_iload_n hx hb dX0_tryFrom_21 rfl (lv_at hl 0 rfl) ?_
        refine lv_aload_n hx hb dX0_tryFrom_22 rfl (lv_at hl 1 rfl) ?_
        refine va_get (D := D) (ci := 0) (v := .int dsailing) (C := RX0) (T := TX0) (N := 9) hx hb htb iX0 hown hK.1 hP 0 rfl rfl 7 (by decide) (htb _ k_200) (fun _ h9 => h9) rfl dX0_tryFrom_23 ?_
        refine lv_icmp_ge (tgt := 89) hx hb dX0_tryFrom_26 (by decide) (fun c_11 => ?_) (fun c_11 => ?_)
        ·
          have ic_11 : dsailing.toInt ≤ L3_21.toInt := by first | exact (g_le rfl rfl).mp c_11 | (have h := mt (g_lt rfl rfl).mpr c_11; omega)
          clear c_11
          refine lv_iload_n hx hb dX0_tryFrom_89 rfl (lv_at hl 3 rfl) ?_
          refine lv_if_le (tgt := 110) hx hb dX0_tryFrom_90 (by decide) (fun c_12 => ?_) (fun c_12 => ?_)
          ·
            have ic_12 : p1.toInt ≤ 0 := by first | exact (g_le rfl t_0).mp c_12 | (have h := mt (g_lt t_0 rfl).mpr c_12; omega)
            clear c_12
            have hP9 := hP.sub (ws' := [(dh, .inr (0, G0 da dlisted dshared dsailing dleastWorst_21)), ((da 0), .inl (E 0, 9, .inl df0)), ((da 1), .inl (E 0, 9, .inl df1_21)), ((da 2), .inl (E 0, 9, .inl df2_21)), ((da 3), .inl (E 0, 3, .inl df3)), ((da 4), .inl (E 0, 3, .inl df4_21))]) [0, 1, 2, 3, 4, 5] rfl
            have hD9 := hD.sub (ws' := [(dh, .inr (0, G0 da dlisted dshared dsailing dleastWorst_21)), ((da 0), .inl (E 0, 9, .inl df0)), ((da 1), .inl (E 0, 9, .inl df1_21)), ((da 2), .inl (E 0, 9, .inl df2_21)), ((da 3), .inl (E 0, 3, .inl df3)), ((da 4), .inl (E 0, 3, .inl df4_21))]) [0, 1, 2, 3, 4, 5] (by decide) rfl
            exact W.vret hx hb hr (fun t ht hW => ⟨⟨(df1_21, df2_21, df4_21, dleastWorst_21), rfl, (by (try dsimp only); rw [tfX_no (by omega) (by omega), show (dsailing : Int32).toNatClampNeg = (L3_21).toNatClampNeg from clampE (by omega) (by omega), ← v1_21]), by rw [ht]; exact hP9, hD9⟩, hS.F ht⟩) hS.2.2 dX0_tryFrom_110
          ·
            have ic_12 : 0 < p1.toInt := by first | exact (g_lt t_0 rfl).mp c_12 | (have h := mt (g_le rfl t_0).mpr c_12; omega)
            clear c_12
            refine lv_aload_n hx hb dX0_tryFrom_93 rfl (lv_at hl 1 rfl) ?_
            refine va_get (D := D) (ci := 0) (v := .ref (da 1)) (C := RX0) (T := TX0) (N := 9) hx hb htb iX0 hown hK.1 hP 0 rfl rfl 1 (by decide) (htb _ k_191) (fun _ h9 => h9) rfl dX0_tryFrom_94 ?_
            refine lv_iload_n hx hb dX0_tryFrom_97 rfl (lv_at hl 2 rfl) ?_
            refine lv_iconst (v := (-1)) hx hb dX0_tryFrom_98 (by decide) ?_
            refine va_iast hx hb hK.1 hP hD hS 2 0 rfl rfl (g_in rfl (by omega) (by omega)) dX0_tryFrom_99 (fun H locs hP hD hS => ?_)
            have hP : va_P D vwCl [(dh, .inr (0, G0 da dlisted dshared dsailing dleastWorst_21)), ((da 0), .inl (E 0, 9, .inl df0)), ((da 1), .inl (E 0, 9, .inl (upd df1_21 (p0 : Int32).toNatClampNeg (-1)))), ((da 2), .inl (E 0, 9, .inl df2_21)), ((da 3), .inl (E 0, 3, .inl df3)), ((da 4), .inl (E 0, 3, .inl df4_21))] H := hP
            have hD := toW hP hD rfl
            refine lv_aload_n hx hb dX0_tryFrom_100 rfl (lv_at hl 1 rfl) ?_
            refine lv_iload_n hx hb dX0_tryFrom_101 rfl (lv_at hl 2 rfl) ?_
            refine lv_iconst (v := 1) hx hb dX0_tryFrom_102 (by decide) ?_
            refine lv_iadd hx hb dX0_tryFrom_103 ?_
            refine lv_topi (fun z_13 ez_13 => ?_)
            have jz_13 : z_13.toInt = p0.toInt + 1 := by rw [ez_13]; exact g_add rfl t_1 (by omega) (by omega)
            refine lv_iload_n hx hb dX0_tryFrom_104 rfl (lv_at hl 3 rfl) ?_
            refine lv_iconst (v := 1) hx hb dX0_tryFrom_105 (by decide) ?_
            refine lv_isub hx hb dX0_tryFrom_106 ?_
            refine lv_topi (fun z_14 ez_14 => ?_)
            have jz_14 : z_14.toInt = p1.toInt - 1 := by rw [ez_14]; exact g_sub rfl t_1 (by omega) (by omega)
            have hPc := hP.sub (ws' := [(dh, .inr (0, G0 da dlisted dshared dsailing dleastWorst_21)), ((da 0), .inl (E 0, 9, .inl df0)), ((da 1), .inl (E 0, 9, .inl (upd df1_21 (p0 : Int32).toNatClampNeg (-1)))), ((da 2), .inl (E 0, 9, .inl df2_21)), ((da 3), .inl (E 0, 3, .inl df3)), ((da 4), .inl (E 0, 3, .inl df4_21))]) [0, 1, 2, 3, 4, 5] rfl
            have hDc := hD.sub (ws' := [(dh, .inr (0, G0 da dlisted dshared dsailing dleastWorst_21)), ((da 0), .inl (E 0, 9, .inl df0)), ((da 1), .inl (E 0, 9, .inl (upd df1_21 (p0 : Int32).toNatClampNeg (-1)))), ((da 2), .inl (E 0, 9, .inl df2_21)), ((da 3), .inl (E 0, 3, .inl df3)), ((da 4), .inl (E 0, 3, .inl df4_21))]) [0, 1, 2, 3, 4, 5] (by decide) rfl
            refine aft_v (runMV (rest := []) (As := [.int z_13, .int z_14]) hx hb hml hown htb hK (g_X0_tryFrom_1 l D E dh da dlisted dshared dsailing dleastWorst_21 df0 (upd df1_21 (p0 : Int32).toNatClampNeg (-1)) df2_21 df3 df4_21 z_13 z_14 _ (by (try dsimp only); omega) (by (try dsimp only); omega)) ok_X0_tryFrom k_905 k_907 ks_34 k_7 k_908 ⟨(Nat.le_of_ble_eq_true rfl), (Nat.le_of_ble_eq_true rfl)⟩ ⟨(Nat.le_of_ble_eq_true rfl), (Nat.le_of_ble_eq_true rfl)⟩ hl.1 (Nat.le_of_ble_eq_true rfl) rfl rfl dX0_tryFrom_107 hPc hDc rfl rfl 0 rfl) hP hD hS hA [0, 1, 2, 3, 4, 5] [] (wr := ([] : va_W)) rfl rfl (by decide) (by decide) (fun u_17 H locs hw_16 hP hD hS => ?_)
            clear hPc hDc
            obtain ⟨w_18, w_19, w_20, w_21⟩ := u_17
            try dsimp only at hw_16
            have hP : va_P D vwCl [(dh, .inr (0, G0 da dlisted dshared dsailing w_21)), ((da 0), .inl (E 0, 9, .inl df0)), ((da 1), .inl (E 0, 9, .inl w_18)), ((da 2), .inl (E 0, 9, .inl w_19)), ((da 3), .inl (E 0, 3, .inl df3)), ((da 4), .inl (E 0, 3, .inl w_20))] H := hP
            have hD := toW hP hD rfl
            have hP9 := hP.sub (ws' := [(dh, .inr (0, G0 da dlisted dshared dsailing w_21)), ((da 0), .inl (E 0, 9, .inl df0)), ((da 1), .inl (E 0, 9, .inl w_18)), ((da 2), .inl (E 0, 9, .inl w_19)), ((da 3), .inl (E 0, 3, .inl df3)), ((da 4), .inl (E 0, 3, .inl w_20))]) [0, 1, 2, 3, 4, 5] rfl
            have hD9 := hD.sub (ws' := [(dh, .inr (0, G0 da dlisted dshared dsailing w_21)), ((da 0), .inl (E 0, 9, .inl df0)), ((da 1), .inl (E 0, 9, .inl w_18)), ((da 2), .inl (E 0, 9, .inl w_19)), ((da 3), .inl (E 0, 3, .inl df3)), ((da 4), .inl (E 0, 3, .inl w_20))]) [0, 1, 2, 3, 4, 5] (by decide) rfl
            exact W.vret hx hb hr (fun t ht hW => ⟨⟨(w_18, w_19, w_20, w_21), rfl, (by (try dsimp only); exact tf_go (by omega) (by omega) (by rw [show (dsailing : Int32).toNatClampNeg = (L3_21).toNatClampNeg from clampE (by omega) (by omega)]; exact v1_21) ez_13 ez_14 hw_16), by rw [ht]; exact hP9, hD9⟩, hS.F ht⟩) hS.2.2 dX0_tryFrom_110
        ·
          have ic_11 : L3_21.toInt < dsailing.toInt := by first | exact (g_lt rfl rfl).mp c_11 | (have h := mt (g_le rfl rfl).mpr c_11; omega)
          clear c_11
          refine lv_iload_n hx hb dX0_tryFrom_29 rfl (lv_at hl 0 rfl) ?_
          refine lv_aload_n hx hb dX0_tryFrom_30 rfl (lv_at hl 1 rfl) ?_
          refine va_get (D := D) (ci := 0) (v := .ref (da 4)) (C := RX0) (T := TX0) (N := 9) hx hb htb iX0 hown hK.1 hP 0 rfl rfl 4 (by decide) (htb _ k_195) (fun _ h9 => h9) rfl dX0_tryFrom_31 ?_
          refine va_alen hx hb hK.1 hP 5 0 rfl rfl (v := 3) (show Int32.ofNat 3 = 3 by decide) dX0_tryFrom_34 ?_
          refine lv_icmp_ge (tgt := 89) hx hb dX0_tryFrom_35 (by decide) (fun c_22 => absurd c_22 (by rw [g_le t_3 rfl]; omega)) (fun c_22 => ?_)
          refine lv_aload_n hx hb dX0_tryFrom_38 rfl (lv_at hl 1 rfl) ?_
          refine va_get (D := D) (ci := 0) (v := .ref (da 4)) (C := RX0) (T := TX0) (N := 9) hx hb htb iX0 hown hK.1 hP 0 rfl rfl 4 (by decide) (htb _ k_195) (fun _ h9 => h9) rfl dX0_tryFrom_39 ?_
          refine lv_iload_n hx hb dX0_tryFrom_42 rfl (lv_at hl 0 rfl) ?_
          refine va_iald hx hb hK.1 hP 5 0 rfl rfl (g_in rfl (by omega) (by omega)) dX0_tryFrom_43 ?_
          refine lv_topi (fun z_23 ez_23 => ?_)
          have kz_23 := congrArg Int32.toInt ez_23
          refine lv_iconst (v := 3) hx hb dX0_tryFrom_44 (by decide) ?_
          refine lv_icmp_ge (tgt := 83) hx hb dX0_tryFrom_45 (by decide) (fun c_24 => ?_) (fun c_24 => ?_)
          ·
            have ic_24 : 3 ≤ z_23.toInt := by first | exact (g_le t_3 rfl).mp c_24 | (have h := mt (g_lt rfl t_3).mpr c_24; omega)
            clear c_24
            obtain ⟨z_25, ez_25⟩ : ∃ y : Int32, y = L3_21 + 1 := ⟨_, rfl⟩
            have jz_25 : z_25.toInt = L3_21.toInt + 1 := by rw [ez_25]; exact g_add rfl t_1 (by omega) (by omega)
            refine lv_iinc (v := z_25) (lv' := [(3, .int z_25), (0, .ref dh), (1, .int p0), (2, .int p1)]) hx hb dX0_tryFrom_83 hl (k := 0) rfl (by rw [ez_25]; rfl) (by decide) rfl (fun ls hl => ?_)
            refine lv_goto (tgt := 21) hx hb dX0_tryFrom_86 (by decide) ?_
            exact ih_9 z_25 dleastWorst_21 df1_21 df2_21 df4_21 _ _ _ (by (try dsimp only); omega) (by (try dsimp only); omega) (by rw [clampS (by omega) jz_25, lpX_s, ← v1_21]; rw [shX_no (by (try dsimp only); rw [← ez_23]; omega)]) hP hD hS (lv_sub hl [0, 1, 2, 3] rfl)
          ·
            have ic_24 : z_23.toInt < 3 := by first | exact (g_lt rfl t_3).mp c_24 | (have h := mt (g_le t_3 rfl).mpr c_24; omega)
            clear c_24
            refine lv_aload_n hx hb dX0_tryFrom_48 rfl (lv_at hl 1 rfl) ?_
            refine va_get (D := D) (ci := 0) (v := .ref (da 1)) (C := RX0) (T := TX0) (N := 9) hx hb htb iX0 hown hK.1 hP 0 rfl rfl 1 (by decide) (htb _ k_191) (fun _ h9 => h9) rfl dX0_tryFrom_49 ?_
            refine lv_iload_n hx hb dX0_tryFrom_52 rfl (lv_at hl 2 rfl) ?_
            refine lv_iload_n hx hb dX0_tryFrom_53 rfl (lv_at hl 0 rfl) ?_
            refine va_iast hx hb hK.1 hP hD hS 2 0 rfl rfl (g_in rfl (by omega) (by omega)) dX0_tryFrom_54 (fun H locs hP hD hS => ?_)
            have hP : va_P D vwCl [(dh, .inr (0, G0 da dlisted dshared dsailing dleastWorst_21)), ((da 0), .inl (E 0, 9, .inl df0)), ((da 1), .inl (E 0, 9, .inl (upd df1_21 (p0 : Int32).toNatClampNeg L3_21))), ((da 2), .inl (E 0, 9, .inl df2_21)), ((da 3), .inl (E 0, 3, .inl df3)), ((da 4), .inl (E 0, 3, .inl df4_21))] H := hP
            have hD := toW hP hD rfl
            refine lv_aload_n hx hb dX0_tryFrom_55 rfl (lv_at hl 1 rfl) ?_
            refine va_get (D := D) (ci := 0) (v := .ref (da 4)) (C := RX0) (T := TX0) (N := 9) hx hb htb iX0 hown hK.1 hP 0 rfl rfl 4 (by decide) (htb _ k_195) (fun _ h9 => h9) rfl dX0_tryFrom_56 ?_
            refine lv_iload_n hx hb dX0_tryFrom_59 rfl (lv_at hl 0 rfl) ?_
            refine lv_dup2_11 hx hb dX0_tryFrom_60 rfl rfl ?_
            refine va_iald hx hb hK.1 hP 5 0 rfl rfl (g_in rfl (by omega) (by omega)) dX0_tryFrom_61 ?_
            refine lv_topi (fun z_26 ez_26 => ?_)
            have kz_26 := congrArg Int32.toInt ez_26
            refine lv_iconst (v := 1) hx hb dX0_tryFrom_62 (by decide) ?_
            refine lv_iadd hx hb dX0_tryFrom_63 ?_
            refine lv_topi (fun z_27 ez_27 => ?_)
            refine va_iast hx hb hK.1 hP hD hS 5 0 rfl rfl (g_in rfl (by omega) (by omega)) dX0_tryFrom_64 (fun H locs hP hD hS => ?_)
            have hP : va_P D vwCl [(dh, .inr (0, G0 da dlisted dshared dsailing dleastWorst_21)), ((da 0), .inl (E 0, 9, .inl df0)), ((da 1), .inl (E 0, 9, .inl (upd df1_21 (p0 : Int32).toNatClampNeg L3_21))), ((da 2), .inl (E 0, 9, .inl df2_21)), ((da 3), .inl (E 0, 3, .inl df3)), ((da 4), .inl (E 0, 3, .inl (upd df4_21 (L3_21 : Int32).toNatClampNeg z_27)))] H := hP
            have hD := toW hP hD rfl
            refine lv_aload_n hx hb dX0_tryFrom_65 rfl (lv_at hl 1 rfl) ?_
            refine lv_iload_n hx hb dX0_tryFrom_66 rfl (lv_at hl 2 rfl) ?_
            refine lv_iconst (v := 1) hx hb dX0_tryFrom_67 (by decide) ?_
            refine lv_iadd hx hb dX0_tryFrom_68 ?_
            refine lv_topi (fun z_28 ez_28 => ?_)
            have jz_28 : z_28.toInt = p0.toInt + 1 := by rw [ez_28]; exact g_add rfl t_1 (by omega) (by omega)
            refine lv_iload_n hx hb dX0_tryFrom_69 rfl (lv_at hl 3 rfl) ?_
            have hPc := hP.sub (ws' := [(dh, .inr (0, G0 da dlisted dshared dsailing dleastWorst_21)), ((da 0), .inl (E 0, 9, .inl df0)), ((da 1), .inl (E 0, 9, .inl (upd df1_21 (p0 : Int32).toNatClampNeg L3_21))), ((da 2), .inl (E 0, 9, .inl df2_21)), ((da 3), .inl (E 0, 3, .inl df3)), ((da 4), .inl (E 0, 3, .inl (upd df4_21 (L3_21 : Int32).toNatClampNeg z_27)))]) [0, 1, 2, 3, 4, 5] rfl
            have hDc := hD.sub (ws' := [(dh, .inr (0, G0 da dlisted dshared dsailing dleastWorst_21)), ((da 0), .inl (E 0, 9, .inl df0)), ((da 1), .inl (E 0, 9, .inl (upd df1_21 (p0 : Int32).toNatClampNeg L3_21))), ((da 2), .inl (E 0, 9, .inl df2_21)), ((da 3), .inl (E 0, 3, .inl df3)), ((da 4), .inl (E 0, 3, .inl (upd df4_21 (L3_21 : Int32).toNatClampNeg z_27)))]) [0, 1, 2, 3, 4, 5] (by decide) rfl
            refine aft_v (runMV (rest := []) (As := [.int z_28, .int p1]) hx hb hml hown htb hK (g_X0_tryFrom_1 l D E dh da dlisted dshared dsailing dleastWorst_21 df0 (upd df1_21 (p0 : Int32).toNatClampNeg L3_21) df2_21 df3 (upd df4_21 (L3_21 : Int32).toNatClampNeg z_27) z_28 p1 _ (by (try dsimp only); omega) (by (try dsimp only); omega)) ok_X0_tryFrom k_905 k_907 ks_34 k_7 k_908 ⟨(Nat.le_of_ble_eq_true rfl), (Nat.le_of_ble_eq_true rfl)⟩ ⟨(Nat.le_of_ble_eq_true rfl), (Nat.le_of_ble_eq_true rfl)⟩ hl.1 (Nat.le_of_ble_eq_true rfl) rfl rfl dX0_tryFrom_70 hPc hDc rfl rfl 0 rfl) hP hD hS hA [0, 1, 2, 3, 4, 5] [] (wr := ([] : va_W)) rfl rfl (by decide) (by decide) (fun u_31 H locs hw_30 hP hD hS => ?_)
            clear hPc hDc
            obtain ⟨w_32, w_33, w_34, w_35⟩ := u_31
            try dsimp only at hw_30
            have hP : va_P D vwCl [(dh, .inr (0, G0 da dlisted dshared dsailing w_35)), ((da 0), .inl (E 0, 9, .inl df0)), ((da 1), .inl (E 0, 9, .inl w_32)), ((da 2), .inl (E 0, 9, .inl w_33)), ((da 3), .inl (E 0, 3, .inl df3)), ((da 4), .inl (E 0, 3, .inl w_34))] H := hP
            have hD := toW hP hD rfl
            refine lv_aload_n hx hb dX0_tryFrom_73 rfl (lv_at hl 1 rfl) ?_
            refine va_get (D := D) (ci := 0) (v := .ref (da 4)) (C := RX0) (T := TX0) (N := 9) hx hb htb iX0 hown hK.1 hP 0 rfl rfl 4 (by decide) (htb _ k_195) (fun _ h9 => h9) rfl dX0_tryFrom_74 ?_
            refine lv_iload_n hx hb dX0_tryFrom_77 rfl (lv_at hl 0 rfl) ?_
            refine lv_dup2_11 hx hb dX0_tryFrom_78 rfl rfl ?_
            refine va_iald hx hb hK.1 hP 5 0 rfl rfl (g_in rfl (by omega) (by omega)) dX0_tryFrom_79 ?_
            refine lv_topi (fun z_36 ez_36 => ?_)
            have kz_36 := congrArg Int32.toInt ez_36
            refine lv_iconst (v := 1) hx hb dX0_tryFrom_80 (by decide) ?_
            refine lv_isub hx hb dX0_tryFrom_81 ?_
            refine lv_topi (fun z_37 ez_37 => ?_)
            refine va_iast hx hb hK.1 hP hD hS 5 0 rfl rfl (g_in rfl (by omega) (by omega)) dX0_tryFrom_82 (fun H locs hP hD hS => ?_)
            have hP : va_P D vwCl [(dh, .inr (0, G0 da dlisted dshared dsailing w_35)), ((da 0), .inl (E 0, 9, .inl df0)), ((da 1), .inl (E 0, 9, .inl w_32)), ((da 2), .inl (E 0, 9, .inl w_33)), ((da 3), .inl (E 0, 3, .inl df3)), ((da 4), .inl (E 0, 3, .inl (upd w_34 (L3_21 : Int32).toNatClampNeg z_37)))] H := hP
            have hD := toW hP hD rfl
            obtain ⟨z_38, ez_38⟩ : ∃ y : Int32, y = L3_21 + 1 := ⟨_, rfl⟩
            have jz_38 : z_38.toInt = L3_21.toInt + 1 := by rw [ez_38]; exact g_add rfl t_1 (by omega) (by omega)
            refine lv_iinc (v := z_38) (lv' := [(3, .int z_38), (0, .ref dh), (1, .int p0), (2, .int p1)]) hx hb dX0_tryFrom_83 hl (k := 0) rfl (by rw [ez_38]; rfl) (by decide) rfl (fun ls hl => ?_)
            refine lv_goto (tgt := 21) hx hb dX0_tryFrom_86 (by decide) ?_
            exact ih_9 z_38 w_35 w_32 w_33 (upd w_34 (L3_21 : Int32).toNatClampNeg z_37) _ _ _ (by (try dsimp only); omega) (by (try dsimp only); omega) (by rw [clampS (by omega) jz_38, lpX_s, ← v1_21]; rw [ez_37, ez_36]; refine shX_go (j := z_28) (by rw [← ez_23]; omega) ?_ ez_28; rw [ofN_c (by omega), ← ez_26, ← ez_27]; exact hw_30) hP hD hS (lv_sub hl [0, 1, 2, 3] rfl)
    exact loop_8 4 0 dleastWorst df1 df2 df4 _ _ _ (by have h0 := t_0; (try dsimp only); omega) (by have h0 := t_0; (try dsimp only); omega) (by rw [clamp_0]; rfl) hP hD hS (lv_sub hl [0, 1, 2, 3] rfl)
set_option maxHeartbeats 4000000 in
set_option maxRecDepth 100000 in
theorem g_X0_tryFrom_3 (l : Launch) (D : va_G) (E : Nat → Nat) (dh : Nat) (da : Nat → Nat) (dlisted : Int32) (dshared : Int32) (dsailing : Int32) (dleastWorst : Int32) (df0 : Nat → Int32) (df1 : Nat → Int32) (df2 : Nat → Int32) (df3 : Nat → Int32) (df4 : Nat → Int32) (p0 : Int32) (p1 : Int32) (sz : Nat) (hi_d : (0 ≤ dlisted.toInt ∧ dlisted.toInt ≤ 9) ∧ (0 ≤ dshared.toInt ∧ dshared.toInt ≤ 9) ∧ (0 ≤ dsailing.toInt ∧ dsailing.toInt ≤ 3)) (g0 : 6 ≤ p0.toInt ∧ p0.toInt ≤ 9) : Met l yX0_tryFrom (wl yX0_tryFrom cX0_tryFrom 4 none) (RM 6 0 0) (mu_P D E [.ref dh, .int p0, .int p1] [(dh, .inr (0, G0 da dlisted dshared dsailing dleastWorst)), ((da 0), .inl (E 0, 9, .inl df0)), ((da 1), .inl (E 0, 9, .inl df1)), ((da 2), .inl (E 0, 9, .inl df2)), ((da 3), .inl (E 0, 3, .inl df3)), ((da 4), .inl (E 0, 3, .inl df4))] sz) (va_Qv (fun (u : (Nat → Int32) × (Nat → Int32) × (Nat → Int32) × (Int32)) => (((u.1, u.2.2.1, u.2.2.2, u.2.1) : TS) = tfX df0 df3 dlisted dsailing 3 p0 p1 (df1, df4, dleastWorst, df2))) (mu_B D (va_A [(dh, .inr (0, G0 da dlisted dshared dsailing dleastWorst)), ((da 0), .inl (E 0, 9, .inl df0)), ((da 1), .inl (E 0, 9, .inl df1)), ((da 2), .inl (E 0, 9, .inl df2)), ((da 3), .inl (E 0, 3, .inl df3)), ((da 4), .inl (E 0, 3, .inl df4))] sz) (fun (u : (Nat → Int32) × (Nat → Int32) × (Nat → Int32) × (Int32)) => [(dh, .inr (0, G0 da dlisted dshared dsailing u.2.2.2)), ((da 0), .inl (E 0, 9, .inl df0)), ((da 1), .inl (E 0, 9, .inl u.1)), ((da 2), .inl (E 0, 9, .inl u.2.1)), ((da 3), .inl (E 0, 3, .inl df3)), ((da 4), .inl (E 0, 3, .inl u.2.2.1))])) (va_A [(dh, .inr (0, G0 da dlisted dshared dsailing dleastWorst)), ((da 0), .inl (E 0, 9, .inl df0)), ((da 1), .inl (E 0, 9, .inl df1)), ((da 2), .inl (E 0, 9, .inl df2)), ((da 3), .inl (E 0, 3, .inl df3)), ((da 4), .inl (E 0, 3, .inl df4))] sz)) 0 0 (va_A [(dh, .inr (0, G0 da dlisted dshared dsailing dleastWorst)), ((da 0), .inl (E 0, 9, .inl df0)), ((da 1), .inl (E 0, 9, .inl df1)), ((da 2), .inl (E 0, 9, .inl df2)), ((da 3), .inl (E 0, 3, .inl df3)), ((da 4), .inl (E 0, 3, .inl df4))] sz) := by
  refine Met.ofW (cc := cX0_tryFrom) (maxL := 4) (ret := none) (by decide) rfl ?_
  intro p e s m args below meth c s₁ B hml hv
  obtain ⟨rfl, hsz, hP, hK, hD0⟩ := hv
  have hx := B.exec; have hb := B.bytes; have hr := B.returns
  have hts := atoms_spec (ws := wl yX0_tryFrom cX0_tryFrom 4 none) B.pre
  have htb : ∀ w ∈ tb, w.before _ s = true := fun w h => hts w (List.mem_cons_of_mem _ h)
  have hown : s.vm.findClass RX0 = some m.cls := findClass_of_methodNamed B.named
  have hlocks := B.notSynchronized
  subst hsz
  have hD := hD0.self (sz := s.heap.size)
  generalize hAe : va_A [(dh, .inr (0, G0 da dlisted dshared dsailing dleastWorst)), ((da 0), .inl (E 0, 9, .inl df0)), ((da 1), .inl (E 0, 9, .inl df1)), ((da 2), .inl (E 0, 9, .inl df2)), ((da 3), .inl (E 0, 3, .inl df3)), ((da 4), .inl (E 0, 3, .inl df4))] s.heap.size = A at hD ⊢
  have hA : ∀ q : Nat, s.heap.size ≤ q → A q := fun q h => by rw [← hAe]; exact Or.inr h
  have hS : va_S A s.heap s.heap [] := va_S.rf
  have hP : va_P D vwCl [(dh, .inr (0, G0 da dlisted dshared dsailing dleastWorst)), ((da 0), .inl (E 0, 9, .inl df0)), ((da 1), .inl (E 0, 9, .inl df1)), ((da 2), .inl (E 0, 9, .inl df2)), ((da 3), .inl (E 0, 3, .inl df3)), ((da 4), .inl (E 0, 3, .inl df4))] s.heap := hP
  have hl := lv_entry ([.ref dh, .int p0, .int p1]) (n := 4) (Nat.le_of_ble_eq_true rfl)
  rw [lg_entry_eq]
  generalize (lg_sl ([.ref dh, .int p0, .int p1]) ++ List.replicate (4 - (lg_sl ([.ref dh, .int p0, .int p1])).length) Slot.unset).toArray = ls at hl ⊢
  have hl : lv_has ls 4 [(0, .ref dh), (1, .int p0), (2, .int p1)] := hl
  have lo_p0 := i_lo p0; have hi_p0 := i_hi p0
  have lo_p1 := i_lo p1; have hi_p1 := i_hi p1
  refine lv_iload_n hx hb dX0_tryFrom_0 rfl (lv_at hl 1 rfl) ?_
  refine lv_aload_n hx hb dX0_tryFrom_1 rfl (lv_at hl 0 rfl) ?_
  refine va_get (D := D) (ci := 0) (v := .int dlisted) (C := RX0) (T := TX0) (N := 9) hx hb htb iX0 hown hK.1 hP 0 rfl rfl 5 (by decide) (htb _ k_196) (fun _ h9 => h9) rfl dX0_tryFrom_2 ?_
  refine lv_icmp_ge (tgt := 14) hx hb dX0_tryFrom_5 (by decide) (fun c_1 => ?_) (fun c_1 => ?_)
  ·
    have ic_1 : dlisted.toInt ≤ p0.toInt := by first | exact (g_le rfl rfl).mp c_1 | (have h := mt (g_lt rfl rfl).mpr c_1; omega)
    clear c_1
    refine lv_aload_n hx hb dX0_tryFrom_14 rfl (lv_at hl 0 rfl) ?_
    have hPc := hP.sub (ws' := [(dh, .inr (0, G0 da dlisted dshared dsailing dleastWorst)), ((da 0), .inl (E 0, 9, .inl df0)), ((da 1), .inl (E 0, 9, .inl df1)), ((da 2), .inl (E 0, 9, .inl df2)), ((da 3), .inl (E 0, 3, .inl df3))]) [0, 1, 2, 3, 4] rfl
    have hDc := hD.sub (ws' := [(dh, .inr (0, G0 da dlisted dshared dsailing dleastWorst)), ((da 0), .inl (E 0, 9, .inl df0)), ((da 1), .inl (E 0, 9, .inl df1)), ((da 2), .inl (E 0, 9, .inl df2)), ((da 3), .inl (E 0, 3, .inl df3))]) [0, 1, 2, 3, 4] (by decide) rfl
    refine aft_v (runMV (rest := []) (As := []) hx hb hml hown htb hK (g_X0_keepIfBetter l D E dh da dlisted dshared dsailing dleastWorst df0 df1 df2 df3 _ (by (try dsimp only); omega)) ok_X0_keepIfBetter k_909 k_911 ks_35 k_7 k_912 ⟨(Nat.le_of_ble_eq_true rfl), (Nat.le_of_ble_eq_true rfl)⟩ ⟨(Nat.le_of_ble_eq_true rfl), (Nat.le_of_ble_eq_true rfl)⟩ hl.1 (Nat.le_of_ble_eq_true rfl) rfl rfl dX0_tryFrom_15 hPc hDc rfl rfl 0 rfl) hP hD hS hA [0, 1, 2, 3, 4] [5] (wr := [((da 4), .inl (E 0, 3, .inl df4))]) rfl rfl (by decide) (by decide) (fun u_4 H locs hw_3 hP hD hS => ?_)
    clear hPc hDc
    obtain ⟨w_5, w_6⟩ := u_4
    try dsimp only at hw_3
    have hP : va_P D vwCl [((da 4), .inl (E 0, 3, .inl df4)), (dh, .inr (0, G0 da dlisted dshared dsailing w_6)), ((da 0), .inl (E 0, 9, .inl df0)), ((da 1), .inl (E 0, 9, .inl df1)), ((da 2), .inl (E 0, 9, .inl w_5)), ((da 3), .inl (E 0, 3, .inl df3))] H := hP
    have hD := toW hP hD rfl
    have hP9 := hP.sub (ws' := [(dh, .inr (0, G0 da dlisted dshared dsailing w_6)), ((da 0), .inl (E 0, 9, .inl df0)), ((da 1), .inl (E 0, 9, .inl df1)), ((da 2), .inl (E 0, 9, .inl w_5)), ((da 3), .inl (E 0, 3, .inl df3)), ((da 4), .inl (E 0, 3, .inl df4))]) [1, 2, 3, 4, 5, 0] rfl
    have hD9 := hD.sub (ws' := [(dh, .inr (0, G0 da dlisted dshared dsailing w_6)), ((da 0), .inl (E 0, 9, .inl df0)), ((da 1), .inl (E 0, 9, .inl df1)), ((da 2), .inl (E 0, 9, .inl w_5)), ((da 3), .inl (E 0, 3, .inl df3)), ((da 4), .inl (E 0, 3, .inl df4))]) [1, 2, 3, 4, 5, 0] (by decide) rfl
    exact W.vret hx hb hr (fun t ht hW => ⟨⟨(df1, w_5, df4, w_6), rfl, (by (try dsimp only); rw [tfX_end (by omega)]; unfold kpX; (try dsimp only); rw [← hw_3]), by rw [ht]; exact hP9, hD9⟩, hS.F ht⟩) hS.2.2 dX0_tryFrom_18
  ·
    have ic_1 : p0.toInt < dlisted.toInt := by first | exact (g_lt rfl rfl).mp c_1 | (have h := mt (g_le rfl rfl).mpr c_1; omega)
    clear c_1
    refine lv_iload_n hx hb dX0_tryFrom_8 rfl (lv_at hl 1 rfl) ?_
    refine lv_bipush (v := 9) hx hb dX0_tryFrom_9 (by decide) ?_
    refine lv_icmp_lt (tgt := 19) hx hb dX0_tryFrom_11 (by decide) (fun c_7 => ?_) (fun c_7 => absurd (by rw [g_lt rfl t_9]; omega) c_7)
    refine lv_iconst (v := 0) hx hb dX0_tryFrom_19 (by decide) ?_
    refine lv_istore_n (lv' := [(3, .int 0), (0, .ref dh), (1, .int p0), (2, .int p1)]) hx hb dX0_tryFrom_20 rfl hl (by decide) rfl (fun ls hl => ?_)
    have loop_8 : ∀ (N_10 : Nat) (L3_21 : Int32) (dleastWorst_21 : Int32) (df1_21 : Nat → Int32) (df2_21 : Nat → Int32) (df4_21 : Nat → Int32) (H : Heap) (locs : List Loc) (ls : Array Slot), 3 - L3_21.toInt < (N_10 : Int) → (0 ≤ L3_21.toInt ∧ L3_21.toInt ≤ dsailing.toInt) → (((df1_21, df4_21, dleastWorst_21, df2_21) : TS) = lpX (tfX df0 df3 dlisted dsailing 2) p0 p1 (df1, df4, dleastWorst, df2) (L3_21).toNatClampNeg) → va_P D vwCl [(dh, .inr (0, G0 da dlisted dshared dsailing dleastWorst_21)), ((da 0), .inl (E 0, 9, .inl df0)), ((da 1), .inl (E 0, 9, .inl df1_21)), ((da 2), .inl (E 0, 9, .inl df2_21)), ((da 3), .inl (E 0, 3, .inl df3)), ((da 4), .inl (E 0, 3, .inl df4_21))] H → va_D A [(dh, .inr (0, G0 da dlisted dshared dsailing dleastWorst_21)), ((da 0), .inl (E 0, 9, .inl df0)), ((da 1), .inl (E 0, 9, .inl df1_21)), ((da 2), .inl (E 0, 9, .inl df2_21)), ((da 3), .inl (E 0, 3, .inl df3)), ((da 4), .inl (E 0, 3, .inl df4_21))] → va_S A s.heap H locs → lv_has ls 4 [(3, .int L3_21), (0, .ref dh), (1, .int p0), (2, .int p1)] → W p l e (headSpec (wl yX0_tryFrom cX0_tryFrom 4 none) (RM 6 0 0)).room s m [Value.ref dh, .int p0, .int p1].toArray below meth c H locs 0 0 (MQ below (va_Qv (fun (u : (Nat → Int32) × (Nat → Int32) × (Nat → Int32) × (Int32)) => (((u.1, u.2.2.1, u.2.2.2, u.2.1) : TS) = tfX df0 df3 dlisted dsailing 3 p0 p1 (df1, df4, dleastWorst, df2))) (mu_B D A (fun (u : (Nat → Int32) × (Nat → Int32) × (Nat → Int32) × (Int32)) => [(dh, .inr (0, G0 da dlisted dshared dsailing u.2.2.2)), ((da 0), .inl (E 0, 9, .inl df0)), ((da 1), .inl (E 0, 9, .inl u.1)), ((da 2), .inl (E 0, 9, .inl u.2.1)), ((da 3), .inl (E 0, 3, .inl df3)), ((da 4), .inl (E 0, 3, .inl u.2.2.1))])) A) [Value.ref dh, .int p0, .int p1].toArray s 0 0 A) (F0 m 21 ls []) := by
      intro N_10
      induction N_10 with
      | zero => intro L3_21 dleastWorst_21 df1_21 df2_21 df4_21 H locs ls hm v0_21 v1_21 _ _ _ _; exfalso; omega
      | succ N_10 ih_9 =>
        intro L3_21 dleastWorst_21 df1_21 df2_21 df4_21 H locs ls hm v0_21 v1_21 hP hD hS hl
        have lo_L3_21 := i_lo L3_21; have hi_L3_21 := i_hi L3_21
        have lo_dleastWorst_21 := i_lo dleastWorst_21; have hi_dleastWorst_21 := i_hi dleastWorst_21
        refine lv_iload_n hx hb dX0_tryFrom_21 rfl (lv_at hl 0 rfl) ?_
        refine lv_aload_n hx hb dX0_tryFrom_22 rfl (lv_at hl 1 rfl) ?_
        refine va_get (D := D) (ci := 0) (v := .int dsailing) (C := RX0) (T := TX0) (N := 9) hx hb htb iX0 hown hK.1 hP 0 rfl rfl 7 (by decide) (htb _ k_200) (fun _ h9 => h9) rfl dX0_tryFrom_23 ?_
        refine lv_icmp_ge (tgt := 89) hx hb dX0_tryFrom_26 (by decide) (fun c_11 => ?_) (fun c_11 => ?_)
        ·
          have ic_11 : dsailing.toInt ≤ L3_21.toInt := by first | exact (g_le rfl rfl).mp c_11 | (have h := mt (g_lt rfl rfl).mpr c_11; omega)
          clear c_11
          refine lv_iload_n hx hb dX0_tryFrom_89 rfl (lv_at hl 3 rfl) ?_
          refine lv_if_le (tgt := 110) hx hb dX0_tryFrom_90 (by decide) (fun c_12 => ?_) (fun c_12 => ?_)
          ·
            have ic_12 : p1.toInt ≤ 0 := by first | exact (g_le rfl t_0).mp c_12 | (have h := mt (g_lt t_0 rfl).mpr c_12; omega)
            clear c_12
            have hP9 := hP.sub (ws' := [(dh, .inr (0, G0 da dlisted dshared dsailing dleastWorst_21)), ((da 0), .inl (E 0, 9, .inl df0)), ((da 1), .inl (E 0, 9, .inl df1_21)), ((da 2), .inl (E 0, 9, .inl df2_21)), ((da 3), .inl (E 0, 3, .inl df3)), ((da 4), .inl (E 0, 3, .inl df4_21))]) [0, 1, 2, 3, 4, 5] rfl
            have hD9 := hD.sub (ws' := [(dh, .inr (0, G0 da dlisted dshared dsailing dleastWorst_21)), ((da 0), .inl (E 0, 9, .inl df0)), ((da 1), .inl (E 0, 9, .inl df1_21)), ((da 2), .inl (E 0, 9, .inl df2_21)), ((da 3), .inl (E 0, 3, .inl df3)), ((da 4), .inl (E 0, 3, .inl df4_21))]) [0, 1, 2, 3, 4, 5] (by decide) rfl
            exact W.vret hx hb hr (fun t ht hW => ⟨⟨(df1_21, df2_21, df4_21, dleastWorst_21), rfl, (by (try dsimp only); rw [tfX_no (by omega) (by omega), show (dsailing : Int32).toNatClampNeg = (L3_21).toNatClampNeg from clampE (by omega) (by omega), ← v1_21]), by rw [ht]; exact hP9, hD9⟩, hS.F ht⟩) hS.2.2 dX0_tryFrom_110
          ·
            have ic_12 : 0 < p1.toInt := by first | exact (g_lt t_0 rfl).mp c_12 | (have h := mt (g_le rfl t_0).mpr c_12; omega)
            clear c_12
            refine lv_aload_n hx hb dX0_tryFrom_93 rfl (lv_at hl 1 rfl) ?_
            refine va_get (D := D) (ci := 0) (v := .ref (da 1)) (C := RX0) (T := TX0) (N := 9) hx hb htb iX0 hown hK.1 hP 0 rfl rfl 1 (by decide) (htb _ k_191) (fun _ h9 => h9) rfl dX0_tryFrom_94 ?_
            refine lv_iload_n hx hb dX0_tryFrom_97 rfl (lv_at hl 2 rfl) ?_
            refine lv_iconst (v := (-1)) hx hb dX0_tryFrom_98 (by decide) ?_
            refine va_iast hx hb hK.1 hP hD hS 2 0 rfl rfl (g_in rfl (by omega) (by omega)) dX0_tryFrom_99 (fun H locs hP hD hS => ?_)
            have hP : va_P D vwCl [(dh, .inr (0, G0 da dlisted dshared dsailing dleastWorst_21)), ((da 0), .inl (E 0, 9, .inl df0)), ((da 1), .inl (E 0, 9, .inl (upd df1_21 (p0 : Int32).toNatClampNeg (-1)))), ((da 2), .inl (E 0, 9, .inl df2_21)), ((da 3), .inl (E 0, 3, .inl df3)), ((da 4), .inl (E 0, 3, .inl df4_21))] H := hP
            have hD := toW hP hD rfl
            refine lv_aload_n hx hb dX0_tryFrom_100 rfl (lv_at hl 1 rfl) ?_
            refine lv_iload_n hx hb dX0_tryFrom_101 rfl (lv_at hl 2 rfl) ?_
            refine lv_iconst (v := 1) hx hb dX0_tryFrom_102 (by decide) ?_
            refine lv_iadd hx hb dX0_tryFrom_103 ?_
            refine lv_topi (fun z_13 ez_13 => ?_)
            have jz_13 : z_13.toInt = p0.toInt + 1 := by rw [ez_13]; exact g_add rfl t_1 (by omega) (by omega)
            refine lv_iload_n hx hb dX0_tryFrom_104 rfl (lv_at hl 3 rfl) ?_
            refine lv_iconst (v := 1) hx hb dX0_tryFrom_105 (by decide) ?_
            refine lv_isub hx hb dX0_tryFrom_106 ?_
            refine lv_topi (fun z_14 ez_14 => ?_)
            have jz_14 : z_14.toInt = p1.toInt - 1 := by rw [ez_14]; exact g_sub rfl t_1 (by omega) (by omega)
            have hPc := hP.sub (ws' := [(dh, .inr (0, G0 da dlisted dshared dsailing dleastWorst_21)), ((da 0), .inl (E 0, 9, .inl df0)), ((da 1), .inl (E 0, 9, .inl (upd df1_21 (p0 : Int32).toNatClampNeg (-1)))), ((da 2), .inl (E 0, 9, .inl df2_21)), ((da 3), .inl (E 0, 3, .inl df3)), ((da 4), .inl (E 0, 3, .inl df4_21))]) [0, 1, 2, 3, 4, 5] rfl
            have hDc := hD.sub (ws' := [(dh, .inr (0, G0 da dlisted dshared dsailing dleastWorst_21)), ((da 0), .inl (E 0, 9, .inl df0)), ((da 1), .inl (E 0, 9, .inl (upd df1_21 (p0 : Int32).toNatClampNeg (-1)))), ((da 2), .inl (E 0, 9, .inl df2_21)), ((da 3), .inl (E 0, 3, .inl df3)), ((da 4), .inl (E 0, 3, .inl df4_21))]) [0, 1, 2, 3, 4, 5] (by decide) rfl
            refine aft_v (runMV (rest := []) (As := [.int z_13, .int z_14]) hx hb hml hown htb hK (g_X0_tryFrom_2 l D E dh da dlisted dshared dsailing dleastWorst_21 df0 (upd df1_21 (p0 : Int32).toNatClampNeg (-1)) df2_21 df3 df4_21 z_13 z_14 _ (by (try dsimp only); omega) (by (try dsimp only); omega)) ok_X0_tryFrom k_905 k_907 ks_34 k_7 k_908 ⟨(Nat.le_of_ble_eq_true rfl), (Nat.le_of_ble_eq_true rfl)⟩ ⟨(Nat.le_of_ble_eq_true rfl), (Nat.le_of_ble_eq_true rfl)⟩ hl.1 (Nat.le_of_ble_eq_true rfl) rfl rfl dX0_tryFrom_107 hPc hDc rfl rfl 0 rfl) hP hD hS hA [0, 1, 2, 3, 4, 5] [] (wr := ([] : va_W)) rfl rfl (by decide) (by decide) (fun u_17 H locs hw_16 hP hD hS => ?_)
            clear hPc hDc
            obtain ⟨w_18, w_19, w_20, w_21⟩ := u_17
            try dsimp only at hw_16
            have hP : va_P D vwCl [(dh, .inr (0, G0 da dlisted dshared dsailing w_21)), ((da 0), .inl (E 0, 9, .inl df0)), ((da 1), .inl (E 0, 9, .inl w_18)), ((da 2), .inl (E 0, 9, .inl w_19)), ((da 3), .inl (E 0, 3, .inl df3)), ((da 4), .inl (E 0, 3, .inl w_20))] H := hP
            have hD := toW hP hD rfl
            have hP9 := hP.sub (ws' := [(dh, .inr (0, G0 da dlisted dshared dsailing w_21)), ((da 0), .inl (E 0, 9, .inl df0)), ((da 1), .inl (E 0, 9, .inl w_18)), ((da 2), .inl (E 0, 9, .inl w_19)), ((da 3), .inl (E 0, 3, .inl df3)), ((da 4), .inl (E 0, 3, .inl w_20))]) [0, 1, 2, 3, 4, 5] rfl
            have hD9 := hD.sub (ws' := [(dh, .inr (0, G0 da dlisted dshared dsailing w_21)), ((da 0), .inl (E 0, 9, .inl df0)), ((da 1), .inl (E 0, 9, .inl w_18)), ((da 2), .inl (E 0, 9, .inl w_19)), ((da 3), .inl (E 0, 3, .inl df3)), ((da 4), .inl (E 0, 3, .inl w_20))]) [0, 1, 2, 3, 4, 5] (by decide) rfl
            exact W.vret hx hb hr (fun t ht hW => ⟨⟨(w_18, w_19, w_20, w_21), rfl, (by (try dsimp only); exact tf_go (by omega) (by omega) (by rw [show (dsailing : Int32).toNatClampNeg = (L3_21).toNatClampNeg from clampE (by omega) (by omega)]; exact v1_21) ez_13 ez_14 hw_16), by rw [ht]; exact hP9, hD9⟩, hS.F ht⟩) hS.2.2 dX0_tryFrom_110
        ·
          have ic_11 : L3_21.toInt < dsailing.toInt := by first | exact (g_lt rfl rfl).mp c_11 | (have h := mt (g_le rfl rfl).mpr c_11; omega)
          clear c_11
          refine lv_iload_n hx hb dX0_tryFrom_29 rfl (lv_at hl 0 rfl) ?_
          refine lv_aload_n hx hb dX0_tryFrom_30 rfl (lv_at hl 1 rfl) ?_
          refine va_get (D := D) (ci := 0) (v := .ref (da 4)) (C := RX0) (T := TX0) (N := 9) hx hb htb iX0 hown hK.1 hP 0 rfl rfl 4 (by decide) (htb _ k_195) (fun _ h9 => h9) rfl dX0_tryFrom_31 ?_
          refine va_alen hx hb hK.1 hP 5 0 rfl rfl (v := 3) (show Int32.ofNat 3 = 3 by decide) dX0_tryFrom_34 ?_
          refine lv_icmp_ge (tgt := 89) hx hb dX0_tryFrom_35 (by decide) (fun c_22 => absurd c_22 (by rw [g_le t_3 rfl]; omega)) (fun c_22 => ?_)
          refine lv_aload_n hx hb dX0_tryFrom_38 rfl (lv_at hl 1 rfl) ?_
          refine va_get (D := D) (ci := 0) (v := .ref (da 4)) (C := RX0) (T := TX0) (N := 9) hx hb htb iX0 hown hK.1 hP 0 rfl rfl 4 (by decide) (htb _ k_195) (fun _ h9 => h9) rfl dX0_tryFrom_39 ?_
          refine lv_iload_n hx hb dX0_tryFrom_42 rfl (lv_at hl 0 rfl) ?_
          refine va_iald hx hb hK.1 hP 5 0 rfl rfl (g_in rfl (by omega) (by omega)) dX0_tryFrom_43 ?_
          refine lv_topi (fun z_23 ez_23 => ?_)
          have kz_23 := congrArg Int32.toInt ez_23
          refine lv_iconst (v := 3) hx hb dX0_tryFrom_44 (by decide) ?_
          refine lv_icmp_ge (tgt := 83) hx hb dX0_tryFrom_45 (by decide) (fun c_24 => ?_) (fun c_24 => ?_)
          ·
            have ic_24 : 3 ≤ z_23.toInt := by first | exact (g_le t_3 rfl).mp c_24 | (have h := mt (g_lt rfl t_3).mpr c_24; omega)
            clear c_24
            obtain ⟨z_25, ez_25⟩ : ∃ y : Int32, y = L3_21 + 1 := ⟨_, rfl⟩
            have jz_25 : z_25.toInt = L3_21.toInt + 1 := by rw [ez_25]; exact g_add rfl t_1 (by omega) (by omega)
            refine lv_iinc (v := z_25) (lv' := [(3, .int z_25), (0, .ref dh), (1, .int p0), (2, .int p1)]) hx hb dX0_tryFrom_83 hl (k := 0) rfl (by rw [ez_25]; rfl) (by decide) rfl (fun ls hl => ?_)
            refine lv_goto (tgt := 21) hx hb dX0_tryFrom_86 (by decide) ?_
            exact ih_9 z_25 dleastWorst_21 df1_21 df2_21 df4_21 _ _ _ (by (try dsimp only); omega) (by (try dsimp only); omega) (by rw [clampS (by omega) jz_25, lpX_s, ← v1_21]; rw [shX_no (by (try dsimp only); rw [← ez_23]; omega)]) hP hD hS (lv_sub hl [0, 1, 2, 3] rfl)
          ·
            have ic_24 : z_23.toInt < 3 := by first | exact (g_lt rfl t_3).mp c_24 | (have h := mt (g_le t_3 rfl).mpr c_24; omega)
            clear c_24
            refine lv_aload_n hx hb dX0_tryFrom_48 rfl (lv_at hl 1 rfl) ?_
            refine va_get (D := D) (ci := 0) (v := .ref (da 1)) (C := RX0) (T := TX0) (N := 9) hx hb htb iX0 hown hK.1 hP 0 rfl rfl 1 (by decide) (htb _ k_191) (fun _ h9 => h9) rfl dX0_tryFrom_49 ?_
            refine lv_iload_n hx hb dX0_tryFrom_52 rfl (lv_at hl 2 rfl) ?_
            refine lv_iload_n hx hb dX0_tryFrom_53 rfl (lv_at hl 0 rfl) ?_
            refine va_iast hx hb hK.1 hP hD hS 2 0 rfl rfl (g_in rfl (by omega) (by omega)) dX0_tryFrom_54 (fun H locs hP hD hS => ?_)
            have hP : va_P D vwCl [(dh, .inr (0, G0 da dlisted dshared dsailing dleastWorst_21)), ((da 0), .inl (E 0, 9, .inl df0)), ((da 1), .inl (E 0, 9, .inl (upd df1_21 (p0 : Int32).toNatClampNeg L3_21))), ((da 2), .inl (E 0, 9, .inl df2_21)), ((da 3), .inl (E 0, 3, .inl df3)), ((da 4), .inl (E 0, 3, .inl df4_21))] H := hP
            have hD := toW hP hD rfl
            refine lv_aload_n hx hb dX0_tryFrom_55 rfl (lv_at hl 1 rfl) ?_
            refine va_get (D := D) (ci := 0) (v := .ref (da 4)) (C := RX0) (T := TX0) (N := 9) hx hb htb iX0 hown hK.1 hP 0 rfl rfl 4 (by decide) (htb _ k_195) (fun _ h9 => h9) rfl dX0_tryFrom_56 ?_
            refine lv_iload_n hx hb dX0_tryFrom_59 rfl (lv_at hl 0 rfl) ?_
            refine lv_dup2_11 hx hb dX0_tryFrom_60 rfl rfl ?_
            refine va_iald hx hb hK.1 hP 5 0 rfl rfl (g_in rfl (by omega) (by omega)) dX0_tryFrom_61 ?_
            refine lv_topi (fun z_26 ez_26 => ?_)
            have kz_26 := congrArg Int32.toInt ez_26
            refine lv_iconst (v := 1) hx hb dX0_tryFrom_62 (by decide) ?_
            refine lv_iadd hx hb dX0_tryFrom_63 ?_
            refine lv_topi (fun z_27 ez_27 => ?_)
            refine va_iast hx hb hK.1 hP hD hS 5 0 rfl rfl (g_in rfl (by omega) (by omega)) dX0_tryFrom_64 (fun H locs hP hD hS => ?_)
            have hP : va_P D vwCl [(dh, .inr (0, G0 da dlisted dshared dsailing dleastWorst_21)), ((da 0), .inl (E 0, 9, .inl df0)), ((da 1), .inl (E 0, 9, .inl (upd df1_21 (p0 : Int32).toNatClampNeg L3_21))), ((da 2), .inl (E 0, 9, .inl df2_21)), ((da 3), .inl (E 0, 3, .inl df3)), ((da 4), .inl (E 0, 3, .inl (upd df4_21 (L3_21 : Int32).toNatClampNeg z_27)))] H := hP
            have hD := toW hP hD rfl
            refine lv_aload_n hx hb dX0_tryFrom_65 rfl (lv_at hl 1 rfl) ?_
            refine lv_iload_n hx hb dX0_tryFrom_66 rfl (lv_at hl 2 rfl) ?_
            refine lv_iconst (v := 1) hx hb dX0_tryFrom_67 (by decide) ?_
            refine lv_iadd hx hb dX0_tryFrom_68 ?_
            refine lv_topi (fun z_28 ez_28 => ?_)
            have jz_28 : z_28.toInt = p0.toInt + 1 := by rw [ez_28]; exact g_add rfl t_1 (by omega) (by omega)
            refine lv_iload_n hx hb dX0_tryFrom_69 rfl (lv_at hl 3 rfl) ?_
            have hPc := hP.sub (ws' := [(dh, .inr (0, G0 da dlisted dshared dsailing dleastWorst_21)), ((da 0), .inl (E 0, 9, .inl df0)), ((da 1), .inl (E 0, 9, .inl (upd df1_21 (p0 : Int32).toNatClampNeg L3_21))), ((da 2), .inl (E 0, 9, .inl df2_21)), ((da 3), .inl (E 0, 3, .inl df3)), ((da 4), .inl (E 0, 3, .inl (upd df4_21 (L3_21 : Int32).toNatClampNeg z_27)))]) [0, 1, 2, 3, 4, 5] rfl
            have hDc := hD.sub (ws' := [(dh, .inr (0, G0 da dlisted dshared dsailing dleastWorst_21)), ((da 0), .inl (E 0, 9, .inl df0)), ((da 1), .inl (E 0, 9, .inl (upd df1_21 (p0 : Int32).toNatClampNeg L3_21))), ((da 2), .inl (E 0, 9, .inl df2_21)), ((da 3), .inl (E 0, 3, .inl df3)), ((da 4), .inl (E 0, 3, .inl (upd df4_21 (L3_21 : Int32).toNatClampNeg z_27)))]) [0, 1, 2, 3, 4, 5] (by decide) rfl
            refine aft_v (runMV (rest := []) (As := [.int z_28, .int p1]) hx hb hml hown htb hK (g_X0_tryFrom_2 l D E dh da dlisted dshared dsailing dleastWorst_21 df0 (upd df1_21 (p0 : Int32).toNatClampNeg L3_21) df2_21 df3 (upd df4_21 (L3_21 : Int32).toNatClampNeg z_27) z_28 p1 _ (by (try dsimp only); omega) (by (try dsimp only); omega)) ok_X0_tryFrom k_905 k_907 ks_34 k_7 k_908 ⟨(Nat.le_of_ble_eq_true rfl), (Nat.le_of_ble_eq_true rfl)⟩ ⟨(Nat.le_of_ble_eq_true rfl), (Nat.le_of_ble_eq_true rfl)⟩ hl.1 (Nat.le_of_ble_eq_true rfl) rfl rfl dX0_tryFrom_70 hPc hDc rfl rfl 0 rfl) hP hD hS hA [0, 1, 2, 3, 4, 5] [] (wr := ([] : va_W)) rfl rfl (by decide) (by decide) (fun u_31 H locs hw_30 hP hD hS => ?_)
            clear hPc hDc
            obtain ⟨w_32, w_33, w_34, w_35⟩ := u_31
            try dsimp only at hw_30
            have hP : va_P D vwCl [(dh, .inr (0, G0 da dlisted dshared dsailing w_35)), ((da 0), .inl (E 0, 9, .inl df0)), ((da 1), .inl (E 0, 9, .inl w_32)), ((da 2), .inl (E 0, 9, .inl w_33)), ((da 3), .inl (E 0, 3, .inl df3)), ((da 4), .inl (E 0, 3, .inl w_34))] H := hP
            have hD := toW hP hD rfl
            refine lv_aload_n hx hb dX0_tryFrom_73 rfl (lv_at hl 1 rfl) ?_
            refine va_get (D := D) (ci := 0) (v := .ref (da 4)) (C := RX0) (T := TX0) (N := 9) hx hb htb iX0 hown hK.1 hP 0 rfl rfl 4 (by decide) (htb _ k_195) (fun _ h9 => h9) rfl dX0_tryFrom_74 ?_
            refine lv_iload_n hx hb dX0_tryFrom_77 rfl (lv_at hl 0 rfl) ?_
            refine lv_dup2_11 hx hb dX0_tryFrom_78 rfl rfl ?_
            refine va_iald hx hb hK.1 hP 5 0 rfl rfl (g_in rfl (by omega) (by omega)) dX0_tryFrom_79 ?_
            refine lv_topi (fun z_36 ez_36 => ?_)
            have kz_36 := congrArg Int32.toInt ez_36
            refine lv_iconst (v := 1) hx hb dX0_tryFrom_80 (by decide) ?_
            refine lv_isub hx hb dX0_tryFrom_81 ?_
            refine lv_topi (fun z_37 ez_37 => ?_)
            refine va_iast hx hb hK.1 hP hD hS 5 0 rfl rfl (g_in rfl (by omega) (by omega)) dX0_tryFrom_82 (fun H locs hP hD hS => ?_)
            have hP : va_P D vwCl [(dh, .inr (0, G0 da dlisted dshared dsailing w_35)), ((da 0), .inl (E 0, 9, .inl df0)), ((da 1), .inl (E 0, 9, .inl w_32)), ((da 2), .inl (E 0, 9, .inl w_33)), ((da 3), .inl (E 0, 3, .inl df3)), ((da 4), .inl (E 0, 3, .inl (upd w_34 (L3_21 : Int32).toNatClampNeg z_37)))] H := hP
            have hD := toW hP hD rfl
            obtain ⟨z_38, ez_38⟩ : ∃ y : Int32, y = L3_21 + 1 := ⟨_, rfl⟩
            have jz_38 : z_38.toInt = L3_21.toInt + 1 := by rw [ez_38]; exact g_add rfl t_1 (by omega) (by omega)
            refine lv_iinc (v := z_38) (lv' := [(3, .int z_38), (0, .ref dh), (1, .int p0), (2, .int p1)]) hx hb dX0_tryFrom_83 hl (k := 0) rfl (by rw [ez_38]; rfl) (by decide) rfl (fun ls hl => ?_)
            refine lv_goto (tgt := 21) hx hb dX0_tryFrom_86 (by decide) ?_
            exact ih_9 z_38 w_35 w_32 w_33 (upd w_34 (L3_21 : Int32).toNatClampNeg z_37) _ _ _ (by (try dsimp only); omega) (by (try dsimp only); omega) (by rw [clampS (by omega) jz_38, lpX_s, ← v1_21]; rw [ez_37, ez_36]; refine shX_go (j := z_28) (by rw [← ez_23]; omega) ?_ ez_28; rw [ofN_c (by omega), ← ez_26, ← ez_27]; exact hw_30) hP hD hS (lv_sub hl [0, 1, 2, 3] rfl)
    exact loop_8 4 0 dleastWorst df1 df2 df4 _ _ _ (by have h0 := t_0; (try dsimp only); omega) (by have h0 := t_0; (try dsimp only); omega) (by rw [clamp_0]; rfl) hP hD hS (lv_sub hl [0, 1, 2, 3] rfl)
set_option maxHeartbeats 4000000 in
set_option maxRecDepth 100000 in
theorem g_X0_tryFrom_4 (l : Launch) (D : va_G) (E : Nat → Nat) (dh : Nat) (da : Nat → Nat) (dlisted : Int32) (dshared : Int32) (dsailing : Int32) (dleastWorst : Int32) (df0 : Nat → Int32) (df1 : Nat → Int32) (df2 : Nat → Int32) (df3 : Nat → Int32) (df4 : Nat → Int32) (p0 : Int32) (p1 : Int32) (sz : Nat) (hi_d : (0 ≤ dlisted.toInt ∧ dlisted.toInt ≤ 9) ∧ (0 ≤ dshared.toInt ∧ dshared.toInt ≤ 9) ∧ (0 ≤ dsailing.toInt ∧ dsailing.toInt ≤ 3)) (g0 : 5 ≤ p0.toInt ∧ p0.toInt ≤ 9) : Met l yX0_tryFrom (wl yX0_tryFrom cX0_tryFrom 4 none) (RM 7 0 0) (mu_P D E [.ref dh, .int p0, .int p1] [(dh, .inr (0, G0 da dlisted dshared dsailing dleastWorst)), ((da 0), .inl (E 0, 9, .inl df0)), ((da 1), .inl (E 0, 9, .inl df1)), ((da 2), .inl (E 0, 9, .inl df2)), ((da 3), .inl (E 0, 3, .inl df3)), ((da 4), .inl (E 0, 3, .inl df4))] sz) (va_Qv (fun (u : (Nat → Int32) × (Nat → Int32) × (Nat → Int32) × (Int32)) => (((u.1, u.2.2.1, u.2.2.2, u.2.1) : TS) = tfX df0 df3 dlisted dsailing 4 p0 p1 (df1, df4, dleastWorst, df2))) (mu_B D (va_A [(dh, .inr (0, G0 da dlisted dshared dsailing dleastWorst)), ((da 0), .inl (E 0, 9, .inl df0)), ((da 1), .inl (E 0, 9, .inl df1)), ((da 2), .inl (E 0, 9, .inl df2)), ((da 3), .inl (E 0, 3, .inl df3)), ((da 4), .inl (E 0, 3, .inl df4))] sz) (fun (u : (Nat → Int32) × (Nat → Int32) × (Nat → Int32) × (Int32)) => [(dh, .inr (0, G0 da dlisted dshared dsailing u.2.2.2)), ((da 0), .inl (E 0, 9, .inl df0)), ((da 1), .inl (E 0, 9, .inl u.1)), ((da 2), .inl (E 0, 9, .inl u.2.1)), ((da 3), .inl (E 0, 3, .inl df3)), ((da 4), .inl (E 0, 3, .inl u.2.2.1))])) (va_A [(dh, .inr (0, G0 da dlisted dshared dsailing dleastWorst)), ((da 0), .inl (E 0, 9, .inl df0)), ((da 1), .inl (E 0, 9, .inl df1)), ((da 2), .inl (E 0, 9, .inl df2)), ((da 3), .inl (E 0, 3, .inl df3)), ((da 4), .inl (E 0, 3, .inl df4))] sz)) 0 0 (va_A [(dh, .inr (0, G0 da dlisted dshared dsailing dleastWorst)), ((da 0), .inl (E 0, 9, .inl df0)), ((da 1), .inl (E 0, 9, .inl df1)), ((da 2), .inl (E 0, 9, .inl df2)), ((da 3), .inl (E 0, 3, .inl df3)), ((da 4), .inl (E 0, 3, .inl df4))] sz) := by
  refine Met.ofW (cc := cX0_tryFrom) (maxL := 4) (ret := none) (by decide) rfl ?_
  intro p e s m args below meth c s₁ B hml hv
  obtain ⟨rfl, hsz, hP, hK, hD0⟩ := hv
  have hx := B.exec; have hb := B.bytes; have hr := B.returns
  have hts := atoms_spec (ws := wl yX0_tryFrom cX0_tryFrom 4 none) B.pre
  have htb : ∀ w ∈ tb, w.before _ s = true := fun w h => hts w (List.mem_cons_of_mem _ h)
  have hown : s.vm.findClass RX0 = some m.cls := findClass_of_methodNamed B.named
  have hlocks := B.notSynchronized
  subst hsz
  have hD := hD0.self (sz := s.heap.size)
  generalize hAe : va_A [(dh, .inr (0, G0 da dlisted dshared dsailing dleastWorst)), ((da 0), .inl (E 0, 9, .inl df0)), ((da 1), .inl (E 0, 9, .inl df1)), ((da 2), .inl (E 0, 9, .inl df2)), ((da 3), .inl (E 0, 3, .inl df3)), ((da 4), .inl (E 0, 3, .inl df4))] s.heap.size = A at hD ⊢
  have hA : ∀ q : Nat, s.heap.size ≤ q → A q := fun q h => by rw [← hAe]; exact Or.inr h
  have hS : va_S A s.heap s.heap [] := va_S.rf
  have hP : va_P D vwCl [(dh, .inr (0, G0 da dlisted dshared dsailing dleastWorst)), ((da 0), .inl (E 0, 9, .inl df0)), ((da 1), .inl (E 0, 9, .inl df1)), ((da 2), .inl (E 0, 9, .inl df2)), ((da 3), .inl (E 0, 3, .inl df3)), ((da 4), .inl (E 0, 3, .inl df4))] s.heap := hP
  have hl := lv_entry ([.ref dh, .int p0, .int p1]) (n := 4) (Nat.le_of_ble_eq_true rfl)
  rw [lg_entry_eq]
  generalize (lg_sl ([.ref dh, .int p0, .int p1]) ++ List.replicate (4 - (lg_sl ([.ref dh, .int p0, .int p1])).length) Slot.unset).toArray = ls at hl ⊢
  have hl : lv_has ls 4 [(0, .ref dh), (1, .int p0), (2, .int p1)] := hl
  have lo_p0 := i_lo p0; have hi_p0 := i_hi p0
  have lo_p1 := i_lo p1; have hi_p1 := i_hi p1
  refine lv_iload_n hx hb dX0_tryFrom_0 rfl (lv_at hl 1 rfl) ?_
  refine lv_aload_n hx hb dX0_tryFrom_1 rfl (lv_at hl 0 rfl) ?_
  refine va_get (D := D) (ci := 0) (v := .int dlisted) (C := RX0) (T := TX0) (N := 9) hx hb htb iX0 hown hK.1 hP 0 rfl rfl 5 (by decide) (htb _ k_196) (fun _ h9 => h9) rfl dX0_tryFrom_2 ?_
  refine lv_icmp_ge (tgt := 14) hx hb dX0_tryFrom_5 (by decide) (fun c_1 => ?_) (fun c_1 => ?_)
  ·
    have ic_1 : dlisted.toInt ≤ p0.toInt := by first | exact (g_le rfl rfl).mp c_1 | (have h := mt (g_lt rfl rfl).mpr c_1; omega)
    clear c_1
    refine lv_aload_n hx hb dX0_tryFrom_14 rfl (lv_at hl 0 rfl) ?_
    have hPc := hP.sub (ws' := [(dh, .inr (0, G0 da dlisted dshared dsailing dleastWorst)), ((da 0), .inl (E 0, 9, .inl df0)), ((da 1), .inl (E 0, 9, .inl df1)), ((da 2), .inl (E 0, 9, .inl df2)), ((da 3), .inl (E 0, 3, .inl df3))]) [0, 1, 2, 3, 4] rfl
    have hDc := hD.sub (ws' := [(dh, .inr (0, G0 da dlisted dshared dsailing dleastWorst)), ((da 0), .inl (E 0, 9, .inl df0)), ((da 1), .inl (E 0, 9, .inl df1)), ((da 2), .inl (E 0, 9, .inl df2)), ((da 3), .inl (E 0, 3, .inl df3))]) [0, 1, 2, 3, 4] (by decide) rfl
    refine aft_v (runMV (rest := []) (As := []) hx hb hml hown htb hK (g_X0_keepIfBetter l D E dh da dlisted dshared dsailing dleastWorst df0 df1 df2 df3 _ (by (try dsimp only); omega)) ok_X0_keepIfBetter k_909 k_911 ks_35 k_7 k_912 ⟨(Nat.le_of_ble_eq_true rfl), (Nat.le_of_ble_eq_true rfl)⟩ ⟨(Nat.le_of_ble_eq_true rfl), (Nat.le_of_ble_eq_true rfl)⟩ hl.1 (Nat.le_of_ble_eq_true rfl) rfl rfl dX0_tryFrom_15 hPc hDc rfl rfl 0 rfl) hP hD hS hA [0, 1, 2, 3, 4] [5] (wr := [((da 4), .inl (E 0, 3, .inl df4))]) rfl rfl (by decide) (by decide) (fun u_4 H locs hw_3 hP hD hS => ?_)
    clear hPc hDc
    obtain ⟨w_5, w_6⟩ := u_4
    try dsimp only at hw_3
    have hP : va_P D vwCl [((da 4), .inl (E 0, 3, .inl df4)), (dh, .inr (0, G0 da dlisted dshared dsailing w_6)), ((da 0), .inl (E 0, 9, .inl df0)), ((da 1), .inl (E 0, 9, .inl df1)), ((da 2), .inl (E 0, 9, .inl w_5)), ((da 3), .inl (E 0, 3, .inl df3))] H := hP
    have hD := toW hP hD rfl
    have hP9 := hP.sub (ws' := [(dh, .inr (0, G0 da dlisted dshared dsailing w_6)), ((da 0), .inl (E 0, 9, .inl df0)), ((da 1), .inl (E 0, 9, .inl df1)), ((da 2), .inl (E 0, 9, .inl w_5)), ((da 3), .inl (E 0, 3, .inl df3)), ((da 4), .inl (E 0, 3, .inl df4))]) [1, 2, 3, 4, 5, 0] rfl
    have hD9 := hD.sub (ws' := [(dh, .inr (0, G0 da dlisted dshared dsailing w_6)), ((da 0), .inl (E 0, 9, .inl df0)), ((da 1), .inl (E 0, 9, .inl df1)), ((da 2), .inl (E 0, 9, .inl w_5)), ((da 3), .inl (E 0, 3, .inl df3)), ((da 4), .inl (E 0, 3, .inl df4))]) [1, 2, 3, 4, 5, 0] (by decide) rfl
    exact W.vret hx hb hr (fun t ht hW => ⟨⟨(df1, w_5, df4, w_6), rfl, (by (try dsimp only); rw [tfX_end (by omega)]; unfold kpX; (try dsimp only); rw [← hw_3]), by rw [ht]; exact hP9, hD9⟩, hS.F ht⟩) hS.2.2 dX0_tryFrom_18
  ·
    have ic_1 : p0.toInt < dlisted.toInt := by first | exact (g_lt rfl rfl).mp c_1 | (have h := mt (g_le rfl rfl).mpr c_1; omega)
    clear c_1
    refine lv_iload_n hx hb dX0_tryFrom_8 rfl (lv_at hl 1 rfl) ?_
    refine lv_bipush (v := 9) hx hb dX0_tryFrom_9 (by decide) ?_
    refine lv_icmp_lt (tgt := 19) hx hb dX0_tryFrom_11 (by decide) (fun c_7 => ?_) (fun c_7 => absurd (by rw [g_lt rfl t_9]; omega) c_7)
    refine lv_iconst (v := 0) hx hb dX0_tryFrom_19 (by decide) ?_
    refine lv_istore_n (lv' := [(3, .int 0), (0, .ref dh), (1, .int p0), (2, .int p1)]) hx hb dX0_tryFrom_20 rfl hl (by decide) rfl (fun ls hl => ?_)
    have loop_8 : ∀ (N_10 : Nat) (L3_21 : Int32) (dleastWorst_21 : Int32) (df1_21 : Nat → Int32) (df2_21 : Nat → Int32) (df4_21 : Nat → Int32) (H : Heap) (locs : List Loc) (ls : Array Slot), 3 - L3_21.toInt < (N_10 : Int) → (0 ≤ L3_21.toInt ∧ L3_21.toInt ≤ dsailing.toInt) → (((df1_21, df4_21, dleastWorst_21, df2_21) : TS) = lpX (tfX df0 df3 dlisted dsailing 3) p0 p1 (df1, df4, dleastWorst, df2) (L3_21).toNatClampNeg) → va_P D vwCl [(dh, .inr (0, G0 da dlisted dshared dsailing dleastWorst_21)), ((da 0), .inl (E 0, 9, .inl df0)), ((da 1), .inl (E 0, 9, .inl df1_21)), ((da 2), .inl (E 0, 9, .inl df2_21)), ((da 3), .inl (E 0, 3, .inl df3)), ((da 4), .inl (E 0, 3, .inl df4_21))] H → va_D A [(dh, .inr (0, G0 da dlisted dshared dsailing dleastWorst_21)), ((da 0), .inl (E 0, 9, .inl df0)), ((da 1), .inl (E 0, 9, .inl df1_21)), ((da 2), .inl (E 0, 9, .inl df2_21)), ((da 3), .inl (E 0, 3, .inl df3)), ((da 4), .inl (E 0, 3, .inl df4_21))] → va_S A s.heap H locs → lv_has ls 4 [(3, .int L3_21), (0, .ref dh), (1, .int p0), (2, .int p1)] → W p l e (headSpec (wl yX0_tryFrom cX0_tryFrom 4 none) (RM 7 0 0)).room s m [Value.ref dh, .int p0, .int p1].toArray below meth c H locs 0 0 (MQ below (va_Qv (fun (u : (Nat → Int32) × (Nat → Int32) × (Nat → Int32) × (Int32)) => (((u.1, u.2.2.1, u.2.2.2, u.2.1) : TS) = tfX df0 df3 dlisted dsailing 4 p0 p1 (df1, df4, dleastWorst, df2))) (mu_B D A (fun (u : (Nat → Int32) × (Nat → Int32) × (Nat → Int32) × (Int32)) => [(dh, .inr (0, G0 da dlisted dshared dsailing u.2.2.2)), ((da 0), .inl (E 0, 9, .inl df0)), ((da 1), .inl (E 0, 9, .inl u.1)), ((da 2), .inl (E 0, 9, .inl u.2.1)), ((da 3), .inl (E 0, 3, .inl df3)), ((da 4), .inl (E 0, 3, .inl u.2.2.1))])) A) [Value.ref dh, .int p0, .int p1].toArray s 0 0 A) (F0 m 21 ls []) := by
      intro N_10
      induction N_10 with
      | zero => intro L3_21 dleastWorst_21 df1_21 df2_21 df4_21 H locs ls hm v0_21 v1_21 _ _ _ _; exfalso; omega
      | succ N_10 ih_9 =>
        intro L3_21 dleastWorst_21 df1_21 df2_21 df4_21 H locs ls hm v0_21 v1_21 hP hD hS hl
        have lo_L3_21 := i_lo L3_21; have hi_L3_21 := i_hi L3_21
        have lo_dleastWorst_21 := i_lo dleastWorst_21; have hi_dleastWorst_21 := i_hi dleastWorst_21
        refine lv_iload_n hx hb dX0_tryFrom_21 rfl (lv_at hl 0 rfl) ?_
        refine lv_aload_n hx hb dX0_tryFrom_22 rfl (lv_at hl 1 rfl) ?_
        refine va_get (D := D) (ci := 0) (v := .int dsailing) (C := RX0) (T := TX0) (N := 9) hx hb htb iX0 hown hK.1 hP 0 rfl rfl 7 (by decide) (htb _ k_200) (fun _ h9 => h9) rfl dX0_tryFrom_23 ?_
        refine lv_icmp_ge (tgt := 89) hx hb dX0_tryFrom_26 (by decide) (fun c_11 => ?_) (fun c_11 => ?_)
        ·
          have ic_11 : dsailing.toInt ≤ L3_21.toInt := by first | exact (g_le rfl rfl).mp c_11 | (have h := mt (g_lt rfl rfl).mpr c_11; omega)
          clear c_11
          refine lv_iload_n hx hb dX0_tryFrom_89 rfl (lv_at hl 3 rfl) ?_
          refine lv_if_le (tgt := 110) hx hb dX0_tryFrom_90 (by decide) (fun c_12 => ?_) (fun c_12 => ?_)
          ·
            have ic_12 : p1.toInt ≤ 0 := by first | exact (g_le rfl t_0).mp c_12 | (have h := mt (g_lt t_0 rfl).mpr c_12; omega)
            clear c_12
            have hP9 := hP.sub (ws' := [(dh, .inr (0, G0 da dlisted dshared dsailing dleastWorst_21)), ((da 0), .inl (E 0, 9, .inl df0)), ((da 1), .inl (E 0, 9, .inl df1_21)), ((da 2), .inl (E 0, 9, .inl df2_21)), ((da 3), .inl (E 0, 3, .inl df3)), ((da 4), .inl (E 0, 3, .inl df4_21))]) [0, 1, 2, 3, 4, 5] rfl
            have hD9 := hD.sub (ws' := [(dh, .inr (0, G0 da dlisted dshared dsailing dleastWorst_21)), ((da 0), .inl (E 0, 9, .inl df0)), ((da 1), .inl (E 0, 9, .inl df1_21)), ((da 2), .inl (E 0, 9, .inl df2_21)), ((da 3), .inl (E 0, 3, .inl df3)), ((da 4), .inl (E 0, 3, .inl df4_21))]) [0, 1, 2, 3, 4, 5] (by decide) rfl
            exact W.vret hx hb hr (fun t ht hW => ⟨⟨(df1_21, df2_21, df4_21, dleastWorst_21), rfl, (by (try dsimp only); rw [tfX_no (by omega) (by omega), show (dsailing : Int32).toNatClampNeg = (L3_21).toNatClampNeg from clampE (by omega) (by omega), ← v1_21]), by rw [ht]; exact hP9, hD9⟩, hS.F ht⟩) hS.2.2 dX0_tryFrom_110
          ·
            have ic_12 : 0 < p1.toInt := by first | exact (g_lt t_0 rfl).mp c_12 | (have h := mt (g_le rfl t_0).mpr c_12; omega)
            clear c_12
            refine lv_aload_n hx hb dX0_tryFrom_93 rfl (lv_at hl 1 rfl) ?_
            refine va_get (D := D) (ci := 0) (v := .ref (da 1)) (C := RX0) (T := TX0) (N := 9) hx hb htb iX0 hown hK.1 hP 0 rfl rfl 1 (by decide) (htb _ k_191) (fun _ h9 => h9) rfl dX0_tryFrom_94 ?_
            refine lv_iload_n hx hb dX0_tryFrom_97 rfl (lv_at hl 2 rfl) ?_
            refine lv_iconst (v := (-1)) hx hb dX0_tryFrom_98 (by decide) ?_
            refine va_iast hx hb hK.1 hP hD hS 2 0 rfl rfl (g_in rfl (by omega) (by omega)) dX0_tryFrom_99 (fun H locs hP hD hS => ?_)
            have hP : va_P D vwCl [(dh, .inr (0, G0 da dlisted dshared dsailing dleastWorst_21)), ((da 0), .inl (E 0, 9, .inl df0)), ((da 1), .inl (E 0, 9, .inl (upd df1_21 (p0 : Int32).toNatClampNeg (-1)))), ((da 2), .inl (E 0, 9, .inl df2_21)), ((da 3), .inl (E 0, 3, .inl df3)), ((da 4), .inl (E 0, 3, .inl df4_21))] H := hP
            have hD := toW hP hD rfl
            refine lv_aload_n hx hb dX0_tryFrom_100 rfl (lv_at hl 1 rfl) ?_
            refine lv_iload_n hx hb dX0_tryFrom_101 rfl (lv_at hl 2 rfl) ?_
            refine lv_iconst (v := 1) hx hb dX0_tryFrom_102 (by decide) ?_
            refine lv_iadd hx hb dX0_tryFrom_103 ?_
            refine lv_topi (fun z_13 ez_13 => ?_)
            have jz_13 : z_13.toInt = p0.toInt + 1 := by rw [ez_13]; exact g_add rfl t_1 (by omega) (by omega)
            refine lv_iload_n hx hb dX0_tryFrom_104 rfl (lv_at hl 3 rfl) ?_
            refine lv_iconst (v := 1) hx hb dX0_tryFrom_105 (by decide) ?_
            refine lv_isub hx hb dX0_tryFrom_106 ?_
            refine lv_topi (fun z_14 ez_14 => ?_)
            have jz_14 : z_14.toInt = p1.toInt - 1 := by rw [ez_14]; exact g_sub rfl t_1 (by omega) (by omega)
            have hPc := hP.sub (ws' := [(dh, .inr (0, G0 da dlisted dshared dsailing dleastWorst_21)), ((da 0), .inl (E 0, 9, .inl df0)), ((da 1), .inl (E 0, 9, .inl (upd df1_21 (p0 : Int32).toNatClampNeg (-1)))), ((da 2), .inl (E 0, 9, .inl df2_21)), ((da 3), .inl (E 0, 3, .inl df3)), ((da 4), .inl (E 0, 3, .inl df4_21))]) [0, 1, 2, 3, 4, 5] rfl
            have hDc := hD.sub (ws' := [(dh, .inr (0, G0 da dlisted dshared dsailing dleastWorst_21)), ((da 0), .inl (E 0, 9, .inl df0)), ((da 1), .inl (E 0, 9, .inl (upd df1_21 (p0 : Int32).toNatClampNeg (-1)))), ((da 2), .inl (E 0, 9, .inl df2_21)), ((da 3), .inl (E 0, 3, .inl df3)), ((da 4), .inl (E 0, 3, .inl df4_21))]) [0, 1, 2, 3, 4, 5] (by decide) rfl
            refine aft_v (runMV (rest := []) (As := [.int z_13, .int z_14]) hx hb hml hown htb hK (g_X0_tryFrom_3 l D E dh da dlisted dshared dsailing dleastWorst_21 df0 (upd df1_21 (p0 : Int32).toNatClampNeg (-1)) df2_21 df3 df4_21 z_13 z_14 _ (by (try dsimp only); omega) (by (try dsimp only); omega)) ok_X0_tryFrom k_905 k_907 ks_34 k_7 k_908 ⟨(Nat.le_of_ble_eq_true rfl), (Nat.le_of_ble_eq_true rfl)⟩ ⟨(Nat.le_of_ble_eq_true rfl), (Nat.le_of_ble_eq_true rfl)⟩ hl.1 (Nat.le_of_ble_eq_true rfl) rfl rfl dX0_tryFrom_107 hPc hDc rfl rfl 0 rfl) hP hD hS hA [0, 1, 2, 3, 4, 5] [] (wr := ([] : va_W)) rfl rfl (by decide) (by decide) (fun u_17 H locs hw_16 hP hD hS => ?_)
            clear hPc hDc
            obtain ⟨w_18, w_19, w_20, w_21⟩ := u_17
            try dsimp only at hw_16
            have hP : va_P D vwCl [(dh, .inr (0, G0 da dlisted dshared dsailing w_21)), ((da 0), .inl (E 0, 9, .inl df0)), ((da 1), .inl (E 0, 9, .inl w_18)), ((da 2), .inl (E 0, 9, .inl w_19)), ((da 3), .inl (E 0, 3, .inl df3)), ((da 4), .inl (E 0, 3, .inl w_20))] H := hP
            have hD := toW hP hD rfl
            have hP9 := hP.sub (ws' := [(dh, .inr (0, G0 da dlisted dshared dsailing w_21)), ((da 0), .inl (E 0, 9, .inl df0)), ((da 1), .inl (E 0, 9, .inl w_18)), ((da 2), .inl (E 0, 9, .inl w_19)), ((da 3), .inl (E 0, 3, .inl df3)), ((da 4), .inl (E 0, 3, .inl w_20))]) [0, 1, 2, 3, 4, 5] rfl
            have hD9 := hD.sub (ws' := [(dh, .inr (0, G0 da dlisted dshared dsailing w_21)), ((da 0), .inl (E 0, 9, .inl df0)), ((da 1), .inl (E 0, 9, .inl w_18)), ((da 2), .inl (E 0, 9, .inl w_19)), ((da 3), .inl (E 0, 3, .inl df3)), ((da 4), .inl (E 0, 3, .inl w_20))]) [0, 1, 2, 3, 4, 5] (by decide) rfl
            exact W.vret hx hb hr (fun t ht hW => ⟨⟨(w_18, w_19, w_20, w_21), rfl, (by (try dsimp only); exact tf_go (by omega) (by omega) (by rw [show (dsailing : Int32).toNatClampNeg = (L3_21).toNatClampNeg from clampE (by omega) (by omega)]; exact v1_21) ez_13 ez_14 hw_16), by rw [ht]; exact hP9, hD9⟩, hS.F ht⟩) hS.2.2 dX0_tryFrom_110
        ·
          have ic_11 : L3_21.toInt < dsailing.toInt := by first | exact (g_lt rfl rfl).mp c_11 | (have h := mt (g_le rfl rfl).mpr c_11; omega)
          clear c_11
          refine lv_iload_n hx hb dX0_tryFrom_29 rfl (lv_at hl 0 rfl) ?_
          refine lv_aload_n hx hb dX0_tryFrom_30 rfl (lv_at hl 1 rfl) ?_
          refine va_get (D := D) (ci := 0) (v := .ref (da 4)) (C := RX0) (T := TX0) (N := 9) hx hb htb iX0 hown hK.1 hP 0 rfl rfl 4 (by decide) (htb _ k_195) (fun _ h9 => h9) rfl dX0_tryFrom_31 ?_
          refine va_alen hx hb hK.1 hP 5 0 rfl rfl (v := 3) (show Int32.ofNat 3 = 3 by decide) dX0_tryFrom_34 ?_
          refine lv_icmp_ge (tgt := 89) hx hb dX0_tryFrom_35 (by decide) (fun c_22 => absurd c_22 (by rw [g_le t_3 rfl]; omega)) (fun c_22 => ?_)
          refine lv_aload_n hx hb dX0_tryFrom_38 rfl (lv_at hl 1 rfl) ?_
          refine va_get (D := D) (ci := 0) (v := .ref (da 4)) (C := RX0) (T := TX0) (N := 9) hx hb htb iX0 hown hK.1 hP 0 rfl rfl 4 (by decide) (htb _ k_195) (fun _ h9 => h9) rfl dX0_tryFrom_39 ?_
          refine lv_iload_n hx hb dX0_tryFrom_42 rfl (lv_at hl 0 rfl) ?_
          refine va_iald hx hb hK.1 hP 5 0 rfl rfl (g_in rfl (by omega) (by omega)) dX0_tryFrom_43 ?_
          refine lv_topi (fun z_23 ez_23 => ?_)
          have kz_23 := congrArg Int32.toInt ez_23
          refine lv_iconst (v := 3) hx hb dX0_tryFrom_44 (by decide) ?_
          refine lv_icmp_ge (tgt := 83) hx hb dX0_tryFrom_45 (by decide) (fun c_24 => ?_) (fun c_24 => ?_)
          ·
            have ic_24 : 3 ≤ z_23.toInt := by first | exact (g_le t_3 rfl).mp c_24 | (have h := mt (g_lt rfl t_3).mpr c_24; omega)
            clear c_24
            obtain ⟨z_25, ez_25⟩ : ∃ y : Int32, y = L3_21 + 1 := ⟨_, rfl⟩
            have jz_25 : z_25.toInt = L3_21.toInt + 1 := by rw [ez_25]; exact g_add rfl t_1 (by omega) (by omega)
            refine lv_iinc (v := z_25) (lv' := [(3, .int z_25), (0, .ref dh), (1, .int p0), (2, .int p1)]) hx hb dX0_tryFrom_83 hl (k := 0) rfl (by rw [ez_25]; rfl) (by decide) rfl (fun ls hl => ?_)
            refine lv_goto (tgt := 21) hx hb dX0_tryFrom_86 (by decide) ?_
            exact ih_9 z_25 dleastWorst_21 df1_21 df2_21 df4_21 _ _ _ (by (try dsimp only); omega) (by (try dsimp only); omega) (by rw [clampS (by omega) jz_25, lpX_s, ← v1_21]; rw [shX_no (by (try dsimp only); rw [← ez_23]; omega)]) hP hD hS (lv_sub hl [0, 1, 2, 3] rfl)
          ·
            have ic_24 : z_23.toInt < 3 := by first | exact (g_lt rfl t_3).mp c_24 | (have h := mt (g_le t_3 rfl).mpr c_24; omega)
            clear c_24
            refine lv_aload_n hx hb dX0_tryFrom_48 rfl (lv_at hl 1 rfl) ?_
            refine va_get (D := D) (ci := 0) (v := .ref (da 1)) (C := RX0) (T := TX0) (N := 9) hx hb htb iX0 hown hK.1 hP 0 rfl rfl 1 (by decide) (htb _ k_191) (fun _ h9 => h9) rfl dX0_tryFrom_49 ?_
            refine lv_iload_n hx hb dX0_tryFrom_52 rfl (lv_at hl 2 rfl) ?_
            refine lv_iload_n hx hb dX0_tryFrom_53 rfl (lv_at hl 0 rfl) ?_
            refine va_iast hx hb hK.1 hP hD hS 2 0 rfl rfl (g_in rfl (by omega) (by omega)) dX0_tryFrom_54 (fun H locs hP hD hS => ?_)
            have hP : va_P D vwCl [(dh, .inr (0, G0 da dlisted dshared dsailing dleastWorst_21)), ((da 0), .inl (E 0, 9, .inl df0)), ((da 1), .inl (E 0, 9, .inl (upd df1_21 (p0 : Int32).toNatClampNeg L3_21))), ((da 2), .inl (E 0, 9, .inl df2_21)), ((da 3), .inl (E 0, 3, .inl df3)), ((da 4), .inl (E 0, 3, .inl df4_21))] H := hP
            have hD := toW hP hD rfl
            refine lv_aload_n hx hb dX0_tryFrom_55 rfl (lv_at hl 1 rfl) ?_
            refine va_get (D := D) (ci := 0) (v := .ref (da 4)) (C := RX0) (T := TX0) (N := 9) hx hb htb iX0 hown hK.1 hP 0 rfl rfl 4 (by decide) (htb _ k_195) (fun _ h9 => h9) rfl dX0_tryFrom_56 ?_
            refine lv_iload_n hx hb dX0_tryFrom_59 rfl (lv_at hl 0 rfl) ?_
            refine lv_dup2_11 hx hb dX0_tryFrom_60 rfl rfl ?_
            refine va_iald hx hb hK.1 hP 5 0 rfl rfl (g_in rfl (by omega) (by omega)) dX0_tryFrom_61 ?_
            refine lv_topi (fun z_26 ez_26 => ?_)
            have kz_26 := congrArg Int32.toInt ez_26
            refine lv_iconst (v := 1) hx hb dX0_tryFrom_62 (by decide) ?_
            refine lv_iadd hx hb dX0_tryFrom_63 ?_
            refine lv_topi (fun z_27 ez_27 => ?_)
            refine va_iast hx hb hK.1 hP hD hS 5 0 rfl rfl (g_in rfl (by omega) (by omega)) dX0_tryFrom_64 (fun H locs hP hD hS => ?_)
            have hP : va_P D vwCl [(dh, .inr (0, G0 da dlisted dshared dsailing dleastWorst_21)), ((da 0), .inl (E 0, 9, .inl df0)), ((da 1), .inl (E 0, 9, .inl (upd df1_21 (p0 : Int32).toNatClampNeg L3_21))), ((da 2), .inl (E 0, 9, .inl df2_21)), ((da 3), .inl (E 0, 3, .inl df3)), ((da 4), .inl (E 0, 3, .inl (upd df4_21 (L3_21 : Int32).toNatClampNeg z_27)))] H := hP
            have hD := toW hP hD rfl
            refine lv_aload_n hx hb dX0_tryFrom_65 rfl (lv_at hl 1 rfl) ?_
            refine lv_iload_n hx hb dX0_tryFrom_66 rfl (lv_at hl 2 rfl) ?_
            refine lv_iconst (v := 1) hx hb dX0_tryFrom_67 (by decide) ?_
            refine lv_iadd hx hb dX0_tryFrom_68 ?_
            refine lv_topi (fun z_28 ez_28 => ?_)
            have jz_28 : z_28.toInt = p0.toInt + 1 := by rw [ez_28]; exact g_add rfl t_1 (by omega) (by omega)
            refine lv_iload_n hx hb dX0_tryFrom_69 rfl (lv_at hl 3 rfl) ?_
            have hPc := hP.sub (ws' := [(dh, .inr (0, G0 da dlisted dshared dsailing dleastWorst_21)), ((da 0), .inl (E 0, 9, .inl df0)), ((da 1), .inl (E 0, 9, .inl (upd df1_21 (p0 : Int32).toNatClampNeg L3_21))), ((da 2), .inl (E 0, 9, .inl df2_21)), ((da 3), .inl (E 0, 3, .inl df3)), ((da 4), .inl (E 0, 3, .inl (upd df4_21 (L3_21 : Int32).toNatClampNeg z_27)))]) [0, 1, 2, 3, 4, 5] rfl
            have hDc := hD.sub (ws' := [(dh, .inr (0, G0 da dlisted dshared dsailing dleastWorst_21)), ((da 0), .inl (E 0, 9, .inl df0)), ((da 1), .inl (E 0, 9, .inl (upd df1_21 (p0 : Int32).toNatClampNeg L3_21))), ((da 2), .inl (E 0, 9, .inl df2_21)), ((da 3), .inl (E 0, 3, .inl df3)), ((da 4), .inl (E 0, 3, .inl (upd df4_21 (L3_21 : Int32).toNatClampNeg z_27)))]) [0, 1, 2, 3, 4, 5] (by decide) rfl
            refine aft_v (runMV (rest := []) (As := [.int z_28, .int p1]) hx hb hml hown htb hK (g_X0_tryFrom_3 l D E dh da dlisted dshared dsailing dleastWorst_21 df0 (upd df1_21 (p0 : Int32).toNatClampNeg L3_21) df2_21 df3 (upd df4_21 (L3_21 : Int32).toNatClampNeg z_27) z_28 p1 _ (by (try dsimp only); omega) (by (try dsimp only); omega)) ok_X0_tryFrom k_905 k_907 ks_34 k_7 k_908 ⟨(Nat.le_of_ble_eq_true rfl), (Nat.le_of_ble_eq_true rfl)⟩ ⟨(Nat.le_of_ble_eq_true rfl), (Nat.le_of_ble_eq_true rfl)⟩ hl.1 (Nat.le_of_ble_eq_true rfl) rfl rfl dX0_tryFrom_70 hPc hDc rfl rfl 0 rfl) hP hD hS hA [0, 1, 2, 3, 4, 5] [] (wr := ([] : va_W)) rfl rfl (by decide) (by decide) (fun u_31 H locs hw_30 hP hD hS => ?_)
            clear hPc hDc
            obtain ⟨w_32, w_33, w_34, w_35⟩ := u_31
            try dsimp only at hw_30
            have hP : va_P D vwCl [(dh, .inr (0, G0 da dlisted dshared dsailing w_35)), ((da 0), .inl (E 0, 9, .inl df0)), ((da 1), .inl (E 0, 9, .inl w_32)), ((da 2), .inl (E 0, 9, .inl w_33)), ((da 3), .inl (E 0, 3, .inl df3)), ((da 4), .inl (E 0, 3, .inl w_34))] H := hP
            have hD := toW hP hD rfl
            refine lv_aload_n hx hb dX0_tryFrom_73 rfl (lv_at hl 1 rfl) ?_
            refine va_get (D := D) (ci := 0) (v := .ref (da 4)) (C := RX0) (T := TX0) (N := 9) hx hb htb iX0 hown hK.1 hP 0 rfl rfl 4 (by decide) (htb _ k_195) (fun _ h9 => h9) rfl dX0_tryFrom_74 ?_
            refine lv_iload_n hx hb dX0_tryFrom_77 rfl (lv_at hl 0 rfl) ?_
            refine lv_dup2_11 hx hb dX0_tryFrom_78 rfl rfl ?_
            refine va_iald hx hb hK.1 hP 5 0 rfl rfl (g_in rfl (by omega) (by omega)) dX0_tryFrom_79 ?_
            refine lv_topi (fun z_36 ez_36 => ?_)
            have kz_36 := congrArg Int32.toInt ez_36
            refine lv_iconst (v := 1) hx hb dX0_tryFrom_80 (by decide) ?_
            refine lv_isub hx hb dX0_tryFrom_81 ?_
            refine lv_topi (fun z_37 ez_37 => ?_)
            refine va_iast hx hb hK.1 hP hD hS 5 0 rfl rfl (g_in rfl (by omega) (by omega)) dX0_tryFrom_82 (fun H locs hP hD hS => ?_)
            have hP : va_P D vwCl [(dh, .inr (0, G0 da dlisted dshared dsailing w_35)), ((da 0), .inl (E 0, 9, .inl df0)), ((da 1), .inl (E 0, 9, .inl w_32)), ((da 2), .inl (E 0, 9, .inl w_33)), ((da 3), .inl (E 0, 3, .inl df3)), ((da 4), .inl (E 0, 3, .inl (upd w_34 (L3_21 : Int32).toNatClampNeg z_37)))] H := hP
            have hD := toW hP hD rfl
            obtain ⟨z_38, ez_38⟩ : ∃ y : Int32, y = L3_21 + 1 := ⟨_, rfl⟩
            have jz_38 : z_38.toInt = L3_21.toInt + 1 := by rw [ez_38]; exact g_add rfl t_1 (by omega) (by omega)
            refine lv_iinc (v := z_38) (lv' := [(3, .int z_38), (0, .ref dh), (1, .int p0), (2, .int p1)]) hx hb dX0_tryFrom_83 hl (k := 0) rfl (by rw [ez_38]; rfl) (by decide) rfl (fun ls hl => ?_)
            refine lv_goto (tgt := 21) hx hb dX0_tryFrom_86 (by decide) ?_
            exact ih_9 z_38 w_35 w_32 w_33 (upd w_34 (L3_21 : Int32).toNatClampNeg z_37) _ _ _ (by (try dsimp only); omega) (by (try dsimp only); omega) (by rw [clampS (by omega) jz_38, lpX_s, ← v1_21]; rw [ez_37, ez_36]; refine shX_go (j := z_28) (by rw [← ez_23]; omega) ?_ ez_28; rw [ofN_c (by omega), ← ez_26, ← ez_27]; exact hw_30) hP hD hS (lv_sub hl [0, 1, 2, 3] rfl)
    exact loop_8 4 0 dleastWorst df1 df2 df4 _ _ _ (by have h0 := t_0; (try dsimp only); omega) (by have h0 := t_0; (try dsimp only); omega) (by rw [clamp_0]; rfl) hP hD hS (lv_sub hl [0, 1, 2, 3] rfl)
set_option maxHeartbeats 4000000 in
set_option maxRecDepth 100000 in
theorem g_X0_tryFrom_5 (l : Launch) (D : va_G) (E : Nat → Nat) (dh : Nat) (da : Nat → Nat) (dlisted : Int32) (dshared : Int32) (dsailing : Int32) (dleastWorst : Int32) (df0 : Nat → Int32) (df1 : Nat → Int32) (df2 : Nat → Int32) (df3 : Nat → Int32) (df4 : Nat → Int32) (p0 : Int32) (p1 : Int32) (sz : Nat) (hi_d : (0 ≤ dlisted.toInt ∧ dlisted.toInt ≤ 9) ∧ (0 ≤ dshared.toInt ∧ dshared.toInt ≤ 9) ∧ (0 ≤ dsailing.toInt ∧ dsailing.toInt ≤ 3)) (g0 : 4 ≤ p0.toInt ∧ p0.toInt ≤ 9) : Met l yX0_tryFrom (wl yX0_tryFrom cX0_tryFrom 4 none) (RM 8 0 0) (mu_P D E [.ref dh, .int p0, .int p1] [(dh, .inr (0, G0 da dlisted dshared dsailing dleastWorst)), ((da 0), .inl (E 0, 9, .inl df0)), ((da 1), .inl (E 0, 9, .inl df1)), ((da 2), .inl (E 0, 9, .inl df2)), ((da 3), .inl (E 0, 3, .inl df3)), ((da 4), .inl (E 0, 3, .inl df4))] sz) (va_Qv (fun (u : (Nat → Int32) × (Nat → Int32) × (Nat → Int32) × (Int32)) => (((u.1, u.2.2.1, u.2.2.2, u.2.1) : TS) = tfX df0 df3 dlisted dsailing 5 p0 p1 (df1, df4, dleastWorst, df2))) (mu_B D (va_A [(dh, .inr (0, G0 da dlisted dshared dsailing dleastWorst)), ((da 0), .inl (E 0, 9, .inl df0)), ((da 1), .inl (E 0, 9, .inl df1)), ((da 2), .inl (E 0, 9, .inl df2)), ((da 3), .inl (E 0, 3, .inl df3)), ((da 4), .inl (E 0, 3, .inl df4))] sz) (fun (u : (Nat → Int32) × (Nat → Int32) × (Nat → Int32) × (Int32)) => [(dh, .inr (0, G0 da dlisted dshared dsailing u.2.2.2)), ((da 0), .inl (E 0, 9, .inl df0)), ((da 1), .inl (E 0, 9, .inl u.1)), ((da 2), .inl (E 0, 9, .inl u.2.1)), ((da 3), .inl (E 0, 3, .inl df3)), ((da 4), .inl (E 0, 3, .inl u.2.2.1))])) (va_A [(dh, .inr (0, G0 da dlisted dshared dsailing dleastWorst)), ((da 0), .inl (E 0, 9, .inl df0)), ((da 1), .inl (E 0, 9, .inl df1)), ((da 2), .inl (E 0, 9, .inl df2)), ((da 3), .inl (E 0, 3, .inl df3)), ((da 4), .inl (E 0, 3, .inl df4))] sz)) 0 0 (va_A [(dh, .inr (0, G0 da dlisted dshared dsailing dleastWorst)), ((da 0), .inl (E 0, 9, .inl df0)), ((da 1), .inl (E 0, 9, .inl df1)), ((da 2), .inl (E 0, 9, .inl df2)), ((da 3), .inl (E 0, 3, .inl df3)), ((da 4), .inl (E 0, 3, .inl df4))] sz) := by
  refine Met.ofW (cc := cX0_tryFrom) (maxL := 4) (ret := none) (by decide) rfl ?_
  intro p e s m args below meth c s₁ B hml hv
  obtain ⟨rfl, hsz, hP, hK, hD0⟩ := hv
  have hx := B.exec; have hb := B.bytes; have hr := B.returns
  have hts := atoms_spec (ws := wl yX0_tryFrom cX0_tryFrom 4 none) B.pre
  have htb : ∀ w ∈ tb, w.before _ s = true := fun w h => hts w (List.mem_cons_of_mem _ h)
  have hown : s.vm.findClass RX0 = some m.cls := findClass_of_methodNamed B.named
  have hlocks := B.notSynchronized
  subst hsz
  have hD := hD0.self (sz := s.heap.size)
  generalize hAe : va_A [(dh, .inr (0, G0 da dlisted dshared dsailing dleastWorst)), ((da 0), .inl (E 0, 9, .inl df0)), ((da 1), .inl (E 0, 9, .inl df1)), ((da 2), .inl (E 0, 9, .inl df2)), ((da 3), .inl (E 0, 3, .inl df3)), ((da 4), .inl (E 0, 3, .inl df4))] s.heap.size = A at hD ⊢
  have hA : ∀ q : Nat, s.heap.size ≤ q → A q := fun q h => by rw [← hAe]; exact Or.inr h
  have hS : va_S A s.heap s.heap [] := va_S.rf
  have hP : va_P D vwCl [(dh, .inr (0, G0 da dlisted dshared dsailing dleastWorst)), ((da 0), .inl (E 0, 9, .inl df0)), ((da 1), .inl (E 0, 9, .inl df1)), ((da 2), .inl (E 0, 9, .inl df2)), ((da 3), .inl (E 0, 3, .inl df3)), ((da 4), .inl (E 0, 3, .inl df4))] s.heap := hP
  have hl := lv_entry ([.ref dh, .int p0, .int p1]) (n := 4) (Nat.le_of_ble_eq_true rfl)
  rw [lg_entry_eq]
  generalize (lg_sl ([.ref dh, .int p0, .int p1]) ++ List.replicate (4 - (lg_sl ([.ref dh, .int p0, .int p1])).length) Slot.unset).toArray = ls at hl ⊢
  have hl : lv_has ls 4 [(0, .ref dh), (1, .int p0), (2, .int p1)] := hl
  have lo_p0 := i_lo p0; have hi_p0 := i_hi p0
  have lo_p1 := i_lo p1; have hi_p1 := i_hi p1
  refine lv_iload_n hx hb dX0_tryFrom_0 rfl (lv_at hl 1 rfl) ?_
  refine lv_aload_n hx hb dX0_tryFrom_1 rfl (lv_at hl 0 rfl) ?_
  refine va_get (D := D) (ci := 0) (v := .int dlisted) (C := RX0) (T := TX0) (N := 9) hx hb htb iX0 hown hK.1 hP 0 rfl rfl 5 (by decide) (htb _ k_196) (fun _ h9 => h9) rfl dX0_tryFrom_2 ?_
  refine lv_icmp_ge (tgt := 14) hx hb dX0_tryFrom_5 (by decide) (fun c_1 => ?_) (fun c_1 => ?_)
  ·
    have ic_1 : dlisted.toInt ≤ p0.toInt := by first | exact (g_le rfl rfl).mp c_1 | (have h := mt (g_lt rfl rfl).mpr c_1; omega)
    clear c_1
    refine lv_aload_n hx hb dX0_tryFrom_14 rfl (lv_at hl 0 rfl) ?_
    have hPc := hP.sub (ws' := [(dh, .inr (0, G0 da dlisted dshared dsailing dleastWorst)), ((da 0), .inl (E 0, 9, .inl df0)), ((da 1), .inl (E 0, 9, .inl df1)), ((da 2), .inl (E 0, 9, .inl df2)), ((da 3), .inl (E 0, 3, .inl df3))]) [0, 1, 2, 3, 4] rfl
    have hDc := hD.sub (ws' := [(dh, .inr (0, G0 da dlisted dshared dsailing dleastWorst)), ((da 0), .inl (E 0, 9, .inl df0)), ((da 1), .inl (E 0, 9, .inl df1)), ((da 2), .inl (E 0, 9, .inl df2)), ((da 3), .inl (E 0, 3, .inl df3))]) [0, 1, 2, 3, 4] (by decide) rfl
    refine aft_v (runMV (rest := []) (As := []) hx hb hml hown htb hK (g_X0_keepIfBetter l D E dh da dlisted dshared dsailing dleastWorst df0 df1 df2 df3 _ (by (try dsimp only); omega)) ok_X0_keepIfBetter k_909 k_911 ks_35 k_7 k_912 ⟨(Nat.le_of_ble_eq_true rfl), (Nat.le_of_ble_eq_true rfl)⟩ ⟨(Nat.le_of_ble_eq_true rfl), (Nat.le_of_ble_eq_true rfl)⟩ hl.1 (Nat.le_of_ble_eq_true rfl) rfl rfl dX0_tryFrom_15 hPc hDc rfl rfl 0 rfl) hP hD hS hA [0, 1, 2, 3, 4] [5] (wr := [((da 4), .inl (E 0, 3, .inl df4))]) rfl rfl (by decide) (by decide) (fun u_4 H locs hw_3 hP hD hS => ?_)
    clear hPc hDc
    obtain ⟨w_5, w_6⟩ := u_4
    try dsimp only at hw_3
    have hP : va_P D vwCl [((da 4), .inl (E 0, 3, .inl df4)), (dh, .inr (0, G0 da dlisted dshared dsailing w_6)), ((da 0), .inl (E 0, 9, .inl df0)), ((da 1), .inl (E 0, 9, .inl df1)), ((da 2), .inl (E 0, 9, .inl w_5)), ((da 3), .inl (E 0, 3, .inl df3))] H := hP
    have hD := toW hP hD rfl
    have hP9 := hP.sub (ws' := [(dh, .inr (0, G0 da dlisted dshared dsailing w_6)), ((da 0), .inl (E 0, 9, .inl df0)), ((da 1), .inl (E 0, 9, .inl df1)), ((da 2), .inl (E 0, 9, .inl w_5)), ((da 3), .inl (E 0, 3, .inl df3)), ((da 4), .inl (E 0, 3, .inl df4))]) [1, 2, 3, 4, 5, 0] rfl
    have hD9 := hD.sub (ws' := [(dh, .inr (0, G0 da dlisted dshared dsailing w_6)), ((da 0), .inl (E 0, 9, .inl df0)), ((da 1), .inl (E 0, 9, .inl df1)), ((da 2), .inl (E 0, 9, .inl w_5)), ((da 3), .inl (E 0, 3, .inl df3)), ((da 4), .inl (E 0, 3, .inl df4))]) [1, 2, 3, 4, 5, 0] (by decide) rfl
    exact W.vret hx hb hr (fun t ht hW => ⟨⟨(df1, w_5, df4, w_6), rfl, (by (try dsimp only); rw [tfX_end (by omega)]; unfold kpX; (try dsimp only); rw [← hw_3]), by rw [ht]; exact hP9, hD9⟩, hS.F ht⟩) hS.2.2 dX0_tryFrom_18
  ·
    have ic_1 : p0.toInt < dlisted.toInt := by first | exact (g_lt rfl rfl).mp c_1 | (have h := mt (g_le rfl rfl).mpr c_1; omega)
    clear c_1
    refine lv_iload_n hx hb dX0_tryFrom_8 rfl (lv_at hl 1 rfl) ?_
    refine lv_bipush (v := 9) hx hb dX0_tryFrom_9 (by decide) ?_
    refine lv_icmp_lt (tgt := 19) hx hb dX0_tryFrom_11 (by decide) (fun c_7 => ?_) (fun c_7 => absurd (by rw [g_lt rfl t_9]; omega) c_7)
    refine lv_iconst (v := 0) hx hb dX0_tryFrom_19 (by decide) ?_
    refine lv_istore_n (lv' := [(3, .int 0), (0, .ref dh), (1, .int p0), (2, .int p1)]) hx hb dX0_tryFrom_20 rfl hl (by decide) rfl (fun ls hl => ?_)
    have loop_8 : ∀ (N_10 : Nat) (L3_21 : Int32) (dleastWorst_21 : Int32) (df1_21 : Nat → Int32) (df2_21 : Nat → Int32) (df4_21 : Nat → Int32) (H : Heap) (locs : List Loc) (ls : Array Slot), 3 - L3_21.toInt < (N_10 : Int) → (0 ≤ L3_21.toInt ∧ L3_21.toInt ≤ dsailing.toInt) → (((df1_21, df4_21, dleastWorst_21, df2_21) : TS) = lpX (tfX df0 df3 dlisted dsailing 4) p0 p1 (df1, df4, dleastWorst, df2) (L3_21).toNatClampNeg) → va_P D vwCl [(dh, .inr (0, G0 da dlisted dshared dsailing dleastWorst_21)), ((da 0), .inl (E 0, 9, .inl df0)), ((da 1), .inl (E 0, 9, .inl df1_21)), ((da 2), .inl (E 0, 9, .inl df2_21)), ((da 3), .inl (E 0, 3, .inl df3)), ((da 4), .inl (E 0, 3, .inl df4_21))] H → va_D A [(dh, .inr (0, G0 da dlisted dshared dsailing dleastWorst_21)), ((da 0), .inl (E 0, 9, .inl df0)), ((da 1), .inl (E 0, 9, .inl df1_21)), ((da 2), .inl (E 0, 9, .inl df2_21)), ((da 3), .inl (E 0, 3, .inl df3)), ((da 4), .inl (E 0, 3, .inl df4_21))] → va_S A s.heap H locs → lv_has ls 4 [(3, .int L3_21), (0, .ref dh), (1, .int p0), (2, .int p1)] → W p l e (headSpec (wl yX0_tryFrom cX0_tryFrom 4 none) (RM 8 0 0)).room s m [Value.ref dh, .int p0, .int p1].toArray below meth c H locs 0 0 (MQ below (va_Qv (fun (u : (Nat → Int32) × (Nat → Int32) × (Nat → Int32) × (Int32)) => (((u.1, u.2.2.1, u.2.2.2, u.2.1) : TS) = tfX df0 df3 dlisted dsailing 5 p0 p1 (df1, df4, dleastWorst, df2))) (mu_B D A (fun (u : (Nat → Int32) × (Nat → Int32) × (Nat → Int32) × (Int32)) => [(dh, .inr (0, G0 da dlisted dshared dsailing u.2.2.2)), ((da 0), .inl (E 0, 9, .inl df0)), ((da 1), .inl (E 0, 9, .inl u.1)), ((da 2), .inl (E 0, 9, .inl u.2.1)), ((da 3), .inl (E 0, 3, .inl df3)), ((da 4), .inl (E 0, 3, .inl u.2.2.1))])) A) [Value.ref dh, .int p0, .int p1].toArray s 0 0 A) (F0 m 21 ls []) := by
      intro N_10
      induction N_10 with
      | zero => intro L3_21 dleastWorst_21 df1_21 df2_21 df4_21 H locs ls hm v0_21 v1_21 _ _ _ _; exfalso; omega
      | succ N_10 ih_9 =>
        intro L3_21 dleastWorst_21 df1_21 df2_21 df4_21 H locs ls hm v0_21 v1_21 hP hD hS hl
        have lo_L3_21 := i_lo L3_21; have hi_L3_21 := i_hi L3_21
        have lo_dleastWorst_21 := i_lo dleastWorst_21; have hi_dleastWorst_21 := i_hi dleastWorst_21
        refine lv_iload_n hx hb dX0_tryFrom_21 rfl (lv_at hl 0 rfl) ?_
        refine lv_aload_n hx hb dX0_tryFrom_22 rfl (lv_at hl 1 rfl) ?_
        refine va_get (D := D) (ci := 0) (v := .int dsailing) (C := RX0) (T := TX0) (N := 9) hx hb htb iX0 hown hK.1 hP 0 rfl rfl 7 (by decide) (htb _ k_200) (fun _ h9 => h9) rfl dX0_tryFrom_23 ?_
        refine lv_icmp_ge (tgt := 89) hx hb dX0_tryFrom_26 (by decide) (fun c_11 => ?_) (fun c_11 => ?_)
        ·
          have ic_11 : dsailing.toInt ≤ L3_21.toInt := by first | exact (g_le rfl rfl).mp c_11 | (have h := mt (g_lt rfl rfl).mpr c_11; omega)
          clear c_11
          refine lv_iload_n hx hb dX0_tryFrom_89 rfl (lv_at hl 3 rfl) ?_
          refine lv_if_le (tgt := 110) hx hb dX0_tryFrom_90 (by decide) (fun c_12 => ?_) (fun c_12 => ?_)
          ·
            have ic_12 : p1.toInt ≤ 0 := by first | exact (g_le rfl t_0).mp c_12 | (have h := mt (g_lt t_0 rfl).mpr c_12; omega)
            clear c_12
            have hP9 := hP.sub (ws' := [(dh, .inr (0, G0 da dlisted dshared dsailing dleastWorst_21)), ((da 0), .inl (E 0, 9, .inl df0)), ((da 1), .inl (E 0, 9, .inl df1_21)), ((da 2), .inl (E 0, 9, .inl df2_21)), ((da 3), .inl (E 0, 3, .inl df3)), ((da 4), .inl (E 0, 3, .inl df4_21))]) [0, 1, 2, 3, 4, 5] rfl
            have hD9 := hD.sub (ws' := [(dh, .inr (0, G0 da dlisted dshared dsailing dleastWorst_21)), ((da 0), .inl (E 0, 9, .inl df0)), ((da 1), .inl (E 0, 9, .inl df1_21)), ((da 2), .inl (E 0, 9, .inl df2_21)), ((da 3), .inl (E 0, 3, .inl df3)), ((da 4), .inl (E 0, 3, .inl df4_21))]) [0, 1, 2, 3, 4, 5] (by decide) rfl
            exact W.vret hx hb hr (fun t ht hW => ⟨⟨(df1_21, df2_21, df4_21, dleastWorst_21), rfl, (by (try dsimp only); rw [tfX_no (by omega) (by omega), show (dsailing : Int32).toNatClampNeg = (L3_21).toNatClampNeg from clampE (by omega) (by omega), ← v1_21]), by rw [ht]; exact hP9, hD9⟩, hS.F ht⟩) hS.2.2 dX0_tryFrom_110
          ·
            have ic_12 : 0 < p1.toInt := by first | exact (g_lt t_0 rfl).mp c_12 | (have h := mt (g_le rfl t_0).mpr c_12; omega)
            clear c_12
            refine lv_aload_n hx hb dX0_tryFrom_93 rfl (lv_at hl 1 rfl) ?_
            refine va_get (D := D) (ci := 0) (v := .ref (da 1)) (C := RX0) (T := TX0) (N := 9) hx hb htb iX0 hown hK.1 hP 0 rfl rfl 1 (by decide) (htb _ k_191) (fun _ h9 => h9) rfl dX0_tryFrom_94 ?_
            refine lv_iload_n hx hb dX0_tryFrom_97 rfl (lv_at hl 2 rfl) ?_
            refine lv_iconst (v := (-1)) hx hb dX0_tryFrom_98 (by decide) ?_
            refine va_iast hx hb hK.1 hP hD hS 2 0 rfl rfl (g_in rfl (by omega) (by omega)) dX0_tryFrom_99 (fun H locs hP hD hS => ?_)
            have hP : va_P D vwCl [(dh, .inr (0, G0 da dlisted dshared dsailing dleastWorst_21)), ((da 0), .inl (E 0, 9, .inl df0)), ((da 1), .inl (E 0, 9, .inl (upd df1_21 (p0 : Int32).toNatClampNeg (-1)))), ((da 2), .inl (E 0, 9, .inl df2_21)), ((da 3), .inl (E 0, 3, .inl df3)), ((da 4), .inl (E 0, 3, .inl df4_21))] H := hP
            have hD := toW hP hD rfl
            refine lv_aload_n hx hb dX0_tryFrom_100 rfl (lv_at hl 1 rfl) ?_
            refine lv_iload_n hx hb dX0_tryFrom_101 rfl (lv_at hl 2 rfl) ?_
            refine lv_iconst (v := 1) hx hb dX0_tryFrom_102 (by decide) ?_
            refine lv_iadd hx hb dX0_tryFrom_103 ?_
            refine lv_topi (fun z_13 ez_13 => ?_)
            have jz_13 : z_13.toInt = p0.toInt + 1 := by rw [ez_13]; exact g_add rfl t_1 (by omega) (by omega)
            refine lv_iload_n hx hb dX0_tryFrom_104 rfl (lv_at hl 3 rfl) ?_
            refine lv_iconst (v := 1) hx hb dX0_tryFrom_105 (by decide) ?_
            refine lv_isub hx hb dX0_tryFrom_106 ?_
            refine lv_topi (fun z_14 ez_14 => ?_)
            have jz_14 : z_14.toInt = p1.toInt - 1 := by rw [ez_14]; exact g_sub rfl t_1 (by omega) (by omega)
            have hPc := hP.sub (ws' := [(dh, .inr (0, G0 da dlisted dshared dsailing dleastWorst_21)), ((da 0), .inl (E 0, 9, .inl df0)), ((da 1), .inl (E 0, 9, .inl (upd df1_21 (p0 : Int32).toNatClampNeg (-1)))), ((da 2), .inl (E 0, 9, .inl df2_21)), ((da 3), .inl (E 0, 3, .inl df3)), ((da 4), .inl (E 0, 3, .inl df4_21))]) [0, 1, 2, 3, 4, 5] rfl
            have hDc := hD.sub (ws' := [(dh, .inr (0, G0 da dlisted dshared dsailing dleastWorst_21)), ((da 0), .inl (E 0, 9, .inl df0)), ((da 1), .inl (E 0, 9, .inl (upd df1_21 (p0 : Int32).toNatClampNeg (-1)))), ((da 2), .inl (E 0, 9, .inl df2_21)), ((da 3), .inl (E 0, 3, .inl df3)), ((da 4), .inl (E 0, 3, .inl df4_21))]) [0, 1, 2, 3, 4, 5] (by decide) rfl
            refine aft_v (runMV (rest := []) (As := [.int z_13, .int z_14]) hx hb hml hown htb hK (g_X0_tryFrom_4 l D E dh da dlisted dshared dsailing dleastWorst_21 df0 (upd df1_21 (p0 : Int32).toNatClampNeg (-1)) df2_21 df3 df4_21 z_13 z_14 _ (by (try dsimp only); omega) (by (try dsimp only); omega)) ok_X0_tryFrom k_905 k_907 ks_34 k_7 k_908 ⟨(Nat.le_of_ble_eq_true rfl), (Nat.le_of_ble_eq_true rfl)⟩ ⟨(Nat.le_of_ble_eq_true rfl), (Nat.le_of_ble_eq_true rfl)⟩ hl.1 (Nat.le_of_ble_eq_true rfl) rfl rfl dX0_tryFrom_107 hPc hDc rfl rfl 0 rfl) hP hD hS hA [0, 1, 2, 3, 4, 5] [] (wr := ([] : va_W)) rfl rfl (by decide) (by decide) (fun u_17 H locs hw_16 hP hD hS => ?_)
            clear hPc hDc
            obtain ⟨w_18, w_19, w_20, w_21⟩ := u_17
            try dsimp only at hw_16
            have hP : va_P D vwCl [(dh, .inr (0, G0 da dlisted dshared dsailing w_21)), ((da 0), .inl (E 0, 9, .inl df0)), ((da 1), .inl (E 0, 9, .inl w_18)), ((da 2), .inl (E 0, 9, .inl w_19)), ((da 3), .inl (E 0, 3, .inl df3)), ((da 4), .inl (E 0, 3, .inl w_20))] H := hP
            have hD := toW hP hD rfl
            have hP9 := hP.sub (ws' := [(dh, .inr (0, G0 da dlisted dshared dsailing w_21)), ((da 0), .inl (E 0, 9, .inl df0)), ((da 1), .inl (E 0, 9, .inl w_18)), ((da 2), .inl (E 0, 9, .inl w_19)), ((da 3), .inl (E 0, 3, .inl df3)), ((da 4), .inl (E 0, 3, .inl w_20))]) [0, 1, 2, 3, 4, 5] rfl
            have hD9 := hD.sub (ws' := [(dh, .inr (0, G0 da dlisted dshared dsailing w_21)), ((da 0), .inl (E 0, 9, .inl df0)), ((da 1), .inl (E 0, 9, .inl w_18)), ((da 2), .inl (E 0, 9, .inl w_19)), ((da 3), .inl (E 0, 3, .inl df3)), ((da 4), .inl (E 0, 3, .inl w_20))]) [0, 1, 2, 3, 4, 5] (by decide) rfl
            exact W.vret hx hb hr (fun t ht hW => ⟨⟨(w_18, w_19, w_20, w_21), rfl, (by (try dsimp only); exact tf_go (by omega) (by omega) (by rw [show (dsailing : Int32).toNatClampNeg = (L3_21).toNatClampNeg from clampE (by omega) (by omega)]; exact v1_21) ez_13 ez_14 hw_16), by rw [ht]; exact hP9, hD9⟩, hS.F ht⟩) hS.2.2 dX0_tryFrom_110
        ·
          have ic_11 : L3_21.toInt < dsailing.toInt := by first | exact (g_lt rfl rfl).mp c_11 | (have h := mt (g_le rfl rfl).mpr c_11; omega)
          clear c_11
          refine lv_iload_n hx hb dX0_tryFrom_29 rfl (lv_at hl 0 rfl) ?_
          refine lv_aload_n hx hb dX0_tryFrom_30 rfl (lv_at hl 1 rfl) ?_
          refine va_get (D := D) (ci := 0) (v := .ref (da 4)) (C := RX0) (T := TX0) (N := 9) hx hb htb iX0 hown hK.1 hP 0 rfl rfl 4 (by decide) (htb _ k_195) (fun _ h9 => h9) rfl dX0_tryFrom_31 ?_
          refine va_alen hx hb hK.1 hP 5 0 rfl rfl (v := 3) (show Int32.ofNat 3 = 3 by decide) dX0_tryFrom_34 ?_
          refine lv_icmp_ge (tgt := 89) hx hb dX0_tryFrom_35 (by decide) (fun c_22 => absurd c_22 (by rw [g_le t_3 rfl]; omega)) (fun c_22 => ?_)
          refine lv_aload_n hx hb dX0_tryFrom_38 rfl (lv_at hl 1 rfl) ?_
          refine va_get (D := D) (ci := 0) (v := .ref (da 4)) (C := RX0) (T := TX0) (N := 9) hx hb htb iX0 hown hK.1 hP 0 rfl rfl 4 (by decide) (htb _ k_195) (fun _ h9 => h9) rfl dX0_tryFrom_39 ?_
          refine lv_iload_n hx hb dX0_tryFrom_42 rfl (lv_at hl 0 rfl) ?_
          refine va_iald hx hb hK.1 hP 5 0 rfl rfl (g_in rfl (by omega) (by omega)) dX0_tryFrom_43 ?_
          refine lv_topi (fun z_23 ez_23 => ?_)
          have kz_23 := congrArg Int32.toInt ez_23
          refine lv_iconst (v := 3) hx hb dX0_tryFrom_44 (by decide) ?_
          refine lv_icmp_ge (tgt := 83) hx hb dX0_tryFrom_45 (by decide) (fun c_24 => ?_) (fun c_24 => ?_)
          ·
            have ic_24 : 3 ≤ z_23.toInt := by first | exact (g_le t_3 rfl).mp c_24 | (have h := mt (g_lt rfl t_3).mpr c_24; omega)
            clear c_24
            obtain ⟨z_25, ez_25⟩ : ∃ y : Int32, y = L3_21 + 1 := ⟨_, rfl⟩
            have jz_25 : z_25.toInt = L3_21.toInt + 1 := by rw [ez_25]; exact g_add rfl t_1 (by omega) (by omega)
            refine lv_iinc (v := z_25) (lv' := [(3, .int z_25), (0, .ref dh), (1, .int p0), (2, .int p1)]) hx hb dX0_tryFrom_83 hl (k := 0) rfl (by rw [ez_25]; rfl) (by decide) rfl (fun ls hl => ?_)
            refine lv_goto (tgt := 21) hx hb dX0_tryFrom_86 (by decide) ?_
            exact ih_9 z_25 dleastWorst_21 df1_21 df2_21 df4_21 _ _ _ (by (try dsimp only); omega) (by (try dsimp only); omega) (by rw [clampS (by omega) jz_25, lpX_s, ← v1_21]; rw [shX_no (by (try dsimp only); rw [← ez_23]; omega)]) hP hD hS (lv_sub hl [0, 1, 2, 3] rfl)
          ·
            have ic_24 : z_23.toInt < 3 := by first | exact (g_lt rfl t_3).mp c_24 | (have h := mt (g_le t_3 rfl).mpr c_24; omega)
            clear c_24
            refine lv_aload_n hx hb dX0_tryFrom_48 rfl (lv_at hl 1 rfl) ?_
            refine va_get (D := D) (ci := 0) (v := .ref (da 1)) (C := RX0) (T := TX0) (N := 9) hx hb htb iX0 hown hK.1 hP 0 rfl rfl 1 (by decide) (htb _ k_191) (fun _ h9 => h9) rfl dX0_tryFrom_49 ?_
            refine lv_iload_n hx hb dX0_tryFrom_52 rfl (lv_at hl 2 rfl) ?_
            refine lv_iload_n hx hb dX0_tryFrom_53 rfl (lv_at hl 0 rfl) ?_
            refine va_iast hx hb hK.1 hP hD hS 2 0 rfl rfl (g_in rfl (by omega) (by omega)) dX0_tryFrom_54 (fun H locs hP hD hS => ?_)
            have hP : va_P D vwCl [(dh, .inr (0, G0 da dlisted dshared dsailing dleastWorst_21)), ((da 0), .inl (E 0, 9, .inl df0)), ((da 1), .inl (E 0, 9, .inl (upd df1_21 (p0 : Int32).toNatClampNeg L3_21))), ((da 2), .inl (E 0, 9, .inl df2_21)), ((da 3), .inl (E 0, 3, .inl df3)), ((da 4), .inl (E 0, 3, .inl df4_21))] H := hP
            have hD := toW hP hD rfl
            refine lv_aload_n hx hb dX0_tryFrom_55 rfl (lv_at hl 1 rfl) ?_
            refine va_get (D := D) (ci := 0) (v := .ref (da 4)) (C := RX0) (T := TX0) (N := 9) hx hb htb iX0 hown hK.1 hP 0 rfl rfl 4 (by decide) (htb _ k_195) (fun _ h9 => h9) rfl dX0_tryFrom_56 ?_
            refine lv_iload_n hx hb dX0_tryFrom_59 rfl (lv_at hl 0 rfl) ?_
            refine lv_dup2_11 hx hb dX0_tryFrom_60 rfl rfl ?_
            refine va_iald hx hb hK.1 hP 5 0 rfl rfl (g_in rfl (by omega) (by omega)) dX0_tryFrom_61 ?_
            refine lv_topi (fun z_26 ez_26 => ?_)
            have kz_26 := congrArg Int32.toInt ez_26
            refine lv_iconst (v := 1) hx hb dX0_tryFrom_62 (by decide) ?_
            refine lv_iadd hx hb dX0_tryFrom_63 ?_
            refine lv_topi (fun z_27 ez_27 => ?_)
            refine va_iast hx hb hK.1 hP hD hS 5 0 rfl rfl (g_in rfl (by omega) (by omega)) dX0_tryFrom_64 (fun H locs hP hD hS => ?_)
            have hP : va_P D vwCl [(dh, .inr (0, G0 da dlisted dshared dsailing dleastWorst_21)), ((da 0), .inl (E 0, 9, .inl df0)), ((da 1), .inl (E 0, 9, .inl (upd df1_21 (p0 : Int32).toNatClampNeg L3_21))), ((da 2), .inl (E 0, 9, .inl df2_21)), ((da 3), .inl (E 0, 3, .inl df3)), ((da 4), .inl (E 0, 3, .inl (upd df4_21 (L3_21 : Int32).toNatClampNeg z_27)))] H := hP
            have hD := toW hP hD rfl
            refine lv_aload_n hx hb dX0_tryFrom_65 rfl (lv_at hl 1 rfl) ?_
            refine lv_iload_n hx hb dX0_tryFrom_66 rfl (lv_at hl 2 rfl) ?_
            refine lv_iconst (v := 1) hx hb dX0_tryFrom_67 (by decide) ?_
            refine lv_iadd hx hb dX0_tryFrom_68 ?_
            refine lv_topi (fun z_28 ez_28 => ?_)
            have jz_28 : z_28.toInt = p0.toInt + 1 := by rw [ez_28]; exact g_add rfl t_1 (by omega) (by omega)
            refine lv_iload_n hx hb dX0_tryFrom_69 rfl (lv_at hl 3 rfl) ?_
            have hPc := hP.sub (ws' := [(dh, .inr (0, G0 da dlisted dshared dsailing dleastWorst_21)), ((da 0), .inl (E 0, 9, .inl df0)), ((da 1), .inl (E 0, 9, .inl (upd df1_21 (p0 : Int32).toNatClampNeg L3_21))), ((da 2), .inl (E 0, 9, .inl df2_21)), ((da 3), .inl (E 0, 3, .inl df3)), ((da 4), .inl (E 0, 3, .inl (upd df4_21 (L3_21 : Int32).toNatClampNeg z_27)))]) [0, 1, 2, 3, 4, 5] rfl
            have hDc := hD.sub (ws' := [(dh, .inr (0, G0 da dlisted dshared dsailing dleastWorst_21)), ((da 0), .inl (E 0, 9, .inl df0)), ((da 1), .inl (E 0, 9, .inl (upd df1_21 (p0 : Int32).toNatClampNeg L3_21))), ((da 2), .inl (E 0, 9, .inl df2_21)), ((da 3), .inl (E 0, 3, .inl df3)), ((da 4), .inl (E 0, 3, .inl (upd df4_21 (L3_21 : Int32).toNatClampNeg z_27)))]) [0, 1, 2, 3, 4, 5] (by decide) rfl
            refine aft_v (runMV (rest := []) (As := [.int z_28, .int p1]) hx hb hml hown htb hK (g_X0_tryFrom_4 l D E dh da dlisted dshared dsailing dleastWorst_21 df0 (upd df1_21 (p0 : Int32).toNatClampNeg L3_21) df2_21 df3 (upd df4_21 (L3_21 : Int32).toNatClampNeg z_27) z_28 p1 _ (by (try dsimp only); omega) (by (try dsimp only); omega)) ok_X0_tryFrom k_905 k_907 ks_34 k_7 k_908 ⟨(Nat.le_of_ble_eq_true rfl), (Nat.le_of_ble_eq_true rfl)⟩ ⟨(Nat.le_of_ble_eq_true rfl), (Nat.le_of_ble_eq_true rfl)⟩ hl.1 (Nat.le_of_ble_eq_true rfl) rfl rfl dX0_tryFrom_70 hPc hDc rfl rfl 0 rfl) hP hD hS hA [0, 1, 2, 3, 4, 5] [] (wr := ([] : va_W)) rfl rfl (by decide) (by decide) (fun u_31 H locs hw_30 hP hD hS => ?_)
            clear hPc hDc
            obtain ⟨w_32, w_33, w_34, w_35⟩ := u_31
            try dsimp only at hw_30
            have hP : va_P D vwCl [(dh, .inr (0, G0 da dlisted dshared dsailing w_35)), ((da 0), .inl (E 0, 9, .inl df0)), ((da 1), .inl (E 0, 9, .inl w_32)), ((da 2), .inl (E 0, 9, .inl w_33)), ((da 3), .inl (E 0, 3, .inl df3)), ((da 4), .inl (E 0, 3, .inl w_34))] H := hP
            have hD := toW hP hD rfl
            refine lv_aload_n hx hb dX0_tryFrom_73 rfl (lv_at hl 1 rfl) ?_
            refine va_get (D := D) (ci := 0) (v := .ref (da 4)) (C := RX0) (T := TX0) (N := 9) hx hb htb iX0 hown hK.1 hP 0 rfl rfl 4 (by decide) (htb _ k_195) (fun _ h9 => h9) rfl dX0_tryFrom_74 ?_
            refine lv_iload_n hx hb dX0_tryFrom_77 rfl (lv_at hl 0 rfl) ?_
            refine lv_dup2_11 hx hb dX0_tryFrom_78 rfl rfl ?_
            refine va_iald hx hb hK.1 hP 5 0 rfl rfl (g_in rfl (by omega) (by omega)) dX0_tryFrom_79 ?_
            refine lv_topi (fun z_36 ez_36 => ?_)
            have kz_36 := congrArg Int32.toInt ez_36
            refine lv_iconst (v := 1) hx hb dX0_tryFrom_80 (by decide) ?_
            refine lv_isub hx hb dX0_tryFrom_81 ?_
            refine lv_topi (fun z_37 ez_37 => ?_)
            refine va_iast hx hb hK.1 hP hD hS 5 0 rfl rfl (g_in rfl (by omega) (by omega)) dX0_tryFrom_82 (fun H locs hP hD hS => ?_)
            have hP : va_P D vwCl [(dh, .inr (0, G0 da dlisted dshared dsailing w_35)), ((da 0), .inl (E 0, 9, .inl df0)), ((da 1), .inl (E 0, 9, .inl w_32)), ((da 2), .inl (E 0, 9, .inl w_33)), ((da 3), .inl (E 0, 3, .inl df3)), ((da 4), .inl (E 0, 3, .inl (upd w_34 (L3_21 : Int32).toNatClampNeg z_37)))] H := hP
            have hD := toW hP hD rfl
            obtain ⟨z_38, ez_38⟩ : ∃ y : Int32, y = L3_21 + 1 := ⟨_, rfl⟩
            have jz_38 : z_38.toInt = L3_21.toInt + 1 := by rw [ez_38]; exact g_add rfl t_1 (by omega) (by omega)
            refine lv_iinc (v := z_38) (lv' := [(3, .int z_38), (0, .ref dh), (1, .int p0), (2, .int p1)]) hx hb dX0_tryFrom_83 hl (k := 0) rfl (by rw [ez_38]; rfl) (by decide) rfl (fun ls hl => ?_)
            refine lv_goto (tgt := 21) hx hb dX0_tryFrom_86 (by decide) ?_
            exact ih_9 z_38 w_35 w_32 w_33 (upd w_34 (L3_21 : Int32).toNatClampNeg z_37) _ _ _ (by (try dsimp only); omega) (by (try dsimp only); omega) (by rw [clampS (by omega) jz_38, lpX_s, ← v1_21]; rw [ez_37, ez_36]; refine shX_go (j := z_28) (by rw [← ez_23]; omega) ?_ ez_28; rw [ofN_c (by omega), ← ez_26, ← ez_27]; exact hw_30) hP hD hS (lv_sub hl [0, 1, 2, 3] rfl)
    exact loop_8 4 0 dleastWorst df1 df2 df4 _ _ _ (by have h0 := t_0; (try dsimp only); omega) (by have h0 := t_0; (try dsimp only); omega) (by rw [clamp_0]; rfl) hP hD hS (lv_sub hl [0, 1, 2, 3] rfl)
set_option maxHeartbeats 4000000 in
set_option maxRecDepth 100000 in
theorem g_X0_tryFrom_6 (l : Launch) (D : va_G) (E : Nat → Nat) (dh : Nat) (da : Nat → Nat) (dlisted : Int32) (dshared : Int32) (dsailing : Int32) (dleastWorst : Int32) (df0 : Nat → Int32) (df1 : Nat → Int32) (df2 : Nat → Int32) (df3 : Nat → Int32) (df4 : Nat → Int32) (p0 : Int32) (p1 : Int32) (sz : Nat) (hi_d : (0 ≤ dlisted.toInt ∧ dlisted.toInt ≤ 9) ∧ (0 ≤ dshared.toInt ∧ dshared.toInt ≤ 9) ∧ (0 ≤ dsailing.toInt ∧ dsailing.toInt ≤ 3)) (g0 : 3 ≤ p0.toInt ∧ p0.toInt ≤ 9) : Met l yX0_tryFrom (wl yX0_tryFrom cX0_tryFrom 4 none) (RM 9 0 0) (mu_P D E [.ref dh, .int p0, .int p1] [(dh, .inr (0, G0 da dlisted dshared dsailing dleastWorst)), ((da 0), .inl (E 0, 9, .inl df0)), ((da 1), .inl (E 0, 9, .inl df1)), ((da 2), .inl (E 0, 9, .inl df2)), ((da 3), .inl (E 0, 3, .inl df3)), ((da 4), .inl (E 0, 3, .inl df4))] sz) (va_Qv (fun (u : (Nat → Int32) × (Nat → Int32) × (Nat → Int32) × (Int32)) => (((u.1, u.2.2.1, u.2.2.2, u.2.1) : TS) = tfX df0 df3 dlisted dsailing 6 p0 p1 (df1, df4, dleastWorst, df2))) (mu_B D (va_A [(dh, .inr (0, G0 da dlisted dshared dsailing dleastWorst)), ((da 0), .inl (E 0, 9, .inl df0)), ((da 1), .inl (E 0, 9, .inl df1)), ((da 2), .inl (E 0, 9, .inl df2)), ((da 3), .inl (E 0, 3, .inl df3)), ((da 4), .inl (E 0, 3, .inl df4))] sz) (fun (u : (Nat → Int32) × (Nat → Int32) × (Nat → Int32) × (Int32)) => [(dh, .inr (0, G0 da dlisted dshared dsailing u.2.2.2)), ((da 0), .inl (E 0, 9, .inl df0)), ((da 1), .inl (E 0, 9, .inl u.1)), ((da 2), .inl (E 0, 9, .inl u.2.1)), ((da 3), .inl (E 0, 3, .inl df3)), ((da 4), .inl (E 0, 3, .inl u.2.2.1))])) (va_A [(dh, .inr (0, G0 da dlisted dshared dsailing dleastWorst)), ((da 0), .inl (E 0, 9, .inl df0)), ((da 1), .inl (E 0, 9, .inl df1)), ((da 2), .inl (E 0, 9, .inl df2)), ((da 3), .inl (E 0, 3, .inl df3)), ((da 4), .inl (E 0, 3, .inl df4))] sz)) 0 0 (va_A [(dh, .inr (0, G0 da dlisted dshared dsailing dleastWorst)), ((da 0), .inl (E 0, 9, .inl df0)), ((da 1), .inl (E 0, 9, .inl df1)), ((da 2), .inl (E 0, 9, .inl df2)), ((da 3), .inl (E 0, 3, .inl df3)), ((da 4), .inl (E 0, 3, .inl df4))] sz) := by
  refine Met.ofW (cc := cX0_tryFrom) (maxL := 4) (ret := none) (by decide) rfl ?_
  intro p e s m args below meth c s₁ B hml hv
  obtain ⟨rfl, hsz, hP, hK, hD0⟩ := hv
  have hx := B.exec; have hb := B.bytes; have hr := B.returns
  have hts := atoms_spec (ws := wl yX0_tryFrom cX0_tryFrom 4 none) B.pre
  have htb : ∀ w ∈ tb, w.before _ s = true := fun w h => hts w (List.mem_cons_of_mem _ h)
  have hown : s.vm.findClass RX0 = some m.cls := findClass_of_methodNamed B.named
  have hlocks := B.notSynchronized
  subst hsz
  have hD := hD0.self (sz := s.heap.size)
  generalize hAe : va_A [(dh, .inr (0, G0 da dlisted dshared dsailing dleastWorst)), ((da 0), .inl (E 0, 9, .inl df0)), ((da 1), .inl (E 0, 9, .inl df1)), ((da 2), .inl (E 0, 9, .inl df2)), ((da 3), .inl (E 0, 3, .inl df3)), ((da 4), .inl (E 0, 3, .inl df4))] s.heap.size = A at hD ⊢
  have hA : ∀ q : Nat, s.heap.size ≤ q → A q := fun q h => by rw [← hAe]; exact Or.inr h
  have hS : va_S A s.heap s.heap [] := va_S.rf
  have hP : va_P D vwCl [(dh, .inr (0, G0 da dlisted dshared dsailing dleastWorst)), ((da 0), .inl (E 0, 9, .inl df0)), ((da 1), .inl (E 0, 9, .inl df1)), ((da 2), .inl (E 0, 9, .inl df2)), ((da 3), .inl (E 0, 3, .inl df3)), ((da 4), .inl (E 0, 3, .inl df4))] s.heap := hP
  have hl := lv_entry ([.ref dh, .int p0, .int p1]) (n := 4) (Nat.le_of_ble_eq_true rfl)
  rw [lg_entry_eq]
  generalize (lg_sl ([.ref dh, .int p0, .int p1]) ++ List.replicate (4 - (lg_sl ([.ref dh, .int p0, .int p1])).length) Slot.unset).toArray = ls at hl ⊢
  have hl : lv_has ls 4 [(0, .ref dh), (1, .int p0), (2, .int p1)] := hl
  have lo_p0 := i_lo p0; have hi_p0 := i_hi p0
  have lo_p1 := i_lo p1; have hi_p1 := i_hi p1
  refine lv_iload_n hx hb dX0_tryFrom_0 rfl (lv_at hl 1 rfl) ?_
  refine lv_aload_n hx hb dX0_tryFrom_1 rfl (lv_at hl 0 rfl) ?_
  refine va_get (D := D) (ci := 0) (v := .int dlisted) (C := RX0) (T := TX0) (N := 9) hx hb htb iX0 hown hK.1 hP 0 rfl rfl 5 (by decide) (htb _ k_196) (fun _ h9 => h9) rfl dX0_tryFrom_2 ?_
  refine lv_icmp_ge (tgt := 14) hx hb dX0_tryFrom_5 (by decide) (fun c_1 => ?_) (fun c_1 => ?_)
  ·
    have ic_1 : dlisted.toInt ≤ p0.toInt := by first | exact (g_le rfl rfl).mp c_1 | (have h := mt (g_lt rfl rfl).mpr c_1; omega)
    clear c_1
    refine lv_aload_n hx hb dX0_tryFrom_14 rfl (lv_at hl 0 rfl) ?_
    have hPc := hP.sub (ws' := [(dh, .inr (0, G0 da dlisted dshared dsailing dleastWorst)), ((da 0), .inl (E 0, 9, .inl df0)), ((da 1), .inl (E 0, 9, .inl df1)), ((da 2), .inl (E 0, 9, .inl df2)), ((da 3), .inl (E 0, 3, .inl df3))]) [0, 1, 2, 3, 4] rfl
    have hDc := hD.sub (ws' := [(dh, .inr (0, G0 da dlisted dshared dsailing dleastWorst)), ((da 0), .inl (E 0, 9, .inl df0)), ((da 1), .inl (E 0, 9, .inl df1)), ((da 2), .inl (E 0, 9, .inl df2)), ((da 3), .inl (E 0, 3, .inl df3))]) [0, 1, 2, 3, 4] (by decide) rfl
    refine aft_v (runMV (rest := []) (As := []) hx hb hml hown htb hK (g_X0_keepIfBetter l D E dh da dlisted dshared dsailing dleastWorst df0 df1 df2 df3 _ (by (try dsimp only); omega)) ok_X0_keepIfBetter k_909 k_911 ks_35 k_7 k_912 ⟨(Nat.le_of_ble_eq_true rfl), (Nat.le_of_ble_eq_true rfl)⟩ ⟨(Nat.le_of_ble_eq_true rfl), (Nat.le_of_ble_eq_true rfl)⟩ hl.1 (Nat.le_of_ble_eq_true rfl) rfl rfl dX0_tryFrom_15 hPc hDc rfl rfl 0 rfl) hP hD hS hA [0, 1, 2, 3, 4] [5] (wr := [((da 4), .inl (E 0, 3, .inl df4))]) rfl rfl (by decide) (by decide) (fun u_4 H locs hw_3 hP hD hS => ?_)
    clear hPc hDc
    obtain ⟨w_5, w_6⟩ := u_4
    try dsimp only at hw_3
    have hP : va_P D vwCl [((da 4), .inl (E 0, 3, .inl df4)), (dh, .inr (0, G0 da dlisted dshared dsailing w_6)), ((da 0), .inl (E 0, 9, .inl df0)), ((da 1), .inl (E 0, 9, .inl df1)), ((da 2), .inl (E 0, 9, .inl w_5)), ((da 3), .inl (E 0, 3, .inl df3))] H := hP
    have hD := toW hP hD rfl
    have hP9 := hP.sub (ws' := [(dh, .inr (0, G0 da dlisted dshared dsailing w_6)), ((da 0), .inl (E 0, 9, .inl df0)), ((da 1), .inl (E 0, 9, .inl df1)), ((da 2), .inl (E 0, 9, .inl w_5)), ((da 3), .inl (E 0, 3, .inl df3)), ((da 4), .inl (E 0, 3, .inl df4))]) [1, 2, 3, 4, 5, 0] rfl
    have hD9 := hD.sub (ws' := [(dh, .inr (0, G0 da dlisted dshared dsailing w_6)), ((da 0), .inl (E 0, 9, .inl df0)), ((da 1), .inl (E 0, 9, .inl df1)), ((da 2), .inl (E 0, 9, .inl w_5)), ((da 3), .inl (E 0, 3, .inl df3)), ((da 4), .inl (E 0, 3, .inl df4))]) [1, 2, 3, 4, 5, 0] (by decide) rfl
    exact W.vret hx hb hr (fun t ht hW => ⟨⟨(df1, w_5, df4, w_6), rfl, (by (try dsimp only); rw [tfX_end (by omega)]; unfold kpX; (try dsimp only); rw [← hw_3]), by rw [ht]; exact hP9, hD9⟩, hS.F ht⟩) hS.2.2 dX0_tryFrom_18
  ·
    have ic_1 : p0.toInt < dlisted.toInt := by first | exact (g_lt rfl rfl).mp c_1 | (have h := mt (g_le rfl rfl).mpr c_1; omega)
    clear c_1
    refine lv_iload_n hx hb dX0_tryFrom_8 rfl (lv_at hl 1 rfl) ?_
    refine lv_bipush (v := 9) hx hb dX0_tryFrom_9 (by decide) ?_
    refine lv_icmp_lt (tgt := 19) hx hb dX0_tryFrom_11 (by decide) (fun c_7 => ?_) (fun c_7 => absurd (by rw [g_lt rfl t_9]; omega) c_7)
    refine lv_iconst (v := 0) hx hb dX0_tryFrom_19 (by decide) ?_
    refine lv_istore_n (lv' := [(3, .int 0), (0, .ref dh), (1, .int p0), (2, .int p1)]) hx hb dX0_tryFrom_20 rfl hl (by decide) rfl (fun ls hl => ?_)
    have loop_8 : ∀ (N_10 : Nat) (L3_21 : Int32) (dleastWorst_21 : Int32) (df1_21 : Nat → Int32) (df2_21 : Nat → Int32) (df4_21 : Nat → Int32) (H : Heap) (locs : List Loc) (ls : Array Slot), 3 - L3_21.toInt < (N_10 : Int) → (0 ≤ L3_21.toInt ∧ L3_21.toInt ≤ dsailing.toInt) → (((df1_21, df4_21, dleastWorst_21, df2_21) : TS) = lpX (tfX df0 df3 dlisted dsailing 5) p0 p1 (df1, df4, dleastWorst, df2) (L3_21).toNatClampNeg) → va_P D vwCl [(dh, .inr (0, G0 da dlisted dshared dsailing dleastWorst_21)), ((da 0), .inl (E 0, 9, .inl df0)), ((da 1), .inl (E 0, 9, .inl df1_21)), ((da 2), .inl (E 0, 9, .inl df2_21)), ((da 3), .inl (E 0, 3, .inl df3)), ((da 4), .inl (E 0, 3, .inl df4_21))] H → va_D A [(dh, .inr (0, G0 da dlisted dshared dsailing dleastWorst_21)), ((da 0), .inl (E 0, 9, .inl df0)), ((da 1), .inl (E 0, 9, .inl df1_21)), ((da 2), .inl (E 0, 9, .inl df2_21)), ((da 3), .inl (E 0, 3, .inl df3)), ((da 4), .inl (E 0, 3, .inl df4_21))] → va_S A s.heap H locs → lv_has ls 4 [(3, .int L3_21), (0, .ref dh), (1, .int p0), (2, .int p1)] → W p l e (headSpec (wl yX0_tryFrom cX0_tryFrom 4 none) (RM 9 0 0)).room s m [Value.ref dh, .int p0, .int p1].toArray below meth c H locs 0 0 (MQ below (va_Qv (fun (u : (Nat → Int32) × (Nat → Int32) × (Nat → Int32) × (Int32)) => (((u.1, u.2.2.1, u.2.2.2, u.2.1) : TS) = tfX df0 df3 dlisted dsailing 6 p0 p1 (df1, df4, dleastWorst, df2))) (mu_B D A (fun (u : (Nat → Int32) × (Nat → Int32) × (Nat → Int32) × (Int32)) => [(dh, .inr (0, G0 da dlisted dshared dsailing u.2.2.2)), ((da 0), .inl (E 0, 9, .inl df0)), ((da 1), .inl (E 0, 9, .inl u.1)), ((da 2), .inl (E 0, 9, .inl u.2.1)), ((da 3), .inl (E 0, 3, .inl df3)), ((da 4), .inl (E 0, 3, .inl u.2.2.1))])) A) [Value.ref dh, .int p0, .int p1].toArray s 0 0 A) (F0 m 21 ls []) := by
      intro N_10
      induction N_10 with
      | zero => intro L3_21 dleastWorst_21 df1_21 df2_21 df4_21 H locs ls hm v0_21 v1_21 _ _ _ _; exfalso; omega
      | succ N_10 ih_9 =>
        intro L3_21 dleastWorst_21 df1_21 df2_21 df4_21 H locs ls hm v0_21 v1_21 hP hD hS hl
        have lo_L3_21 := i_lo L3_21; have hi_L3_21 := i_hi L3_21
        have lo_dleastWorst_21 := i_lo dleastWorst_21; have hi_dleastWorst_21 := i_hi dleastWorst_21
        refine lv_iload_n hx hb dX0_tryFrom_21 rfl (lv_at hl 0 rfl) ?_
        refine lv_aload_n hx hb dX0_tryFrom_22 rfl (lv_at hl 1 rfl) ?_
        refine va_get (D := D) (ci := 0) (v := .int dsailing) (C := RX0) (T := TX0) (N := 9) hx hb htb iX0 hown hK.1 hP 0 rfl rfl 7 (by decide) (htb _ k_200) (fun _ h9 => h9) rfl dX0_tryFrom_23 ?_
        refine lv_icmp_ge (tgt := 89) hx hb dX0_tryFrom_26 (by decide) (fun c_11 => ?_) (fun c_11 => ?_)
        ·
          have ic_11 : dsailing.toInt ≤ L3_21.toInt := by first | exact (g_le rfl rfl).mp c_11 | (have h := mt (g_lt rfl rfl).mpr c_11; omega)
          clear c_11
          refine lv_iload_n hx hb dX0_tryFrom_89 rfl (lv_at hl 3 rfl) ?_
          refine lv_if_le (tgt := 110) hx hb dX0_tryFrom_90 (by decide) (fun c_12 => ?_) (fun c_12 => ?_)
          ·
            have ic_12 : p1.toInt ≤ 0 := by first | exact (g_le rfl t_0).mp c_12 | (have h := mt (g_lt t_0 rfl).mpr c_12; omega)
            clear c_12
            have hP9 := hP.sub (ws' := [(dh, .inr (0, G0 da dlisted dshared dsailing dleastWorst_21)), ((da 0), .inl (E 0, 9, .inl df0)), ((da 1), .inl (E 0, 9, .inl df1_21)), ((da 2), .inl (E 0, 9, .inl df2_21)), ((da 3), .inl (E 0, 3, .inl df3)), ((da 4), .inl (E 0, 3, .inl df4_21))]) [0, 1, 2, 3, 4, 5] rfl
            have hD9 := hD.sub (ws' := [(dh, .inr (0, G0 da dlisted dshared dsailing dleastWorst_21)), ((da 0), .inl (E 0, 9, .inl df0)), ((da 1), .inl (E 0, 9, .inl df1_21)), ((da 2), .inl (E 0, 9, .inl df2_21)), ((da 3), .inl (E 0, 3, .inl df3)), ((da 4), .inl (E 0, 3, .inl df4_21))]) [0, 1, 2, 3, 4, 5] (by decide) rfl
            exact W.vret hx hb hr (fun t ht hW => ⟨⟨(df1_21, df2_21, df4_21, dleastWorst_21), rfl, (by (try dsimp only); rw [tfX_no (by omega) (by omega), show (dsailing : Int32).toNatClampNeg = (L3_21).toNatClampNeg from clampE (by omega) (by omega), ← v1_21]), by rw [ht]; exact hP9, hD9⟩, hS.F ht⟩) hS.2.2 dX0_tryFrom_110
          ·
            have ic_12 : 0 < p1.toInt := by first | exact (g_lt t_0 rfl).mp c_12 | (have h := mt (g_le rfl t_0).mpr c_12; omega)
            clear c_12
            refine lv_aload_n hx hb dX0_tryFrom_93 rfl (lv_at hl 1 rfl) ?_
            refine va_get (D := D) (ci := 0) (v := .ref (da 1)) (C := RX0) (T := TX0) (N := 9) hx hb htb iX0 hown hK.1 hP 0 rfl rfl 1 (by decide) (htb _ k_191) (fun _ h9 => h9) rfl dX0_tryFrom_94 ?_
            refine lv_iload_n hx hb dX0_tryFrom_97 rfl (lv_at hl 2 rfl) ?_
            refine lv_iconst (v := (-1)) hx hb dX0_tryFrom_98 (by decide) ?_
            refine va_iast hx hb hK.1 hP hD hS 2 0 rfl rfl (g_in rfl (by omega) (by omega)) dX0_tryFrom_99 (fun H locs hP hD hS => ?_)
            have hP : va_P D vwCl [(dh, .inr (0, G0 da dlisted dshared dsailing dleastWorst_21)), ((da 0), .inl (E 0, 9, .inl df0)), ((da 1), .inl (E 0, 9, .inl (upd df1_21 (p0 : Int32).toNatClampNeg (-1)))), ((da 2), .inl (E 0, 9, .inl df2_21)), ((da 3), .inl (E 0, 3, .inl df3)), ((da 4), .inl (E 0, 3, .inl df4_21))] H := hP
            have hD := toW hP hD rfl
            refine lv_aload_n hx hb dX0_tryFrom_100 rfl (lv_at hl 1 rfl) ?_
            refine lv_iload_n hx hb dX0_tryFrom_101 rfl (lv_at hl 2 rfl) ?_
            refine lv_iconst (v := 1) hx hb dX0_tryFrom_102 (by decide) ?_
            refine lv_iadd hx hb dX0_tryFrom_103 ?_
            refine lv_topi (fun z_13 ez_13 => ?_)
            have jz_13 : z_13.toInt = p0.toInt + 1 := by rw [ez_13]; exact g_add rfl t_1 (by omega) (by omega)
            refine lv_iload_n hx hb dX0_tryFrom_104 rfl (lv_at hl 3 rfl) ?_
            refine lv_iconst (v := 1) hx hb dX0_tryFrom_105 (by decide) ?_
            refine lv_isub hx hb dX0_tryFrom_106 ?_
            refine lv_topi (fun z_14 ez_14 => ?_)
            have jz_14 : z_14.toInt = p1.toInt - 1 := by rw [ez_14]; exact g_sub rfl t_1 (by omega) (by omega)
            have hPc := hP.sub (ws' := [(dh, .inr (0, G0 da dlisted dshared dsailing dleastWorst_21)), ((da 0), .inl (E 0, 9, .inl df0)), ((da 1), .inl (E 0, 9, .inl (upd df1_21 (p0 : Int32).toNatClampNeg (-1)))), ((da 2), .inl (E 0, 9, .inl df2_21)), ((da 3), .inl (E 0, 3, .inl df3)), ((da 4), .inl (E 0, 3, .inl df4_21))]) [0, 1, 2, 3, 4, 5] rfl
            have hDc := hD.sub (ws' := [(dh, .inr (0, G0 da dlisted dshared dsailing dleastWorst_21)), ((da 0), .inl (E 0, 9, .inl df0)), ((da 1), .inl (E 0, 9, .inl (upd df1_21 (p0 : Int32).toNatClampNeg (-1)))), ((da 2), .inl (E 0, 9, .inl df2_21)), ((da 3), .inl (E 0, 3, .inl df3)), ((da 4), .inl (E 0, 3, .inl df4_21))]) [0, 1, 2, 3, 4, 5] (by decide) rfl
            refine aft_v (runMV (rest := []) (As := [.int z_13, .int z_14]) hx hb hml hown htb hK (g_X0_tryFrom_5 l D E dh da dlisted dshared dsailing dleastWorst_21 df0 (upd df1_21 (p0 : Int32).toNatClampNeg (-1)) df2_21 df3 df4_21 z_13 z_14 _ (by (try dsimp only); omega) (by (try dsimp only); omega)) ok_X0_tryFrom k_905 k_907 ks_34 k_7 k_908 ⟨(Nat.le_of_ble_eq_true rfl), (Nat.le_of_ble_eq_true rfl)⟩ ⟨(Nat.le_of_ble_eq_true rfl), (Nat.le_of_ble_eq_true rfl)⟩ hl.1 (Nat.le_of_ble_eq_true rfl) rfl rfl dX0_tryFrom_107 hPc hDc rfl rfl 0 rfl) hP hD hS hA [0, 1, 2, 3, 4, 5] [] (wr := ([] : va_W)) rfl rfl (by decide) (by decide) (fun u_17 H locs hw_16 hP hD hS => ?_)
            clear hPc hDc
            obtain ⟨w_18, w_19, w_20, w_21⟩ := u_17
            try dsimp only at hw_16
            have hP : va_P D vwCl [(dh, .inr (0, G0 da dlisted dshared dsailing w_21)), ((da 0), .inl (E 0, 9, .inl df0)), ((da 1), .inl (E 0, 9, .inl w_18)), ((da 2), .inl (E 0, 9, .inl w_19)), ((da 3), .inl (E 0, 3, .inl df3)), ((da 4), .inl (E 0, 3, .inl w_20))] H := hP
            have hD := toW hP hD rfl
            have hP9 := hP.sub (ws' := [(dh, .inr (0, G0 da dlisted dshared dsailing w_21)), ((da 0), .inl (E 0, 9, .inl df0)), ((da 1), .inl (E 0, 9, .inl w_18)), ((da 2), .inl (E 0, 9, .inl w_19)), ((da 3), .inl (E 0, 3, .inl df3)), ((da 4), .inl (E 0, 3, .inl w_20))]) [0, 1, 2, 3, 4, 5] rfl
            have hD9 := hD.sub (ws' := [(dh, .inr (0, G0 da dlisted dshared dsailing w_21)), ((da 0), .inl (E 0, 9, .inl df0)), ((da 1), .inl (E 0, 9, .inl w_18)), ((da 2), .inl (E 0, 9, .inl w_19)), ((da 3), .inl (E 0, 3, .inl df3)), ((da 4), .inl (E 0, 3, .inl w_20))]) [0, 1, 2, 3, 4, 5] (by decide) rfl
            exact W.vret hx hb hr (fun t ht hW => ⟨⟨(w_18, w_19, w_20, w_21), rfl, (by (try dsimp only); exact tf_go (by omega) (by omega) (by rw [show (dsailing : Int32).toNatClampNeg = (L3_21).toNatClampNeg from clampE (by omega) (by omega)]; exact v1_21) ez_13 ez_14 hw_16), by rw [ht]; exact hP9, hD9⟩, hS.F ht⟩) hS.2.2 dX0_tryFrom_110
        ·
          have ic_11 : L3_21.toInt < dsailing.toInt := by first | exact (g_lt rfl rfl).mp c_11 | (have h := mt (g_le rfl rfl).mpr c_11; omega)
          clear c_11
          refine lv_iload_n hx hb dX0_tryFrom_29 rfl (lv_at hl 0 rfl) ?_
          refine lv_aload_n hx hb dX0_tryFrom_30 rfl (lv_at hl 1 rfl) ?_
          refine va_get (D := D) (ci := 0) (v := .ref (da 4)) (C := RX0) (T := TX0) (N := 9) hx hb htb iX0 hown hK.1 hP 0 rfl rfl 4 (by decide) (htb _ k_195) (fun _ h9 => h9) rfl dX0_tryFrom_31 ?_
          refine va_alen hx hb hK.1 hP 5 0 rfl rfl (v := 3) (show Int32.ofNat 3 = 3 by decide) dX0_tryFrom_34 ?_
          refine lv_icmp_ge (tgt := 89) hx hb dX0_tryFrom_35 (by decide) (fun c_22 => absurd c_22 (by rw [g_le t_3 rfl]; omega)) (fun c_22 => ?_)
          refine lv_aload_n hx hb dX0_tryFrom_38 rfl (lv_at hl 1 rfl) ?_
          refine va_get (D := D) (ci := 0) (v := .ref (da 4)) (C := RX0) (T := TX0) (N := 9) hx hb htb iX0 hown hK.1 hP 0 rfl rfl 4 (by decide) (htb _ k_195) (fun _ h9 => h9) rfl dX0_tryFrom_39 ?_
          refine lv_iload_n hx hb dX0_tryFrom_42 rfl (lv_at hl 0 rfl) ?_
          refine va_iald hx hb hK.1 hP 5 0 rfl rfl (g_in rfl (by omega) (by omega)) dX0_tryFrom_43 ?_
          refine lv_topi (fun z_23 ez_23 => ?_)
          have kz_23 := congrArg Int32.toInt ez_23
          refine lv_iconst (v := 3) hx hb dX0_tryFrom_44 (by decide) ?_
          refine lv_icmp_ge (tgt := 83) hx hb dX0_tryFrom_45 (by decide) (fun c_24 => ?_) (fun c_24 => ?_)
          ·
            have ic_24 : 3 ≤ z_23.toInt := by first | exact (g_le t_3 rfl).mp c_24 | (have h := mt (g_lt rfl t_3).mpr c_24; omega)
            clear c_24
            obtain ⟨z_25, ez_25⟩ : ∃ y : Int32, y = L3_21 + 1 := ⟨_, rfl⟩
            have jz_25 : z_25.toInt = L3_21.toInt + 1 := by rw [ez_25]; exact g_add rfl t_1 (by omega) (by omega)
            refine lv_iinc (v := z_25) (lv' := [(3, .int z_25), (0, .ref dh), (1, .int p0), (2, .int p1)]) hx hb dX0_tryFrom_83 hl (k := 0) rfl (by rw [ez_25]; rfl) (by decide) rfl (fun ls hl => ?_)
            refine lv_goto (tgt := 21) hx hb dX0_tryFrom_86 (by decide) ?_
            exact ih_9 z_25 dleastWorst_21 df1_21 df2_21 df4_21 _ _ _ (by (try dsimp only); omega) (by (try dsimp only); omega) (by rw [clampS (by omega) jz_25, lpX_s, ← v1_21]; rw [shX_no (by (try dsimp only); rw [← ez_23]; omega)]) hP hD hS (lv_sub hl [0, 1, 2, 3] rfl)
          ·
            have ic_24 : z_23.toInt < 3 := by first | exact (g_lt rfl t_3).mp c_24 | (have h := mt (g_le t_3 rfl).mpr c_24; omega)
            clear c_24
            refine lv_aload_n hx hb dX0_tryFrom_48 rfl (lv_at hl 1 rfl) ?_
            refine va_get (D := D) (ci := 0) (v := .ref (da 1)) (C := RX0) (T := TX0) (N := 9) hx hb htb iX0 hown hK.1 hP 0 rfl rfl 1 (by decide) (htb _ k_191) (fun _ h9 => h9) rfl dX0_tryFrom_49 ?_
            refine lv_iload_n hx hb dX0_tryFrom_52 rfl (lv_at hl 2 rfl) ?_
            refine lv_iload_n hx hb dX0_tryFrom_53 rfl (lv_at hl 0 rfl) ?_
            refine va_iast hx hb hK.1 hP hD hS 2 0 rfl rfl (g_in rfl (by omega) (by omega)) dX0_tryFrom_54 (fun H locs hP hD hS => ?_)
            have hP : va_P D vwCl [(dh, .inr (0, G0 da dlisted dshared dsailing dleastWorst_21)), ((da 0), .inl (E 0, 9, .inl df0)), ((da 1), .inl (E 0, 9, .inl (upd df1_21 (p0 : Int32).toNatClampNeg L3_21))), ((da 2), .inl (E 0, 9, .inl df2_21)), ((da 3), .inl (E 0, 3, .inl df3)), ((da 4), .inl (E 0, 3, .inl df4_21))] H := hP
            have hD := toW hP hD rfl
            refine lv_aload_n hx hb dX0_tryFrom_55 rfl (lv_at hl 1 rfl) ?_
            refine va_get (D := D) (ci := 0) (v := .ref (da 4)) (C := RX0) (T := TX0) (N := 9) hx hb htb iX0 hown hK.1 hP 0 rfl rfl 4 (by decide) (htb _ k_195) (fun _ h9 => h9) rfl dX0_tryFrom_56 ?_
            refine lv_iload_n hx hb dX0_tryFrom_59 rfl (lv_at hl 0 rfl) ?_
            refine lv_dup2_11 hx hb dX0_tryFrom_60 rfl rfl ?_
            refine va_iald hx hb hK.1 hP 5 0 rfl rfl (g_in rfl (by omega) (by omega)) dX0_tryFrom_61 ?_
            refine lv_topi (fun z_26 ez_26 => ?_)
            have kz_26 := congrArg Int32.toInt ez_26
            refine lv_iconst (v := 1) hx hb dX0_tryFrom_62 (by decide) ?_
            refine lv_iadd hx hb dX0_tryFrom_63 ?_
            refine lv_topi (fun z_27 ez_27 => ?_)
            refine va_iast hx hb hK.1 hP hD hS 5 0 rfl rfl (g_in rfl (by omega) (by omega)) dX0_tryFrom_64 (fun H locs hP hD hS => ?_)
            have hP : va_P D vwCl [(dh, .inr (0, G0 da dlisted dshared dsailing dleastWorst_21)), ((da 0), .inl (E 0, 9, .inl df0)), ((da 1), .inl (E 0, 9, .inl (upd df1_21 (p0 : Int32).toNatClampNeg L3_21))), ((da 2), .inl (E 0, 9, .inl df2_21)), ((da 3), .inl (E 0, 3, .inl df3)), ((da 4), .inl (E 0, 3, .inl (upd df4_21 (L3_21 : Int32).toNatClampNeg z_27)))] H := hP
            have hD := toW hP hD rfl
            refine lv_aload_n hx hb dX0_tryFrom_65 rfl (lv_at hl 1 rfl) ?_
            refine lv_iload_n hx hb dX0_tryFrom_66 rfl (lv_at hl 2 rfl) ?_
            refine lv_iconst (v := 1) hx hb dX0_tryFrom_67 (by decide) ?_
            refine lv_iadd hx hb dX0_tryFrom_68 ?_
            refine lv_topi (fun z_28 ez_28 => ?_)
            have jz_28 : z_28.toInt = p0.toInt + 1 := by rw [ez_28]; exact g_add rfl t_1 (by omega) (by omega)
            refine lv_iload_n hx hb dX0_tryFrom_69 rfl (lv_at hl 3 rfl) ?_
            have hPc := hP.sub (ws' := [(dh, .inr (0, G0 da dlisted dshared dsailing dleastWorst_21)), ((da 0), .inl (E 0, 9, .inl df0)), ((da 1), .inl (E 0, 9, .inl (upd df1_21 (p0 : Int32).toNatClampNeg L3_21))), ((da 2), .inl (E 0, 9, .inl df2_21)), ((da 3), .inl (E 0, 3, .inl df3)), ((da 4), .inl (E 0, 3, .inl (upd df4_21 (L3_21 : Int32).toNatClampNeg z_27)))]) [0, 1, 2, 3, 4, 5] rfl
            have hDc := hD.sub (ws' := [(dh, .inr (0, G0 da dlisted dshared dsailing dleastWorst_21)), ((da 0), .inl (E 0, 9, .inl df0)), ((da 1), .inl (E 0, 9, .inl (upd df1_21 (p0 : Int32).toNatClampNeg L3_21))), ((da 2), .inl (E 0, 9, .inl df2_21)), ((da 3), .inl (E 0, 3, .inl df3)), ((da 4), .inl (E 0, 3, .inl (upd df4_21 (L3_21 : Int32).toNatClampNeg z_27)))]) [0, 1, 2, 3, 4, 5] (by decide) rfl
            refine aft_v (runMV (rest := []) (As := [.int z_28, .int p1]) hx hb hml hown htb hK (g_X0_tryFrom_5 l D E dh da dlisted dshared dsailing dleastWorst_21 df0 (upd df1_21 (p0 : Int32).toNatClampNeg L3_21) df2_21 df3 (upd df4_21 (L3_21 : Int32).toNatClampNeg z_27) z_28 p1 _ (by (try dsimp only); omega) (by (try dsimp only); omega)) ok_X0_tryFrom k_905 k_907 ks_34 k_7 k_908 ⟨(Nat.le_of_ble_eq_true rfl), (Nat.le_of_ble_eq_true rfl)⟩ ⟨(Nat.le_of_ble_eq_true rfl), (Nat.le_of_ble_eq_true rfl)⟩ hl.1 (Nat.le_of_ble_eq_true rfl) rfl rfl dX0_tryFrom_70 hPc hDc rfl rfl 0 rfl) hP hD hS hA [0, 1, 2, 3, 4, 5] [] (wr := ([] : va_W)) rfl rfl (by decide) (by decide) (fun u_31 H locs hw_30 hP hD hS => ?_)
            clear hPc hDc
            obtain ⟨w_32, w_33, w_34, w_35⟩ := u_31
            try dsimp only at hw_30
            have hP : va_P D vwCl [(dh, .inr (0, G0 da dlisted dshared dsailing w_35)), ((da 0), .inl (E 0, 9, .inl df0)), ((da 1), .inl (E 0, 9, .inl w_32)), ((da 2), .inl (E 0, 9, .inl w_33)), ((da 3), .inl (E 0, 3, .inl df3)), ((da 4), .inl (E 0, 3, .inl w_34))] H := hP
            have hD := toW hP hD rfl
            refine lv_aload_n hx hb dX0_tryFrom_73 rfl (lv_at hl 1 rfl) ?_
            refine va_get (D := D) (ci := 0) (v := .ref (da 4)) (C := RX0) (T := TX0) (N := 9) hx hb htb iX0 hown hK.1 hP 0 rfl rfl 4 (by decide) (htb _ k_195) (fun _ h9 => h9) rfl dX0_tryFrom_74 ?_
            refine lv_iload_n hx hb dX0_tryFrom_77 rfl (lv_at hl 0 rfl) ?_
            refine lv_dup2_11 hx hb dX0_tryFrom_78 rfl rfl ?_
            refine va_iald hx hb hK.1 hP 5 0 rfl rfl (g_in rfl (by omega) (by omega)) dX0_tryFrom_79 ?_
            refine lv_topi (fun z_36 ez_36 => ?_)
            have kz_36 := congrArg Int32.toInt ez_36
            refine lv_iconst (v := 1) hx hb dX0_tryFrom_80 (by decide) ?_
            refine lv_isub hx hb dX0_tryFrom_81 ?_
            refine lv_topi (fun z_37 ez_37 => ?_)
            refine va_iast hx hb hK.1 hP hD hS 5 0 rfl rfl (g_in rfl (by omega) (by omega)) dX0_tryFrom_82 (fun H locs hP hD hS => ?_)
            have hP : va_P D vwCl [(dh, .inr (0, G0 da dlisted dshared dsailing w_35)), ((da 0), .inl (E 0, 9, .inl df0)), ((da 1), .inl (E 0, 9, .inl w_32)), ((da 2), .inl (E 0, 9, .inl w_33)), ((da 3), .inl (E 0, 3, .inl df3)), ((da 4), .inl (E 0, 3, .inl (upd w_34 (L3_21 : Int32).toNatClampNeg z_37)))] H := hP
            have hD := toW hP hD rfl
            obtain ⟨z_38, ez_38⟩ : ∃ y : Int32, y = L3_21 + 1 := ⟨_, rfl⟩
            have jz_38 : z_38.toInt = L3_21.toInt + 1 := by rw [ez_38]; exact g_add rfl t_1 (by omega) (by omega)
            refine lv_iinc (v := z_38) (lv' := [(3, .int z_38), (0, .ref dh), (1, .int p0), (2, .int p1)]) hx hb dX0_tryFrom_83 hl (k := 0) rfl (by rw [ez_38]; rfl) (by decide) rfl (fun ls hl => ?_)
            refine lv_goto (tgt := 21) hx hb dX0_tryFrom_86 (by decide) ?_
            exact ih_9 z_38 w_35 w_32 w_33 (upd w_34 (L3_21 : Int32).toNatClampNeg z_37) _ _ _ (by (try dsimp only); omega) (by (try dsimp only); omega) (by rw [clampS (by omega) jz_38, lpX_s, ← v1_21]; rw [ez_37, ez_36]; refine shX_go (j := z_28) (by rw [← ez_23]; omega) ?_ ez_28; rw [ofN_c (by omega), ← ez_26, ← ez_27]; exact hw_30) hP hD hS (lv_sub hl [0, 1, 2, 3] rfl)
    exact loop_8 4 0 dleastWorst df1 df2 df4 _ _ _ (by have h0 := t_0; (try dsimp only); omega) (by have h0 := t_0; (try dsimp only); omega) (by rw [clamp_0]; rfl) hP hD hS (lv_sub hl [0, 1, 2, 3] rfl)
set_option maxHeartbeats 4000000 in
set_option maxRecDepth 100000 in
theorem g_X0_tryFrom_7 (l : Launch) (D : va_G) (E : Nat → Nat) (dh : Nat) (da : Nat → Nat) (dlisted : Int32) (dshared : Int32) (dsailing : Int32) (dleastWorst : Int32) (df0 : Nat → Int32) (df1 : Nat → Int32) (df2 : Nat → Int32) (df3 : Nat → Int32) (df4 : Nat → Int32) (p0 : Int32) (p1 : Int32) (sz : Nat) (hi_d : (0 ≤ dlisted.toInt ∧ dlisted.toInt ≤ 9) ∧ (0 ≤ dshared.toInt ∧ dshared.toInt ≤ 9) ∧ (0 ≤ dsailing.toInt ∧ dsailing.toInt ≤ 3)) (g0 : 2 ≤ p0.toInt ∧ p0.toInt ≤ 9) : Met l yX0_tryFrom (wl yX0_tryFrom cX0_tryFrom 4 none) (RM 10 0 0) (mu_P D E [.ref dh, .int p0, .int p1] [(dh, .inr (0, G0 da dlisted dshared dsailing dleastWorst)), ((da 0), .inl (E 0, 9, .inl df0)), ((da 1), .inl (E 0, 9, .inl df1)), ((da 2), .inl (E 0, 9, .inl df2)), ((da 3), .inl (E 0, 3, .inl df3)), ((da 4), .inl (E 0, 3, .inl df4))] sz) (va_Qv (fun (u : (Nat → Int32) × (Nat → Int32) × (Nat → Int32) × (Int32)) => (((u.1, u.2.2.1, u.2.2.2, u.2.1) : TS) = tfX df0 df3 dlisted dsailing 7 p0 p1 (df1, df4, dleastWorst, df2))) (mu_B D (va_A [(dh, .inr (0, G0 da dlisted dshared dsailing dleastWorst)), ((da 0), .inl (E 0, 9, .inl df0)), ((da 1), .inl (E 0, 9, .inl df1)), ((da 2), .inl (E 0, 9, .inl df2)), ((da 3), .inl (E 0, 3, .inl df3)), ((da 4), .inl (E 0, 3, .inl df4))] sz) (fun (u : (Nat → Int32) × (Nat → Int32) × (Nat → Int32) × (Int32)) => [(dh, .inr (0, G0 da dlisted dshared dsailing u.2.2.2)), ((da 0), .inl (E 0, 9, .inl df0)), ((da 1), .inl (E 0, 9, .inl u.1)), ((da 2), .inl (E 0, 9, .inl u.2.1)), ((da 3), .inl (E 0, 3, .inl df3)), ((da 4), .inl (E 0, 3, .inl u.2.2.1))])) (va_A [(dh, .inr (0, G0 da dlisted dshared dsailing dleastWorst)), ((da 0), .inl (E 0, 9, .inl df0)), ((da 1), .inl (E 0, 9, .inl df1)), ((da 2), .inl (E 0, 9, .inl df2)), ((da 3), .inl (E 0, 3, .inl df3)), ((da 4), .inl (E 0, 3, .inl df4))] sz)) 0 0 (va_A [(dh, .inr (0, G0 da dlisted dshared dsailing dleastWorst)), ((da 0), .inl (E 0, 9, .inl df0)), ((da 1), .inl (E 0, 9, .inl df1)), ((da 2), .inl (E 0, 9, .inl df2)), ((da 3), .inl (E 0, 3, .inl df3)), ((da 4), .inl (E 0, 3, .inl df4))] sz) := by
  refine Met.ofW (cc := cX0_tryFrom) (maxL := 4) (ret := none) (by decide) rfl ?_
  intro p e s m args below meth c s₁ B hml hv
  obtain ⟨rfl, hsz, hP, hK, hD0⟩ := hv
  have hx := B.exec; have hb := B.bytes; have hr := B.returns
  have hts := atoms_spec (ws := wl yX0_tryFrom cX0_tryFrom 4 none) B.pre
  have htb : ∀ w ∈ tb, w.before _ s = true := fun w h => hts w (List.mem_cons_of_mem _ h)
  have hown : s.vm.findClass RX0 = some m.cls := findClass_of_methodNamed B.named
  have hlocks := B.notSynchronized
  subst hsz
  have hD := hD0.self (sz := s.heap.size)
  generalize hAe : va_A [(dh, .inr (0, G0 da dlisted dshared dsailing dleastWorst)), ((da 0), .inl (E 0, 9, .inl df0)), ((da 1), .inl (E 0, 9, .inl df1)), ((da 2), .inl (E 0, 9, .inl df2)), ((da 3), .inl (E 0, 3, .inl df3)), ((da 4), .inl (E 0, 3, .inl df4))] s.heap.size = A at hD ⊢
  have hA : ∀ q : Nat, s.heap.size ≤ q → A q := fun q h => by rw [← hAe]; exact Or.inr h
  have hS : va_S A s.heap s.heap [] := va_S.rf
  have hP : va_P D vwCl [(dh, .inr (0, G0 da dlisted dshared dsailing dleastWorst)), ((da 0), .inl (E 0, 9, .inl df0)), ((da 1), .inl (E 0, 9, .inl df1)), ((da 2), .inl (E 0, 9, .inl df2)), ((da 3), .inl (E 0, 3, .inl df3)), ((da 4), .inl (E 0, 3, .inl df4))] s.heap := hP
  have hl := lv_entry ([.ref dh, .int p0, .int p1]) (n := 4) (Nat.le_of_ble_eq_true rfl)
  rw [lg_entry_eq]
  generalize (lg_sl ([.ref dh, .int p0, .int p1]) ++ List.replicate (4 - (lg_sl ([.ref dh, .int p0, .int p1])).length) Slot.unset).toArray = ls at hl ⊢
  have hl : lv_has ls 4 [(0, .ref dh), (1, .int p0), (2, .int p1)] := hl
  have lo_p0 := i_lo p0; have hi_p0 := i_hi p0
  have lo_p1 := i_lo p1; have hi_p1 := i_hi p1
  refine lv_iload_n hx hb dX0_tryFrom_0 rfl (lv_at hl 1 rfl) ?_
  refine lv_aload_n hx hb dX0_tryFrom_1 rfl (lv_at hl 0 rfl) ?_
  refine va_get (D := D) (ci := 0) (v := .int dlisted) (C := RX0) (T := TX0) (N := 9) hx hb htb iX0 hown hK.1 hP 0 rfl rfl 5 (by decide) (htb _ k_196) (fun _ h9 => h9) rfl dX0_tryFrom_2 ?_
  refine lv_icmp_ge (tgt := 14) hx hb dX0_tryFrom_5 (by decide) (fun c_1 => ?_) (fun c_1 => ?_)
  ·
    have ic_1 : dlisted.toInt ≤ p0.toInt := by first | exact (g_le rfl rfl).mp c_1 | (have h := mt (g_lt rfl rfl).mpr c_1; omega)
    clear c_1
    refine lv_aload_n hx hb dX0_tryFrom_14 rfl (lv_at hl 0 rfl) ?_
    have hPc := hP.sub (ws' := [(dh, .inr (0, G0 da dlisted dshared dsailing dleastWorst)), ((da 0), .inl (E 0, 9, .inl df0)), ((da 1), .inl (E 0, 9, .inl df1)), ((da 2), .inl (E 0, 9, .inl df2)), ((da 3), .inl (E 0, 3, .inl df3))]) [0, 1, 2, 3, 4] rfl
    have hDc := hD.sub (ws' := [(dh, .inr (0, G0 da dlisted dshared dsailing dleastWorst)), ((da 0), .inl (E 0, 9, .inl df0)), ((da 1), .inl (E 0, 9, .inl df1)), ((da 2), .inl (E 0, 9, .inl df2)), ((da 3), .inl (E 0, 3, .inl df3))]) [0, 1, 2, 3, 4] (by decide) rfl
    refine aft_v (runMV (rest := []) (As := []) hx hb hml hown htb hK (g_X0_keepIfBetter l D E dh da dlisted dshared dsailing dleastWorst df0 df1 df2 df3 _ (by (try dsimp only); omega)) ok_X0_keepIfBetter k_909 k_911 ks_35 k_7 k_912 ⟨(Nat.le_of_ble_eq_true rfl), (Nat.le_of_ble_eq_true rfl)⟩ ⟨(Nat.le_of_ble_eq_true rfl), (Nat.le_of_ble_eq_true rfl)⟩ hl.1 (Nat.le_of_ble_eq_true rfl) rfl rfl dX0_tryFrom_15 hPc hDc rfl rfl 0 rfl) hP hD hS hA [0, 1, 2, 3, 4] [5] (wr := [((da 4), .inl (E 0, 3, .inl df4))]) rfl rfl (by decide) (by decide) (fun u_4 H locs hw_3 hP hD hS => ?_)
    clear hPc hDc
    obtain ⟨w_5, w_6⟩ := u_4
    try dsimp only at hw_3
    have hP : va_P D vwCl [((da 4), .inl (E 0, 3, .inl df4)), (dh, .inr (0, G0 da dlisted dshared dsailing w_6)), ((da 0), .inl (E 0, 9, .inl df0)), ((da 1), .inl (E 0, 9, .inl df1)), ((da 2), .inl (E 0, 9, .inl w_5)), ((da 3), .inl (E 0, 3, .inl df3))] H := hP
    have hD := toW hP hD rfl
    have hP9 := hP.sub (ws' := [(dh, .inr (0, G0 da dlisted dshared dsailing w_6)), ((da 0), .inl (E 0, 9, .inl df0)), ((da 1), .inl (E 0, 9, .inl df1)), ((da 2), .inl (E 0, 9, .inl w_5)), ((da 3), .inl (E 0, 3, .inl df3)), ((da 4), .inl (E 0, 3, .inl df4))]) [1, 2, 3, 4, 5, 0] rfl
    have hD9 := hD.sub (ws' := [(dh, .inr (0, G0 da dlisted dshared dsailing w_6)), ((da 0), .inl (E 0, 9, .inl df0)), ((da 1), .inl (E 0, 9, .inl df1)), ((da 2), .inl (E 0, 9, .inl w_5)), ((da 3), .inl (E 0, 3, .inl df3)), ((da 4), .inl (E 0, 3, .inl df4))]) [1, 2, 3, 4, 5, 0] (by decide) rfl
    exact W.vret hx hb hr (fun t ht hW => ⟨⟨(df1, w_5, df4, w_6), rfl, (by (try dsimp only); rw [tfX_end (by omega)]; unfold kpX; (try dsimp only); rw [← hw_3]), by rw [ht]; exact hP9, hD9⟩, hS.F ht⟩) hS.2.2 dX0_tryFrom_18
  ·
    have ic_1 : p0.toInt < dlisted.toInt := by first | exact (g_lt rfl rfl).mp c_1 | (have h := mt (g_le rfl rfl).mpr c_1; omega)
    clear c_1
    refine lv_iload_n hx hb dX0_tryFrom_8 rfl (lv_at hl 1 rfl) ?_
    refine lv_bipush (v := 9) hx hb dX0_tryFrom_9 (by decide) ?_
    refine lv_icmp_lt (tgt := 19) hx hb dX0_tryFrom_11 (by decide) (fun c_7 => ?_) (fun c_7 => absurd (by rw [g_lt rfl t_9]; omega) c_7)
    refine lv_iconst (v := 0) hx hb dX0_tryFrom_19 (by decide) ?_
    refine lv_istore_n (lv' := [(3, .int 0), (0, .ref dh), (1, .int p0), (2, .int p1)]) hx hb dX0_tryFrom_20 rfl hl (by decide) rfl (fun ls hl => ?_)
    have loop_8 : ∀ (N_10 : Nat) (L3_21 : Int32) (dleastWorst_21 : Int32) (df1_21 : Nat → Int32) (df2_21 : Nat → Int32) (df4_21 : Nat → Int32) (H : Heap) (locs : List Loc) (ls : Array Slot), 3 - L3_21.toInt < (N_10 : Int) → (0 ≤ L3_21.toInt ∧ L3_21.toInt ≤ dsailing.toInt) → (((df1_21, df4_21, dleastWorst_21, df2_21) : TS) = lpX (tfX df0 df3 dlisted dsailing 6) p0 p1 (df1, df4, dleastWorst, df2) (L3_21).toNatClampNeg) → va_P D vwCl [(dh, .inr (0, G0 da dlisted dshared dsailing dleastWorst_21)), ((da 0), .inl (E 0, 9, .inl df0)), ((da 1), .inl (E 0, 9, .inl df1_21)), ((da 2), .inl (E 0, 9, .inl df2_21)), ((da 3), .inl (E 0, 3, .inl df3)), ((da 4), .inl (E 0, 3, .inl df4_21))] H → va_D A [(dh, .inr (0, G0 da dlisted dshared dsailing dleastWorst_21)), ((da 0), .inl (E 0, 9, .inl df0)), ((da 1), .inl (E 0, 9, .inl df1_21)), ((da 2), .inl (E 0, 9, .inl df2_21)), ((da 3), .inl (E 0, 3, .inl df3)), ((da 4), .inl (E 0, 3, .inl df4_21))] → va_S A s.heap H locs → lv_has ls 4 [(3, .int L3_21), (0, .ref dh), (1, .int p0), (2, .int p1)] → W p l e (headSpec (wl yX0_tryFrom cX0_tryFrom 4 none) (RM 10 0 0)).room s m [Value.ref dh, .int p0, .int p1].toArray below meth c H locs 0 0 (MQ below (va_Qv (fun (u : (Nat → Int32) × (Nat → Int32) × (Nat → Int32) × (Int32)) => (((u.1, u.2.2.1, u.2.2.2, u.2.1) : TS) = tfX df0 df3 dlisted dsailing 7 p0 p1 (df1, df4, dleastWorst, df2))) (mu_B D A (fun (u : (Nat → Int32) × (Nat → Int32) × (Nat → Int32) × (Int32)) => [(dh, .inr (0, G0 da dlisted dshared dsailing u.2.2.2)), ((da 0), .inl (E 0, 9, .inl df0)), ((da 1), .inl (E 0, 9, .inl u.1)), ((da 2), .inl (E 0, 9, .inl u.2.1)), ((da 3), .inl (E 0, 3, .inl df3)), ((da 4), .inl (E 0, 3, .inl u.2.2.1))])) A) [Value.ref dh, .int p0, .int p1].toArray s 0 0 A) (F0 m 21 ls []) := by
      intro N_10
      induction N_10 with
      | zero => intro L3_21 dleastWorst_21 df1_21 df2_21 df4_21 H locs ls hm v0_21 v1_21 _ _ _ _; exfalso; omega
      | succ N_10 ih_9 =>
        intro L3_21 dleastWorst_21 df1_21 df2_21 df4_21 H locs ls hm v0_21 v1_21 hP hD hS hl
        have lo_L3_21 := i_lo L3_21; have hi_L3_21 := i_hi L3_21
        have lo_dleastWorst_21 := i_lo dleastWorst_21; have hi_dleastWorst_21 := i_hi dleastWorst_21
        refine lv_iload_n hx hb dX0_tryFrom_21 rfl (lv_at hl 0 rfl) ?_
        refine lv_aload_n hx hb dX0_tryFrom_22 rfl (lv_at hl 1 rfl) ?_
        refine va_get (D := D) (ci := 0) (v := .int dsailing) (C := RX0) (T := TX0) (N := 9) hx hb htb iX0 hown hK.1 hP 0 rfl rfl 7 (by decide) (htb _ k_200) (fun _ h9 => h9) rfl dX0_tryFrom_23 ?_
        refine lv_icmp_ge (tgt := 89) hx hb dX0_tryFrom_26 (by decide) (fun c_11 => ?_) (fun c_11 => ?_)
        ·
          have ic_11 : dsailing.toInt ≤ L3_21.toInt := by first | exact (g_le rfl rfl).mp c_11 | (have h := mt (g_lt rfl rfl).mpr c_11; omega)
          clear c_11
          refine lv_iload_n hx hb dX0_tryFrom_89 rfl (lv_at hl 3 rfl) ?_
          refine lv_if_le (tgt := 110) hx hb dX0_tryFrom_90 (by decide) (fun c_12 => ?_) (fun c_12 => ?_)
          ·
            have ic_12 : p1.toInt ≤ 0 := by first | exact (g_le rfl t_0).mp c_12 | (have h := mt (g_lt t_0 rfl).mpr c_12; omega)
            clear c_12
            have hP9 := hP.sub (ws' := [(dh, .inr (0, G0 da dlisted dshared dsailing dleastWorst_21)), ((da 0), .inl (E 0, 9, .inl df0)), ((da 1), .inl (E 0, 9, .inl df1_21)), ((da 2), .inl (E 0, 9, .inl df2_21)), ((da 3), .inl (E 0, 3, .inl df3)), ((da 4), .inl (E 0, 3, .inl df4_21))]) [0, 1, 2, 3, 4, 5] rfl
            have hD9 := hD.sub (ws' := [(dh, .inr (0, G0 da dlisted dshared dsailing dleastWorst_21)), ((da 0), .inl (E 0, 9, .inl df0)), ((da 1), .inl (E 0, 9, .inl df1_21)), ((da 2), .inl (E 0, 9, .inl df2_21)), ((da 3), .inl (E 0, 3, .inl df3)), ((da 4), .inl (E 0, 3, .inl df4_21))]) [0, 1, 2, 3, 4, 5] (by decide) rfl
            exact W.vret hx hb hr (fun t ht hW => ⟨⟨(df1_21, df2_21, df4_21, dleastWorst_21), rfl, (by (try dsimp only); rw [tfX_no (by omega) (by omega), show (dsailing : Int32).toNatClampNeg = (L3_21).toNatClampNeg from clampE (by omega) (by omega), ← v1_21]), by rw [ht]; exact hP9, hD9⟩, hS.F ht⟩) hS.2.2 dX0_tryFrom_110
          ·
            have ic_12 : 0 < p1.toInt := by first | exact (g_lt t_0 rfl).mp c_12 | (have h := mt (g_le rfl t_0).mpr c_12; omega)
            clear c_12
            refine lv_aload_n hx hb dX0_tryFrom_93 rfl (lv_at hl 1 rfl) ?_
            refine va_get (D := D) (ci := 0) (v := .ref (da 1)) (C := RX0) (T := TX0) (N := 9) hx hb htb iX0 hown hK.1 hP 0 rfl rfl 1 (by decide) (htb _ k_191) (fun _ h9 => h9) rfl dX0_tryFrom_94 ?_
            refine lv_iload_n hx hb dX0_tryFrom_97 rfl (lv_at hl 2 rfl) ?_
            refine lv_iconst (v := (-1)) hx hb dX0_tryFrom_98 (by decide) ?_
            refine va_iast hx hb hK.1 hP hD hS 2 0 rfl rfl (g_in rfl (by omega) (by omega)) dX0_tryFrom_99 (fun H locs hP hD hS => ?_)
            have hP : va_P D vwCl [(dh, .inr (0, G0 da dlisted dshared dsailing dleastWorst_21)), ((da 0), .inl (E 0, 9, .inl df0)), ((da 1), .inl (E 0, 9, .inl (upd df1_21 (p0 : Int32).toNatClampNeg (-1)))), ((da 2), .inl (E 0, 9, .inl df2_21)), ((da 3), .inl (E 0, 3, .inl df3)), ((da 4), .inl (E 0, 3, .inl df4_21))] H := hP
            have hD := toW hP hD rfl
            refine lv_aload_n hx hb dX0_tryFrom_100 rfl (lv_at hl 1 rfl) ?_
            refine lv_iload_n hx hb dX0_tryFrom_101 rfl (lv_at hl 2 rfl) ?_
            refine lv_iconst (v := 1) hx hb dX0_tryFrom_102 (by decide) ?_
            refine lv_iadd hx hb dX0_tryFrom_103 ?_
            refine lv_topi (fun z_13 ez_13 => ?_)
            have jz_13 : z_13.toInt = p0.toInt + 1 := by rw [ez_13]; exact g_add rfl t_1 (by omega) (by omega)
            refine lv_iload_n hx hb dX0_tryFrom_104 rfl (lv_at hl 3 rfl) ?_
            refine lv_iconst (v := 1) hx hb dX0_tryFrom_105 (by decide) ?_
            refine lv_isub hx hb dX0_tryFrom_106 ?_
            refine lv_topi (fun z_14 ez_14 => ?_)
            have jz_14 : z_14.toInt = p1.toInt - 1 := by rw [ez_14]; exact g_sub rfl t_1 (by omega) (by omega)
            have hPc := hP.sub (ws' := [(dh, .inr (0, G0 da dlisted dshared dsailing dleastWorst_21)), ((da 0), .inl (E 0, 9, .inl df0)), ((da 1), .inl (E 0, 9, .inl (upd df1_21 (p0 : Int32).toNatClampNeg (-1)))), ((da 2), .inl (E 0, 9, .inl df2_21)), ((da 3), .inl (E 0, 3, .inl df3)), ((da 4), .inl (E 0, 3, .inl df4_21))]) [0, 1, 2, 3, 4, 5] rfl
            have hDc := hD.sub (ws' := [(dh, .inr (0, G0 da dlisted dshared dsailing dleastWorst_21)), ((da 0), .inl (E 0, 9, .inl df0)), ((da 1), .inl (E 0, 9, .inl (upd df1_21 (p0 : Int32).toNatClampNeg (-1)))), ((da 2), .inl (E 0, 9, .inl df2_21)), ((da 3), .inl (E 0, 3, .inl df3)), ((da 4), .inl (E 0, 3, .inl df4_21))]) [0, 1, 2, 3, 4, 5] (by decide) rfl
            refine aft_v (runMV (rest := []) (As := [.int z_13, .int z_14]) hx hb hml hown htb hK (g_X0_tryFrom_6 l D E dh da dlisted dshared dsailing dleastWorst_21 df0 (upd df1_21 (p0 : Int32).toNatClampNeg (-1)) df2_21 df3 df4_21 z_13 z_14 _ (by (try dsimp only); omega) (by (try dsimp only); omega)) ok_X0_tryFrom k_905 k_907 ks_34 k_7 k_908 ⟨(Nat.le_of_ble_eq_true rfl), (Nat.le_of_ble_eq_true rfl)⟩ ⟨(Nat.le_of_ble_eq_true rfl), (Nat.le_of_ble_eq_true rfl)⟩ hl.1 (Nat.le_of_ble_eq_true rfl) rfl rfl dX0_tryFrom_107 hPc hDc rfl rfl 0 rfl) hP hD hS hA [0, 1, 2, 3, 4, 5] [] (wr := ([] : va_W)) rfl rfl (by decide) (by decide) (fun u_17 H locs hw_16 hP hD hS => ?_)
            clear hPc hDc
            obtain ⟨w_18, w_19, w_20, w_21⟩ := u_17
            try dsimp only at hw_16
            have hP : va_P D vwCl [(dh, .inr (0, G0 da dlisted dshared dsailing w_21)), ((da 0), .inl (E 0, 9, .inl df0)), ((da 1), .inl (E 0, 9, .inl w_18)), ((da 2), .inl (E 0, 9, .inl w_19)), ((da 3), .inl (E 0, 3, .inl df3)), ((da 4), .inl (E 0, 3, .inl w_20))] H := hP
            have hD := toW hP hD rfl
            have hP9 := hP.sub (ws' := [(dh, .inr (0, G0 da dlisted dshared dsailing w_21)), ((da 0), .inl (E 0, 9, .inl df0)), ((da 1), .inl (E 0, 9, .inl w_18)), ((da 2), .inl (E 0, 9, .inl w_19)), ((da 3), .inl (E 0, 3, .inl df3)), ((da 4), .inl (E 0, 3, .inl w_20))]) [0, 1, 2, 3, 4, 5] rfl
            have hD9 := hD.sub (ws' := [(dh, .inr (0, G0 da dlisted dshared dsailing w_21)), ((da 0), .inl (E 0, 9, .inl df0)), ((da 1), .inl (E 0, 9, .inl w_18)), ((da 2), .inl (E 0, 9, .inl w_19)), ((da 3), .inl (E 0, 3, .inl df3)), ((da 4), .inl (E 0, 3, .inl w_20))]) [0, 1, 2, 3, 4, 5] (by decide) rfl
            exact W.vret hx hb hr (fun t ht hW => ⟨⟨(w_18, w_19, w_20, w_21), rfl, (by (try dsimp only); exact tf_go (by omega) (by omega) (by rw [show (dsailing : Int32).toNatClampNeg = (L3_21).toNatClampNeg from clampE (by omega) (by omega)]; exact v1_21) ez_13 ez_14 hw_16), by rw [ht]; exact hP9, hD9⟩, hS.F ht⟩) hS.2.2 dX0_tryFrom_110
        ·
          have ic_11 : L3_21.toInt < dsailing.toInt := by first | exact (g_lt rfl rfl).mp c_11 | (have h := mt (g_le rfl rfl).mpr c_11; omega)
          clear c_11
          refine lv_iload_n hx hb dX0_tryFrom_29 rfl (lv_at hl 0 rfl) ?_
          refine lv_aload_n hx hb dX0_tryFrom_30 rfl (lv_at hl 1 rfl) ?_
          refine va_get (D := D) (ci := 0) (v := .ref (da 4)) (C := RX0) (T := TX0) (N := 9) hx hb htb iX0 hown hK.1 hP 0 rfl rfl 4 (by decide) (htb _ k_195) (fun _ h9 => h9) rfl dX0_tryFrom_31 ?_
          refine va_alen hx hb hK.1 hP 5 0 rfl rfl (v := 3) (show Int32.ofNat 3 = 3 by decide) dX0_tryFrom_34 ?_
          refine lv_icmp_ge (tgt := 89) hx hb dX0_tryFrom_35 (by decide) (fun c_22 => absurd c_22 (by rw [g_le t_3 rfl]; omega)) (fun c_22 => ?_)
          refine lv_aload_n hx hb dX0_tryFrom_38 rfl (lv_at hl 1 rfl) ?_
          refine va_get (D := D) (ci := 0) (v := .ref (da 4)) (C := RX0) (T := TX0) (N := 9) hx hb htb iX0 hown hK.1 hP 0 rfl rfl 4 (by decide) (htb _ k_195) (fun _ h9 => h9) rfl dX0_tryFrom_39 ?_
          refine lv_iload_n hx hb dX0_tryFrom_42 rfl (lv_at hl 0 rfl) ?_
          refine va_iald hx hb hK.1 hP 5 0 rfl rfl (g_in rfl (by omega) (by omega)) dX0_tryFrom_43 ?_
          refine lv_topi (fun z_23 ez_23 => ?_)
          have kz_23 := congrArg Int32.toInt ez_23
          refine lv_iconst (v := 3) hx hb dX0_tryFrom_44 (by decide) ?_
          refine lv_icmp_ge (tgt := 83) hx hb dX0_tryFrom_45 (by decide) (fun c_24 => ?_) (fun c_24 => ?_)
          ·
            have ic_24 : 3 ≤ z_23.toInt := by first | exact (g_le t_3 rfl).mp c_24 | (have h := mt (g_lt rfl t_3).mpr c_24; omega)
            clear c_24
            obtain ⟨z_25, ez_25⟩ : ∃ y : Int32, y = L3_21 + 1 := ⟨_, rfl⟩
            have jz_25 : z_25.toInt = L3_21.toInt + 1 := by rw [ez_25]; exact g_add rfl t_1 (by omega) (by omega)
            refine lv_iinc (v := z_25) (lv' := [(3, .int z_25), (0, .ref dh), (1, .int p0), (2, .int p1)]) hx hb dX0_tryFrom_83 hl (k := 0) rfl (by rw [ez_25]; rfl) (by decide) rfl (fun ls hl => ?_)
            refine lv_goto (tgt := 21) hx hb dX0_tryFrom_86 (by decide) ?_
            exact ih_9 z_25 dleastWorst_21 df1_21 df2_21 df4_21 _ _ _ (by (try dsimp only); omega) (by (try dsimp only); omega) (by rw [clampS (by omega) jz_25, lpX_s, ← v1_21]; rw [shX_no (by (try dsimp only); rw [← ez_23]; omega)]) hP hD hS (lv_sub hl [0, 1, 2, 3] rfl)
          ·
            have ic_24 : z_23.toInt < 3 := by first | exact (g_lt rfl t_3).mp c_24 | (have h := mt (g_le t_3 rfl).mpr c_24; omega)
            clear c_24
            refine lv_aload_n hx hb dX0_tryFrom_48 rfl (lv_at hl 1 rfl) ?_
            refine va_get (D := D) (ci := 0) (v := .ref (da 1)) (C := RX0) (T := TX0) (N := 9) hx hb htb iX0 hown hK.1 hP 0 rfl rfl 1 (by decide) (htb _ k_191) (fun _ h9 => h9) rfl dX0_tryFrom_49 ?_
            refine lv_iload_n hx hb dX0_tryFrom_52 rfl (lv_at hl 2 rfl) ?_
            refine lv_iload_n hx hb dX0_tryFrom_53 rfl (lv_at hl 0 rfl) ?_
            refine va_iast hx hb hK.1 hP hD hS 2 0 rfl rfl (g_in rfl (by omega) (by omega)) dX0_tryFrom_54 (fun H locs hP hD hS => ?_)
            have hP : va_P D vwCl [(dh, .inr (0, G0 da dlisted dshared dsailing dleastWorst_21)), ((da 0), .inl (E 0, 9, .inl df0)), ((da 1), .inl (E 0, 9, .inl (upd df1_21 (p0 : Int32).toNatClampNeg L3_21))), ((da 2), .inl (E 0, 9, .inl df2_21)), ((da 3), .inl (E 0, 3, .inl df3)), ((da 4), .inl (E 0, 3, .inl df4_21))] H := hP
            have hD := toW hP hD rfl
            refine lv_aload_n hx hb dX0_tryFrom_55 rfl (lv_at hl 1 rfl) ?_
            refine va_get (D := D) (ci := 0) (v := .ref (da 4)) (C := RX0) (T := TX0) (N := 9) hx hb htb iX0 hown hK.1 hP 0 rfl rfl 4 (by decide) (htb _ k_195) (fun _ h9 => h9) rfl dX0_tryFrom_56 ?_
            refine lv_iload_n hx hb dX0_tryFrom_59 rfl (lv_at hl 0 rfl) ?_
            refine lv_dup2_11 hx hb dX0_tryFrom_60 rfl rfl ?_
            refine va_iald hx hb hK.1 hP 5 0 rfl rfl (g_in rfl (by omega) (by omega)) dX0_tryFrom_61 ?_
            refine lv_topi (fun z_26 ez_26 => ?_)
            have kz_26 := congrArg Int32.toInt ez_26
            refine lv_iconst (v := 1) hx hb dX0_tryFrom_62 (by decide) ?_
            refine lv_iadd hx hb dX0_tryFrom_63 ?_
            refine lv_topi (fun z_27 ez_27 => ?_)
            refine va_iast hx hb hK.1 hP hD hS 5 0 rfl rfl (g_in rfl (by omega) (by omega)) dX0_tryFrom_64 (fun H locs hP hD hS => ?_)
            have hP : va_P D vwCl [(dh, .inr (0, G0 da dlisted dshared dsailing dleastWorst_21)), ((da 0), .inl (E 0, 9, .inl df0)), ((da 1), .inl (E 0, 9, .inl (upd df1_21 (p0 : Int32).toNatClampNeg L3_21))), ((da 2), .inl (E 0, 9, .inl df2_21)), ((da 3), .inl (E 0, 3, .inl df3)), ((da 4), .inl (E 0, 3, .inl (upd df4_21 (L3_21 : Int32).toNatClampNeg z_27)))] H := hP
            have hD := toW hP hD rfl
            refine lv_aload_n hx hb dX0_tryFrom_65 rfl (lv_at hl 1 rfl) ?_
            refine lv_iload_n hx hb dX0_tryFrom_66 rfl (lv_at hl 2 rfl) ?_
            refine lv_iconst (v := 1) hx hb dX0_tryFrom_67 (by decide) ?_
            refine lv_iadd hx hb dX0_tryFrom_68 ?_
            refine lv_topi (fun z_28 ez_28 => ?_)
            have jz_28 : z_28.toInt = p0.toInt + 1 := by rw [ez_28]; exact g_add rfl t_1 (by omega) (by omega)
            refine lv_iload_n hx hb dX0_tryFrom_69 rfl (lv_at hl 3 rfl) ?_
            have hPc := hP.sub (ws' := [(dh, .inr (0, G0 da dlisted dshared dsailing dleastWorst_21)), ((da 0), .inl (E 0, 9, .inl df0)), ((da 1), .inl (E 0, 9, .inl (upd df1_21 (p0 : Int32).toNatClampNeg L3_21))), ((da 2), .inl (E 0, 9, .inl df2_21)), ((da 3), .inl (E 0, 3, .inl df3)), ((da 4), .inl (E 0, 3, .inl (upd df4_21 (L3_21 : Int32).toNatClampNeg z_27)))]) [0, 1, 2, 3, 4, 5] rfl
            have hDc := hD.sub (ws' := [(dh, .inr (0, G0 da dlisted dshared dsailing dleastWorst_21)), ((da 0), .inl (E 0, 9, .inl df0)), ((da 1), .inl (E 0, 9, .inl (upd df1_21 (p0 : Int32).toNatClampNeg L3_21))), ((da 2), .inl (E 0, 9, .inl df2_21)), ((da 3), .inl (E 0, 3, .inl df3)), ((da 4), .inl (E 0, 3, .inl (upd df4_21 (L3_21 : Int32).toNatClampNeg z_27)))]) [0, 1, 2, 3, 4, 5] (by decide) rfl
            refine aft_v (runMV (rest := []) (As := [.int z_28, .int p1]) hx hb hml hown htb hK (g_X0_tryFrom_6 l D E dh da dlisted dshared dsailing dleastWorst_21 df0 (upd df1_21 (p0 : Int32).toNatClampNeg L3_21) df2_21 df3 (upd df4_21 (L3_21 : Int32).toNatClampNeg z_27) z_28 p1 _ (by (try dsimp only); omega) (by (try dsimp only); omega)) ok_X0_tryFrom k_905 k_907 ks_34 k_7 k_908 ⟨(Nat.le_of_ble_eq_true rfl), (Nat.le_of_ble_eq_true rfl)⟩ ⟨(Nat.le_of_ble_eq_true rfl), (Nat.le_of_ble_eq_true rfl)⟩ hl.1 (Nat.le_of_ble_eq_true rfl) rfl rfl dX0_tryFrom_70 hPc hDc rfl rfl 0 rfl) hP hD hS hA [0, 1, 2, 3, 4, 5] [] (wr := ([] : va_W)) rfl rfl (by decide) (by decide) (fun u_31 H locs hw_30 hP hD hS => ?_)
            clear hPc hDc
            obtain ⟨w_32, w_33, w_34, w_35⟩ := u_31
            try dsimp only at hw_30
            have hP : va_P D vwCl [(dh, .inr (0, G0 da dlisted dshared dsailing w_35)), ((da 0), .inl (E 0, 9, .inl df0)), ((da 1), .inl (E 0, 9, .inl w_32)), ((da 2), .inl (E 0, 9, .inl w_33)), ((da 3), .inl (E 0, 3, .inl df3)), ((da 4), .inl (E 0, 3, .inl w_34))] H := hP
            have hD := toW hP hD rfl
            refine lv_aload_n hx hb dX0_tryFrom_73 rfl (lv_at hl 1 rfl) ?_
            refine va_get (D := D) (ci := 0) (v := .ref (da 4)) (C := RX0) (T := TX0) (N := 9) hx hb htb iX0 hown hK.1 hP 0 rfl rfl 4 (by decide) (htb _ k_195) (fun _ h9 => h9) rfl dX0_tryFrom_74 ?_
            refine lv_iload_n hx hb dX0_tryFrom_77 rfl (lv_at hl 0 rfl) ?_
            refine lv_dup2_11 hx hb dX0_tryFrom_78 rfl rfl ?_
            refine va_iald hx hb hK.1 hP 5 0 rfl rfl (g_in rfl (by omega) (by omega)) dX0_tryFrom_79 ?_
            refine lv_topi (fun z_36 ez_36 => ?_)
            have kz_36 := congrArg Int32.toInt ez_36
            refine lv_iconst (v := 1) hx hb dX0_tryFrom_80 (by decide) ?_
            refine lv_isub hx hb dX0_tryFrom_81 ?_
            refine lv_topi (fun z_37 ez_37 => ?_)
            refine va_iast hx hb hK.1 hP hD hS 5 0 rfl rfl (g_in rfl (by omega) (by omega)) dX0_tryFrom_82 (fun H locs hP hD hS => ?_)
            have hP : va_P D vwCl [(dh, .inr (0, G0 da dlisted dshared dsailing w_35)), ((da 0), .inl (E 0, 9, .inl df0)), ((da 1), .inl (E 0, 9, .inl w_32)), ((da 2), .inl (E 0, 9, .inl w_33)), ((da 3), .inl (E 0, 3, .inl df3)), ((da 4), .inl (E 0, 3, .inl (upd w_34 (L3_21 : Int32).toNatClampNeg z_37)))] H := hP
            have hD := toW hP hD rfl
            obtain ⟨z_38, ez_38⟩ : ∃ y : Int32, y = L3_21 + 1 := ⟨_, rfl⟩
            have jz_38 : z_38.toInt = L3_21.toInt + 1 := by rw [ez_38]; exact g_add rfl t_1 (by omega) (by omega)
            refine lv_iinc (v := z_38) (lv' := [(3, .int z_38), (0, .ref dh), (1, .int p0), (2, .int p1)]) hx hb dX0_tryFrom_83 hl (k := 0) rfl (by rw [ez_38]; rfl) (by decide) rfl (fun ls hl => ?_)
            refine lv_goto (tgt := 21) hx hb dX0_tryFrom_86 (by decide) ?_
            exact ih_9 z_38 w_35 w_32 w_33 (upd w_34 (L3_21 : Int32).toNatClampNeg z_37) _ _ _ (by (try dsimp only); omega) (by (try dsimp only); omega) (by rw [clampS (by omega) jz_38, lpX_s, ← v1_21]; rw [ez_37, ez_36]; refine shX_go (j := z_28) (by rw [← ez_23]; omega) ?_ ez_28; rw [ofN_c (by omega), ← ez_26, ← ez_27]; exact hw_30) hP hD hS (lv_sub hl [0, 1, 2, 3] rfl)
    exact loop_8 4 0 dleastWorst df1 df2 df4 _ _ _ (by have h0 := t_0; (try dsimp only); omega) (by have h0 := t_0; (try dsimp only); omega) (by rw [clamp_0]; rfl) hP hD hS (lv_sub hl [0, 1, 2, 3] rfl)
set_option maxHeartbeats 4000000 in
set_option maxRecDepth 100000 in
theorem g_X0_tryFrom_8 (l : Launch) (D : va_G) (E : Nat → Nat) (dh : Nat) (da : Nat → Nat) (dlisted : Int32) (dshared : Int32) (dsailing : Int32) (dleastWorst : Int32) (df0 : Nat → Int32) (df1 : Nat → Int32) (df2 : Nat → Int32) (df3 : Nat → Int32) (df4 : Nat → Int32) (p0 : Int32) (p1 : Int32) (sz : Nat) (hi_d : (0 ≤ dlisted.toInt ∧ dlisted.toInt ≤ 9) ∧ (0 ≤ dshared.toInt ∧ dshared.toInt ≤ 9) ∧ (0 ≤ dsailing.toInt ∧ dsailing.toInt ≤ 3)) (g0 : 1 ≤ p0.toInt ∧ p0.toInt ≤ 9) : Met l yX0_tryFrom (wl yX0_tryFrom cX0_tryFrom 4 none) (RM 11 0 0) (mu_P D E [.ref dh, .int p0, .int p1] [(dh, .inr (0, G0 da dlisted dshared dsailing dleastWorst)), ((da 0), .inl (E 0, 9, .inl df0)), ((da 1), .inl (E 0, 9, .inl df1)), ((da 2), .inl (E 0, 9, .inl df2)), ((da 3), .inl (E 0, 3, .inl df3)), ((da 4), .inl (E 0, 3, .inl df4))] sz) (va_Qv (fun (u : (Nat → Int32) × (Nat → Int32) × (Nat → Int32) × (Int32)) => (((u.1, u.2.2.1, u.2.2.2, u.2.1) : TS) = tfX df0 df3 dlisted dsailing 8 p0 p1 (df1, df4, dleastWorst, df2))) (mu_B D (va_A [(dh, .inr (0, G0 da dlisted dshared dsailing dleastWorst)), ((da 0), .inl (E 0, 9, .inl df0)), ((da 1), .inl (E 0, 9, .inl df1)), ((da 2), .inl (E 0, 9, .inl df2)), ((da 3), .inl (E 0, 3, .inl df3)), ((da 4), .inl (E 0, 3, .inl df4))] sz) (fun (u : (Nat → Int32) × (Nat → Int32) × (Nat → Int32) × (Int32)) => [(dh, .inr (0, G0 da dlisted dshared dsailing u.2.2.2)), ((da 0), .inl (E 0, 9, .inl df0)), ((da 1), .inl (E 0, 9, .inl u.1)), ((da 2), .inl (E 0, 9, .inl u.2.1)), ((da 3), .inl (E 0, 3, .inl df3)), ((da 4), .inl (E 0, 3, .inl u.2.2.1))])) (va_A [(dh, .inr (0, G0 da dlisted dshared dsailing dleastWorst)), ((da 0), .inl (E 0, 9, .inl df0)), ((da 1), .inl (E 0, 9, .inl df1)), ((da 2), .inl (E 0, 9, .inl df2)), ((da 3), .inl (E 0, 3, .inl df3)), ((da 4), .inl (E 0, 3, .inl df4))] sz)) 0 0 (va_A [(dh, .inr (0, G0 da dlisted dshared dsailing dleastWorst)), ((da 0), .inl (E 0, 9, .inl df0)), ((da 1), .inl (E 0, 9, .inl df1)), ((da 2), .inl (E 0, 9, .inl df2)), ((da 3), .inl (E 0, 3, .inl df3)), ((da 4), .inl (E 0, 3, .inl df4))] sz) := by
  refine Met.ofW (cc := cX0_tryFrom) (maxL := 4) (ret := none) (by decide) rfl ?_
  intro p e s m args below meth c s₁ B hml hv
  obtain ⟨rfl, hsz, hP, hK, hD0⟩ := hv
  have hx := B.exec; have hb := B.bytes; have hr := B.returns
  have hts := atoms_spec (ws := wl yX0_tryFrom cX0_tryFrom 4 none) B.pre
  have htb : ∀ w ∈ tb, w.before _ s = true := fun w h => hts w (List.mem_cons_of_mem _ h)
  have hown : s.vm.findClass RX0 = some m.cls := findClass_of_methodNamed B.named
  have hlocks := B.notSynchronized
  subst hsz
  have hD := hD0.self (sz := s.heap.size)
  generalize hAe : va_A [(dh, .inr (0, G0 da dlisted dshared dsailing dleastWorst)), ((da 0), .inl (E 0, 9, .inl df0)), ((da 1), .inl (E 0, 9, .inl df1)), ((da 2), .inl (E 0, 9, .inl df2)), ((da 3), .inl (E 0, 3, .inl df3)), ((da 4), .inl (E 0, 3, .inl df4))] s.heap.size = A at hD ⊢
  have hA : ∀ q : Nat, s.heap.size ≤ q → A q := fun q h => by rw [← hAe]; exact Or.inr h
  have hS : va_S A s.heap s.heap [] := va_S.rf
  have hP : va_P D vwCl [(dh, .inr (0, G0 da dlisted dshared dsailing dleastWorst)), ((da 0), .inl (E 0, 9, .inl df0)), ((da 1), .inl (E 0, 9, .inl df1)), ((da 2), .inl (E 0, 9, .inl df2)), ((da 3), .inl (E 0, 3, .inl df3)), ((da 4), .inl (E 0, 3, .inl df4))] s.heap := hP
  have hl := lv_entry ([.ref dh, .int p0, .int p1]) (n := 4) (Nat.le_of_ble_eq_true rfl)
  rw [lg_entry_eq]
  generalize (lg_sl ([.ref dh, .int p0, .int p1]) ++ List.replicate (4 - (lg_sl ([.ref dh, .int p0, .int p1])).length) Slot.unset).toArray = ls at hl ⊢
  have hl : lv_has ls 4 [(0, .ref dh), (1, .int p0), (2, .int p1)] := hl
  have lo_p0 := i_lo p0; have hi_p0 := i_hi p0
  have lo_p1 := i_lo p1; have hi_p1 := i_hi p1
  refine lv_iload_n hx hb dX0_tryFrom_0 rfl (lv_at hl 1 rfl) ?_
  refine lv_aload_n hx hb dX0_tryFrom_1 rfl (lv_at hl 0 rfl) ?_
  refine va_get (D := D) (ci := 0) (v := .int dlisted) (C := RX0) (T := TX0) (N := 9) hx hb htb iX0 hown hK.1 hP 0 rfl rfl 5 (by decide) (htb _ k_196) (fun _ h9 => h9) rfl dX0_tryFrom_2 ?_
  refine lv_icmp_ge (tgt := 14) hx hb dX0_tryFrom_5 (by decide) (fun c_1 => ?_) (fun c_1 => ?_)
  ·
    have ic_1 : dlisted.toInt ≤ p0.toInt := by first | exact (g_le rfl rfl).mp c_1 | (have h := mt (g_lt rfl rfl).mpr c_1; omega)
    clear c_1
    refine lv_aload_n hx hb dX0_tryFrom_14 rfl (lv_at hl 0 rfl) ?_
    have hPc := hP.sub (ws' := [(dh, .inr (0, G0 da dlisted dshared dsailing dleastWorst)), ((da 0), .inl (E 0, 9, .inl df0)), ((da 1), .inl (E 0, 9, .inl df1)), ((da 2), .inl (E 0, 9, .inl df2)), ((da 3), .inl (E 0, 3, .inl df3))]) [0, 1, 2, 3, 4] rfl
    have hDc := hD.sub (ws' := [(dh, .inr (0, G0 da dlisted dshared dsailing dleastWorst)), ((da 0), .inl (E 0, 9, .inl df0)), ((da 1), .inl (E 0, 9, .inl df1)), ((da 2), .inl (E 0, 9, .inl df2)), ((da 3), .inl (E 0, 3, .inl df3))]) [0, 1, 2, 3, 4] (by decide) rfl
    refine aft_v (runMV (rest := []) (As := []) hx hb hml hown htb hK (g_X0_keepIfBetter l D E dh da dlisted dshared dsailing dleastWorst df0 df1 df2 df3 _ (by (try dsimp only); omega)) ok_X0_keepIfBetter k_909 k_911 ks_35 k_7 k_912 ⟨(Nat.le_of_ble_eq_true rfl), (Nat.le_of_ble_eq_true rfl)⟩ ⟨(Nat.le_of_ble_eq_true rfl), (Nat.le_of_ble_eq_true rfl)⟩ hl.1 (Nat.le_of_ble_eq_true rfl) rfl rfl dX0_tryFrom_15 hPc hDc rfl rfl 0 rfl) hP hD hS hA [0, 1, 2, 3, 4] [5] (wr := [((da 4), .inl (E 0, 3, .inl df4))]) rfl rfl (by decide) (by decide) (fun u_4 H locs hw_3 hP hD hS => ?_)
    clear hPc hDc
    obtain ⟨w_5, w_6⟩ := u_4
    try dsimp only at hw_3
    have hP : va_P D vwCl [((da 4), .inl (E 0, 3, .inl df4)), (dh, .inr (0, G0 da dlisted dshared dsailing w_6)), ((da 0), .inl (E 0, 9, .inl df0)), ((da 1), .inl (E 0, 9, .inl df1)), ((da 2), .inl (E 0, 9, .inl w_5)), ((da 3), .inl (E 0, 3, .inl df3))] H := hP
    have hD := toW hP hD rfl
    have hP9 := hP.sub (ws' := [(dh, .inr (0, G0 da dlisted dshared dsailing w_6)), ((da 0), .inl (E 0, 9, .inl df0)), ((da 1), .inl (E 0, 9, .inl df1)), ((da 2), .inl (E 0, 9, .inl w_5)), ((da 3), .inl (E 0, 3, .inl df3)), ((da 4), .inl (E 0, 3, .inl df4))]) [1, 2, 3, 4, 5, 0] rfl
    have hD9 := hD.sub (ws' := [(dh, .inr (0, G0 da dlisted dshared dsailing w_6)), ((da 0), .inl (E 0, 9, .inl df0)), ((da 1), .inl (E 0, 9, .inl df1)), ((da 2), .inl (E 0, 9, .inl w_5)), ((da 3), .inl (E 0, 3, .inl df3)), ((da 4), .inl (E 0, 3, .inl df4))]) [1, 2, 3, 4, 5, 0] (by decide) rfl
    exact W.vret hx hb hr (fun t ht hW => ⟨⟨(df1, w_5, df4, w_6), rfl, (by (try dsimp only); rw [tfX_end (by omega)]; unfold kpX; (try dsimp only); rw [← hw_3]), by rw [ht]; exact hP9, hD9⟩, hS.F ht⟩) hS.2.2 dX0_tryFrom_18
  ·
    have ic_1 : p0.toInt < dlisted.toInt := by first | exact (g_lt rfl rfl).mp c_1 | (have h := mt (g_le rfl rfl).mpr c_1; omega)
    clear c_1
    refine lv_iload_n hx hb dX0_tryFrom_8 rfl (lv_at hl 1 rfl) ?_
    refine lv_bipush (v := 9) hx hb dX0_tryFrom_9 (by decide) ?_
    refine lv_icmp_lt (tgt := 19) hx hb dX0_tryFrom_11 (by decide) (fun c_7 => ?_) (fun c_7 => absurd (by rw [g_lt rfl t_9]; omega) c_7)
    refine lv_iconst (v := 0) hx hb dX0_tryFrom_19 (by decide) ?_
    refine lv_istore_n (lv' := [(3, .int 0), (0, .ref dh), (1, .int p0), (2, .int p1)]) hx hb dX0_tryFrom_20 rfl hl (by decide) rfl (fun ls hl => ?_)
    have loop_8 : ∀ (N_10 : Nat) (L3_21 : Int32) (dleastWorst_21 : Int32) (df1_21 : Nat → Int32) (df2_21 : Nat → Int32) (df4_21 : Nat → Int32) (H : Heap) (locs : List Loc) (ls : Array Slot), 3 - L3_21.toInt < (N_10 : Int) → (0 ≤ L3_21.toInt ∧ L3_21.toInt ≤ dsailing.toInt) → (((df1_21, df4_21, dleastWorst_21, df2_21) : TS) = lpX (tfX df0 df3 dlisted dsailing 7) p0 p1 (df1, df4, dleastWorst, df2) (L3_21).toNatClampNeg) → va_P D vwCl [(dh, .inr (0, G0 da dlisted dshared dsailing dleastWorst_21)), ((da 0), .inl (E 0, 9, .inl df0)), ((da 1), .inl (E 0, 9, .inl df1_21)), ((da 2), .inl (E 0, 9, .inl df2_21)), ((da 3), .inl (E 0, 3, .inl df3)), ((da 4), .inl (E 0, 3, .inl df4_21))] H → va_D A [(dh, .inr (0, G0 da dlisted dshared dsailing dleastWorst_21)), ((da 0), .inl (E 0, 9, .inl df0)), ((da 1), .inl (E 0, 9, .inl df1_21)), ((da 2), .inl (E 0, 9, .inl df2_21)), ((da 3), .inl (E 0, 3, .inl df3)), ((da 4), .inl (E 0, 3, .inl df4_21))] → va_S A s.heap H locs → lv_has ls 4 [(3, .int L3_21), (0, .ref dh), (1, .int p0), (2, .int p1)] → W p l e (headSpec (wl yX0_tryFrom cX0_tryFrom 4 none) (RM 11 0 0)).room s m [Value.ref dh, .int p0, .int p1].toArray below meth c H locs 0 0 (MQ below (va_Qv (fun (u : (Nat → Int32) × (Nat → Int32) × (Nat → Int32) × (Int32)) => (((u.1, u.2.2.1, u.2.2.2, u.2.1) : TS) = tfX df0 df3 dlisted dsailing 8 p0 p1 (df1, df4, dleastWorst, df2))) (mu_B D A (fun (u : (Nat → Int32) × (Nat → Int32) × (Nat → Int32) × (Int32)) => [(dh, .inr (0, G0 da dlisted dshared dsailing u.2.2.2)), ((da 0), .inl (E 0, 9, .inl df0)), ((da 1), .inl (E 0, 9, .inl u.1)), ((da 2), .inl (E 0, 9, .inl u.2.1)), ((da 3), .inl (E 0, 3, .inl df3)), ((da 4), .inl (E 0, 3, .inl u.2.2.1))])) A) [Value.ref dh, .int p0, .int p1].toArray s 0 0 A) (F0 m 21 ls []) := by
      intro N_10
      induction N_10 with
      | zero => intro L3_21 dleastWorst_21 df1_21 df2_21 df4_21 H locs ls hm v0_21 v1_21 _ _ _ _; exfalso; omega
      | succ N_10 ih_9 =>
        intro L3_21 dleastWorst_21 df1_21 df2_21 df4_21 H locs ls hm v0_21 v1_21 hP hD hS hl
        have lo_L3_21 := i_lo L3_21; have hi_L3_21 := i_hi L3_21
        have lo_dleastWorst_21 := i_lo dleastWorst_21; have hi_dleastWorst_21 := i_hi dleastWorst_21
        refine lv_iload_n hx hb dX0_tryFrom_21 rfl (lv_at hl 0 rfl) ?_
        refine lv_aload_n hx hb dX0_tryFrom_22 rfl (lv_at hl 1 rfl) ?_
        refine va_get (D := D) (ci := 0) (v := .int dsailing) (C := RX0) (T := TX0) (N := 9) hx hb htb iX0 hown hK.1 hP 0 rfl rfl 7 (by decide) (htb _ k_200) (fun _ h9 => h9) rfl dX0_tryFrom_23 ?_
        refine lv_icmp_ge (tgt := 89) hx hb dX0_tryFrom_26 (by decide) (fun c_11 => ?_) (fun c_11 => ?_)
        ·
          have ic_11 : dsailing.toInt ≤ L3_21.toInt := by first | exact (g_le rfl rfl).mp c_11 | (have h := mt (g_lt rfl rfl).mpr c_11; omega)
          clear c_11
          refine lv_iload_n hx hb dX0_tryFrom_89 rfl (lv_at hl 3 rfl) ?_
          refine lv_if_le (tgt := 110) hx hb dX0_tryFrom_90 (by decide) (fun c_12 => ?_) (fun c_12 => ?_)
          ·
            have ic_12 : p1.toInt ≤ 0 := by first | exact (g_le rfl t_0).mp c_12 | (have h := mt (g_lt t_0 rfl).mpr c_12; omega)
            clear c_12
            have hP9 := hP.sub (ws' := [(dh, .inr (0, G0 da dlisted dshared dsailing dleastWorst_21)), ((da 0), .inl (E 0, 9, .inl df0)), ((da 1), .inl (E 0, 9, .inl df1_21)), ((da 2), .inl (E 0, 9, .inl df2_21)), ((da 3), .inl (E 0, 3, .inl df3)), ((da 4), .inl (E 0, 3, .inl df4_21))]) [0, 1, 2, 3, 4, 5] rfl
            have hD9 := hD.sub (ws' := [(dh, .inr (0, G0 da dlisted dshared dsailing dleastWorst_21)), ((da 0), .inl (E 0, 9, .inl df0)), ((da 1), .inl (E 0, 9, .inl df1_21)), ((da 2), .inl (E 0, 9, .inl df2_21)), ((da 3), .inl (E 0, 3, .inl df3)), ((da 4), .inl (E 0, 3, .inl df4_21))]) [0, 1, 2, 3, 4, 5] (by decide) rfl
            exact W.vret hx hb hr (fun t ht hW => ⟨⟨(df1_21, df2_21, df4_21, dleastWorst_21), rfl, (by (try dsimp only); rw [tfX_no (by omega) (by omega), show (dsailing : Int32).toNatClampNeg = (L3_21).toNatClampNeg from clampE (by omega) (by omega), ← v1_21]), by rw [ht]; exact hP9, hD9⟩, hS.F ht⟩) hS.2.2 dX0_tryFrom_110
          ·
            have ic_12 : 0 < p1.toInt := by first | exact (g_lt t_0 rfl).mp c_12 | (have h := mt (g_le rfl t_0).mpr c_12; omega)
            clear c_12
            refine lv_aload_n hx hb dX0_tryFrom_93 rfl (lv_at hl 1 rfl) ?_
            refine va_get (D := D) (ci := 0) (v := .ref (da 1)) (C := RX0) (T := TX0) (N := 9) hx hb htb iX0 hown hK.1 hP 0 rfl rfl 1 (by decide) (htb _ k_191) (fun _ h9 => h9) rfl dX0_tryFrom_94 ?_
            refine lv_iload_n hx hb dX0_tryFrom_97 rfl (lv_at hl 2 rfl) ?_
            refine lv_iconst (v := (-1)) hx hb dX0_tryFrom_98 (by decide) ?_
            refine va_iast hx hb hK.1 hP hD hS 2 0 rfl rfl (g_in rfl (by omega) (by omega)) dX0_tryFrom_99 (fun H locs hP hD hS => ?_)
            have hP : va_P D vwCl [(dh, .inr (0, G0 da dlisted dshared dsailing dleastWorst_21)), ((da 0), .inl (E 0, 9, .inl df0)), ((da 1), .inl (E 0, 9, .inl (upd df1_21 (p0 : Int32).toNatClampNeg (-1)))), ((da 2), .inl (E 0, 9, .inl df2_21)), ((da 3), .inl (E 0, 3, .inl df3)), ((da 4), .inl (E 0, 3, .inl df4_21))] H := hP
            have hD := toW hP hD rfl
            refine lv_aload_n hx hb dX0_tryFrom_100 rfl (lv_at hl 1 rfl) ?_
            refine lv_iload_n hx hb dX0_tryFrom_101 rfl (lv_at hl 2 rfl) ?_
            refine lv_iconst (v := 1) hx hb dX0_tryFrom_102 (by decide) ?_
            refine lv_iadd hx hb dX0_tryFrom_103 ?_
            refine lv_topi (fun z_13 ez_13 => ?_)
            have jz_13 : z_13.toInt = p0.toInt + 1 := by rw [ez_13]; exact g_add rfl t_1 (by omega) (by omega)
            refine lv_iload_n hx hb dX0_tryFrom_104 rfl (lv_at hl 3 rfl) ?_
            refine lv_iconst (v := 1) hx hb dX0_tryFrom_105 (by decide) ?_
            refine lv_isub hx hb dX0_tryFrom_106 ?_
            refine lv_topi (fun z_14 ez_14 => ?_)
            have jz_14 : z_14.toInt = p1.toInt - 1 := by rw [ez_14]; exact g_sub rfl t_1 (by omega) (by omega)
            have hPc := hP.sub (ws' := [(dh, .inr (0, G0 da dlisted dshared dsailing dleastWorst_21)), ((da 0), .inl (E 0, 9, .inl df0)), ((da 1), .inl (E 0, 9, .inl (upd df1_21 (p0 : Int32).toNatClampNeg (-1)))), ((da 2), .inl (E 0, 9, .inl df2_21)), ((da 3), .inl (E 0, 3, .inl df3)), ((da 4), .inl (E 0, 3, .inl df4_21))]) [0, 1, 2, 3, 4, 5] rfl
            have hDc := hD.sub (ws' := [(dh, .inr (0, G0 da dlisted dshared dsailing dleastWorst_21)), ((da 0), .inl (E 0, 9, .inl df0)), ((da 1), .inl (E 0, 9, .inl (upd df1_21 (p0 : Int32).toNatClampNeg (-1)))), ((da 2), .inl (E 0, 9, .inl df2_21)), ((da 3), .inl (E 0, 3, .inl df3)), ((da 4), .inl (E 0, 3, .inl df4_21))]) [0, 1, 2, 3, 4, 5] (by decide) rfl
            refine aft_v (runMV (rest := []) (As := [.int z_13, .int z_14]) hx hb hml hown htb hK (g_X0_tryFrom_7 l D E dh da dlisted dshared dsailing dleastWorst_21 df0 (upd df1_21 (p0 : Int32).toNatClampNeg (-1)) df2_21 df3 df4_21 z_13 z_14 _ (by (try dsimp only); omega) (by (try dsimp only); omega)) ok_X0_tryFrom k_905 k_907 ks_34 k_7 k_908 ⟨(Nat.le_of_ble_eq_true rfl), (Nat.le_of_ble_eq_true rfl)⟩ ⟨(Nat.le_of_ble_eq_true rfl), (Nat.le_of_ble_eq_true rfl)⟩ hl.1 (Nat.le_of_ble_eq_true rfl) rfl rfl dX0_tryFrom_107 hPc hDc rfl rfl 0 rfl) hP hD hS hA [0, 1, 2, 3, 4, 5] [] (wr := ([] : va_W)) rfl rfl (by decide) (by decide) (fun u_17 H locs hw_16 hP hD hS => ?_)
            clear hPc hDc
            obtain ⟨w_18, w_19, w_20, w_21⟩ := u_17
            try dsimp only at hw_16
            have hP : va_P D vwCl [(dh, .inr (0, G0 da dlisted dshared dsailing w_21)), ((da 0), .inl (E 0, 9, .inl df0)), ((da 1), .inl (E 0, 9, .inl w_18)), ((da 2), .inl (E 0, 9, .inl w_19)), ((da 3), .inl (E 0, 3, .inl df3)), ((da 4), .inl (E 0, 3, .inl w_20))] H := hP
            have hD := toW hP hD rfl
            have hP9 := hP.sub (ws' := [(dh, .inr (0, G0 da dlisted dshared dsailing w_21)), ((da 0), .inl (E 0, 9, .inl df0)), ((da 1), .inl (E 0, 9, .inl w_18)), ((da 2), .inl (E 0, 9, .inl w_19)), ((da 3), .inl (E 0, 3, .inl df3)), ((da 4), .inl (E 0, 3, .inl w_20))]) [0, 1, 2, 3, 4, 5] rfl
            have hD9 := hD.sub (ws' := [(dh, .inr (0, G0 da dlisted dshared dsailing w_21)), ((da 0), .inl (E 0, 9, .inl df0)), ((da 1), .inl (E 0, 9, .inl w_18)), ((da 2), .inl (E 0, 9, .inl w_19)), ((da 3), .inl (E 0, 3, .inl df3)), ((da 4), .inl (E 0, 3, .inl w_20))]) [0, 1, 2, 3, 4, 5] (by decide) rfl
            exact W.vret hx hb hr (fun t ht hW => ⟨⟨(w_18, w_19, w_20, w_21), rfl, (by (try dsimp only); exact tf_go (by omega) (by omega) (by rw [show (dsailing : Int32).toNatClampNeg = (L3_21).toNatClampNeg from clampE (by omega) (by omega)]; exact v1_21) ez_13 ez_14 hw_16), by rw [ht]; exact hP9, hD9⟩, hS.F ht⟩) hS.2.2 dX0_tryFrom_110
        ·
          have ic_11 : L3_21.toInt < dsailing.toInt := by first | exact (g_lt rfl rfl).mp c_11 | (have h := mt (g_le rfl rfl).mpr c_11; omega)
          clear c_11
          refine lv_iload_n hx hb dX0_tryFrom_29 rfl (lv_at hl 0 rfl) ?_
          refine lv_aload_n hx hb dX0_tryFrom_30 rfl (lv_at hl 1 rfl) ?_
          refine va_get (D := D) (ci := 0) (v := .ref (da 4)) (C := RX0) (T := TX0) (N := 9) hx hb htb iX0 hown hK.1 hP 0 rfl rfl 4 (by decide) (htb _ k_195) (fun _ h9 => h9) rfl dX0_tryFrom_31 ?_
          refine va_alen hx hb hK.1 hP 5 0 rfl rfl (v := 3) (show Int32.ofNat 3 = 3 by decide) dX0_tryFrom_34 ?_
          refine lv_icmp_ge (tgt := 89) hx hb dX0_tryFrom_35 (by decide) (fun c_22 => absurd c_22 (by rw [g_le t_3 rfl]; omega)) (fun c_22 => ?_)
          refine lv_aload_n hx hb dX0_tryFrom_38 rfl (lv_at hl 1 rfl) ?_
          refine va_get (D := D) (ci := 0) (v := .ref (da 4)) (C := RX0) (T := TX0) (N := 9) hx hb htb iX0 hown hK.1 hP 0 rfl rfl 4 (by decide) (htb _ k_195) (fun _ h9 => h9) rfl dX0_tryFrom_39 ?_
          refine lv_iload_n hx hb dX0_tryFrom_42 rfl (lv_at hl 0 rfl) ?_
          refine va_iald hx hb hK.1 hP 5 0 rfl rfl (g_in rfl (by omega) (by omega)) dX0_tryFrom_43 ?_
          refine lv_topi (fun z_23 ez_23 => ?_)
          have kz_23 := congrArg Int32.toInt ez_23
          refine lv_iconst (v := 3) hx hb dX0_tryFrom_44 (by decide) ?_
          refine lv_icmp_ge (tgt := 83) hx hb dX0_tryFrom_45 (by decide) (fun c_24 => ?_) (fun c_24 => ?_)
          ·
            have ic_24 : 3 ≤ z_23.toInt := by first | exact (g_le t_3 rfl).mp c_24 | (have h := mt (g_lt rfl t_3).mpr c_24; omega)
            clear c_24
            obtain ⟨z_25, ez_25⟩ : ∃ y : Int32, y = L3_21 + 1 := ⟨_, rfl⟩
            have jz_25 : z_25.toInt = L3_21.toInt + 1 := by rw [ez_25]; exact g_add rfl t_1 (by omega) (by omega)
            refine lv_iinc (v := z_25) (lv' := [(3, .int z_25), (0, .ref dh), (1, .int p0), (2, .int p1)]) hx hb dX0_tryFrom_83 hl (k := 0) rfl (by rw [ez_25]; rfl) (by decide) rfl (fun ls hl => ?_)
            refine lv_goto (tgt := 21) hx hb dX0_tryFrom_86 (by decide) ?_
            exact ih_9 z_25 dleastWorst_21 df1_21 df2_21 df4_21 _ _ _ (by (try dsimp only); omega) (by (try dsimp only); omega) (by rw [clampS (by omega) jz_25, lpX_s, ← v1_21]; rw [shX_no (by (try dsimp only); rw [← ez_23]; omega)]) hP hD hS (lv_sub hl [0, 1, 2, 3] rfl)
          ·
            have ic_24 : z_23.toInt < 3 := by first | exact (g_lt rfl t_3).mp c_24 | (have h := mt (g_le t_3 rfl).mpr c_24; omega)
            clear c_24
            refine lv_aload_n hx hb dX0_tryFrom_48 rfl (lv_at hl 1 rfl) ?_
            refine va_get (D := D) (ci := 0) (v := .ref (da 1)) (C := RX0) (T := TX0) (N := 9) hx hb htb iX0 hown hK.1 hP 0 rfl rfl 1 (by decide) (htb _ k_191) (fun _ h9 => h9) rfl dX0_tryFrom_49 ?_
            refine lv_iload_n hx hb dX0_tryFrom_52 rfl (lv_at hl 2 rfl) ?_
            refine lv_iload_n hx hb dX0_tryFrom_53 rfl (lv_at hl 0 rfl) ?_
            refine va_iast hx hb hK.1 hP hD hS 2 0 rfl rfl (g_in rfl (by omega) (by omega)) dX0_tryFrom_54 (fun H locs hP hD hS => ?_)
            have hP : va_P D vwCl [(dh, .inr (0, G0 da dlisted dshared dsailing dleastWorst_21)), ((da 0), .inl (E 0, 9, .inl df0)), ((da 1), .inl (E 0, 9, .inl (upd df1_21 (p0 : Int32).toNatClampNeg L3_21))), ((da 2), .inl (E 0, 9, .inl df2_21)), ((da 3), .inl (E 0, 3, .inl df3)), ((da 4), .inl (E 0, 3, .inl df4_21))] H := hP
            have hD := toW hP hD rfl
            refine lv_aload_n hx hb dX0_tryFrom_55 rfl (lv_at hl 1 rfl) ?_
            refine va_get (D := D) (ci := 0) (v := .ref (da 4)) (C := RX0) (T := TX0) (N := 9) hx hb htb iX0 hown hK.1 hP 0 rfl rfl 4 (by decide) (htb _ k_195) (fun _ h9 => h9) rfl dX0_tryFrom_56 ?_
            refine lv_iload_n hx hb dX0_tryFrom_59 rfl (lv_at hl 0 rfl) ?_
            refine lv_dup2_11 hx hb dX0_tryFrom_60 rfl rfl ?_
            refine va_iald hx hb hK.1 hP 5 0 rfl rfl (g_in rfl (by omega) (by omega)) dX0_tryFrom_61 ?_
            refine lv_topi (fun z_26 ez_26 => ?_)
            have kz_26 := congrArg Int32.toInt ez_26
            refine lv_iconst (v := 1) hx hb dX0_tryFrom_62 (by decide) ?_
            refine lv_iadd hx hb dX0_tryFrom_63 ?_
            refine lv_topi (fun z_27 ez_27 => ?_)
            refine va_iast hx hb hK.1 hP hD hS 5 0 rfl rfl (g_in rfl (by omega) (by omega)) dX0_tryFrom_64 (fun H locs hP hD hS => ?_)
            have hP : va_P D vwCl [(dh, .inr (0, G0 da dlisted dshared dsailing dleastWorst_21)), ((da 0), .inl (E 0, 9, .inl df0)), ((da 1), .inl (E 0, 9, .inl (upd df1_21 (p0 : Int32).toNatClampNeg L3_21))), ((da 2), .inl (E 0, 9, .inl df2_21)), ((da 3), .inl (E 0, 3, .inl df3)), ((da 4), .inl (E 0, 3, .inl (upd df4_21 (L3_21 : Int32).toNatClampNeg z_27)))] H := hP
            have hD := toW hP hD rfl
            refine lv_aload_n hx hb dX0_tryFrom_65 rfl (lv_at hl 1 rfl) ?_
            refine lv_iload_n hx hb dX0_tryFrom_66 rfl (lv_at hl 2 rfl) ?_
            refine lv_iconst (v := 1) hx hb dX0_tryFrom_67 (by decide) ?_
            refine lv_iadd hx hb dX0_tryFrom_68 ?_
            refine lv_topi (fun z_28 ez_28 => ?_)
            have jz_28 : z_28.toInt = p0.toInt + 1 := by rw [ez_28]; exact g_add rfl t_1 (by omega) (by omega)
            refine lv_iload_n hx hb dX0_tryFrom_69 rfl (lv_at hl 3 rfl) ?_
            have hPc := hP.sub (ws' := [(dh, .inr (0, G0 da dlisted dshared dsailing dleastWorst_21)), ((da 0), .inl (E 0, 9, .inl df0)), ((da 1), .inl (E 0, 9, .inl (upd df1_21 (p0 : Int32).toNatClampNeg L3_21))), ((da 2), .inl (E 0, 9, .inl df2_21)), ((da 3), .inl (E 0, 3, .inl df3)), ((da 4), .inl (E 0, 3, .inl (upd df4_21 (L3_21 : Int32).toNatClampNeg z_27)))]) [0, 1, 2, 3, 4, 5] rfl
            have hDc := hD.sub (ws' := [(dh, .inr (0, G0 da dlisted dshared dsailing dleastWorst_21)), ((da 0), .inl (E 0, 9, .inl df0)), ((da 1), .inl (E 0, 9, .inl (upd df1_21 (p0 : Int32).toNatClampNeg L3_21))), ((da 2), .inl (E 0, 9, .inl df2_21)), ((da 3), .inl (E 0, 3, .inl df3)), ((da 4), .inl (E 0, 3, .inl (upd df4_21 (L3_21 : Int32).toNatClampNeg z_27)))]) [0, 1, 2, 3, 4, 5] (by decide) rfl
            refine aft_v (runMV (rest := []) (As := [.int z_28, .int p1]) hx hb hml hown htb hK (g_X0_tryFrom_7 l D E dh da dlisted dshared dsailing dleastWorst_21 df0 (upd df1_21 (p0 : Int32).toNatClampNeg L3_21) df2_21 df3 (upd df4_21 (L3_21 : Int32).toNatClampNeg z_27) z_28 p1 _ (by (try dsimp only); omega) (by (try dsimp only); omega)) ok_X0_tryFrom k_905 k_907 ks_34 k_7 k_908 ⟨(Nat.le_of_ble_eq_true rfl), (Nat.le_of_ble_eq_true rfl)⟩ ⟨(Nat.le_of_ble_eq_true rfl), (Nat.le_of_ble_eq_true rfl)⟩ hl.1 (Nat.le_of_ble_eq_true rfl) rfl rfl dX0_tryFrom_70 hPc hDc rfl rfl 0 rfl) hP hD hS hA [0, 1, 2, 3, 4, 5] [] (wr := ([] : va_W)) rfl rfl (by decide) (by decide) (fun u_31 H locs hw_30 hP hD hS => ?_)
            clear hPc hDc
            obtain ⟨w_32, w_33, w_34, w_35⟩ := u_31
            try dsimp only at hw_30
            have hP : va_P D vwCl [(dh, .inr (0, G0 da dlisted dshared dsailing w_35)), ((da 0), .inl (E 0, 9, .inl df0)), ((da 1), .inl (E 0, 9, .inl w_32)), ((da 2), .inl (E 0, 9, .inl w_33)), ((da 3), .inl (E 0, 3, .inl df3)), ((da 4), .inl (E 0, 3, .inl w_34))] H := hP
            have hD := toW hP hD rfl
            refine lv_aload_n hx hb dX0_tryFrom_73 rfl (lv_at hl 1 rfl) ?_
            refine va_get (D := D) (ci := 0) (v := .ref (da 4)) (C := RX0) (T := TX0) (N := 9) hx hb htb iX0 hown hK.1 hP 0 rfl rfl 4 (by decide) (htb _ k_195) (fun _ h9 => h9) rfl dX0_tryFrom_74 ?_
            refine lv_iload_n hx hb dX0_tryFrom_77 rfl (lv_at hl 0 rfl) ?_
            refine lv_dup2_11 hx hb dX0_tryFrom_78 rfl rfl ?_
            refine va_iald hx hb hK.1 hP 5 0 rfl rfl (g_in rfl (by omega) (by omega)) dX0_tryFrom_79 ?_
            refine lv_topi (fun z_36 ez_36 => ?_)
            have kz_36 := congrArg Int32.toInt ez_36
            refine lv_iconst (v := 1) hx hb dX0_tryFrom_80 (by decide) ?_
            refine lv_isub hx hb dX0_tryFrom_81 ?_
            refine lv_topi (fun z_37 ez_37 => ?_)
            refine va_iast hx hb hK.1 hP hD hS 5 0 rfl rfl (g_in rfl (by omega) (by omega)) dX0_tryFrom_82 (fun H locs hP hD hS => ?_)
            have hP : va_P D vwCl [(dh, .inr (0, G0 da dlisted dshared dsailing w_35)), ((da 0), .inl (E 0, 9, .inl df0)), ((da 1), .inl (E 0, 9, .inl w_32)), ((da 2), .inl (E 0, 9, .inl w_33)), ((da 3), .inl (E 0, 3, .inl df3)), ((da 4), .inl (E 0, 3, .inl (upd w_34 (L3_21 : Int32).toNatClampNeg z_37)))] H := hP
            have hD := toW hP hD rfl
            obtain ⟨z_38, ez_38⟩ : ∃ y : Int32, y = L3_21 + 1 := ⟨_, rfl⟩
            have jz_38 : z_38.toInt = L3_21.toInt + 1 := by rw [ez_38]; exact g_add rfl t_1 (by omega) (by omega)
            refine lv_iinc (v := z_38) (lv' := [(3, .int z_38), (0, .ref dh), (1, .int p0), (2, .int p1)]) hx hb dX0_tryFrom_83 hl (k := 0) rfl (by rw [ez_38]; rfl) (by decide) rfl (fun ls hl => ?_)
            refine lv_goto (tgt := 21) hx hb dX0_tryFrom_86 (by decide) ?_
            exact ih_9 z_38 w_35 w_32 w_33 (upd w_34 (L3_21 : Int32).toNatClampNeg z_37) _ _ _ (by (try dsimp only); omega) (by (try dsimp only); omega) (by rw [clampS (by omega) jz_38, lpX_s, ← v1_21]; rw [ez_37, ez_36]; refine shX_go (j := z_28) (by rw [← ez_23]; omega) ?_ ez_28; rw [ofN_c (by omega), ← ez_26, ← ez_27]; exact hw_30) hP hD hS (lv_sub hl [0, 1, 2, 3] rfl)
    exact loop_8 4 0 dleastWorst df1 df2 df4 _ _ _ (by have h0 := t_0; (try dsimp only); omega) (by have h0 := t_0; (try dsimp only); omega) (by rw [clamp_0]; rfl) hP hD hS (lv_sub hl [0, 1, 2, 3] rfl)
set_option maxHeartbeats 4000000 in
set_option maxRecDepth 100000 in
theorem g_X0_tryFrom_9 (l : Launch) (D : va_G) (E : Nat → Nat) (dh : Nat) (da : Nat → Nat) (dlisted : Int32) (dshared : Int32) (dsailing : Int32) (dleastWorst : Int32) (df0 : Nat → Int32) (df1 : Nat → Int32) (df2 : Nat → Int32) (df3 : Nat → Int32) (df4 : Nat → Int32) (p0 : Int32) (p1 : Int32) (sz : Nat) (hi_d : (0 ≤ dlisted.toInt ∧ dlisted.toInt ≤ 9) ∧ (0 ≤ dshared.toInt ∧ dshared.toInt ≤ 9) ∧ (0 ≤ dsailing.toInt ∧ dsailing.toInt ≤ 3)) (g0 : 0 ≤ p0.toInt ∧ p0.toInt ≤ 9) : Met l yX0_tryFrom (wl yX0_tryFrom cX0_tryFrom 4 none) (RM 12 0 0) (mu_P D E [.ref dh, .int p0, .int p1] [(dh, .inr (0, G0 da dlisted dshared dsailing dleastWorst)), ((da 0), .inl (E 0, 9, .inl df0)), ((da 1), .inl (E 0, 9, .inl df1)), ((da 2), .inl (E 0, 9, .inl df2)), ((da 3), .inl (E 0, 3, .inl df3)), ((da 4), .inl (E 0, 3, .inl df4))] sz) (va_Qv (fun (u : (Nat → Int32) × (Nat → Int32) × (Nat → Int32) × (Int32)) => (((u.1, u.2.2.1, u.2.2.2, u.2.1) : TS) = tfX df0 df3 dlisted dsailing 9 p0 p1 (df1, df4, dleastWorst, df2))) (mu_B D (va_A [(dh, .inr (0, G0 da dlisted dshared dsailing dleastWorst)), ((da 0), .inl (E 0, 9, .inl df0)), ((da 1), .inl (E 0, 9, .inl df1)), ((da 2), .inl (E 0, 9, .inl df2)), ((da 3), .inl (E 0, 3, .inl df3)), ((da 4), .inl (E 0, 3, .inl df4))] sz) (fun (u : (Nat → Int32) × (Nat → Int32) × (Nat → Int32) × (Int32)) => [(dh, .inr (0, G0 da dlisted dshared dsailing u.2.2.2)), ((da 0), .inl (E 0, 9, .inl df0)), ((da 1), .inl (E 0, 9, .inl u.1)), ((da 2), .inl (E 0, 9, .inl u.2.1)), ((da 3), .inl (E 0, 3, .inl df3)), ((da 4), .inl (E 0, 3, .inl u.2.2.1))])) (va_A [(dh, .inr (0, G0 da dlisted dshared dsailing dleastWorst)), ((da 0), .inl (E 0, 9, .inl df0)), ((da 1), .inl (E 0, 9, .inl df1)), ((da 2), .inl (E 0, 9, .inl df2)), ((da 3), .inl (E 0, 3, .inl df3)), ((da 4), .inl (E 0, 3, .inl df4))] sz)) 0 0 (va_A [(dh, .inr (0, G0 da dlisted dshared dsailing dleastWorst)), ((da 0), .inl (E 0, 9, .inl df0)), ((da 1), .inl (E 0, 9, .inl df1)), ((da 2), .inl (E 0, 9, .inl df2)), ((da 3), .inl (E 0, 3, .inl df3)), ((da 4), .inl (E 0, 3, .inl df4))] sz) := by
  refine Met.ofW (cc := cX0_tryFrom) (maxL := 4) (ret := none) (by decide) rfl ?_
  intro p e s m args below meth c s₁ B hml hv
  obtain ⟨rfl, hsz, hP, hK, hD0⟩ := hv
  have hx := B.exec; have hb := B.bytes; have hr := B.returns
  have hts := atoms_spec (ws := wl yX0_tryFrom cX0_tryFrom 4 none) B.pre
  have htb : ∀ w ∈ tb, w.before _ s = true := fun w h => hts w (List.mem_cons_of_mem _ h)
  have hown : s.vm.findClass RX0 = some m.cls := findClass_of_methodNamed B.named
  have hlocks := B.notSynchronized
  subst hsz
  have hD := hD0.self (sz := s.heap.size)
  generalize hAe : va_A [(dh, .inr (0, G0 da dlisted dshared dsailing dleastWorst)), ((da 0), .inl (E 0, 9, .inl df0)), ((da 1), .inl (E 0, 9, .inl df1)), ((da 2), .inl (E 0, 9, .inl df2)), ((da 3), .inl (E 0, 3, .inl df3)), ((da 4), .inl (E 0, 3, .inl df4))] s.heap.size = A at hD ⊢
  have hA : ∀ q : Nat, s.heap.size ≤ q → A q := fun q h => by rw [← hAe]; exact Or.inr h
  have hS : va_S A s.heap s.heap [] := va_S.rf
  have hP : va_P D vwCl [(dh, .inr (0, G0 da dlisted dshared dsailing dleastWorst)), ((da 0), .inl (E 0, 9, .inl df0)), ((da 1), .inl (E 0, 9, .inl df1)), ((da 2), .inl (E 0, 9, .inl df2)), ((da 3), .inl (E 0, 3, .inl df3)), ((da 4), .inl (E 0, 3, .inl df4))] s.heap := hP
  have hl := lv_entry ([.ref dh, .int p0, .int p1]) (n := 4) (Nat.le_of_ble_eq_true rfl)
  rw [lg_entry_eq]
  generalize (lg_sl ([.ref dh, .int p0, .int p1]) ++ List.replicate (4 - (lg_sl ([.ref dh, .int p0, .int p1])).length) Slot.unset).toArray = ls at hl ⊢
  have hl : lv_has ls 4 [(0, .ref dh), (1, .int p0), (2, .int p1)] := hl
  have lo_p0 := i_lo p0; have hi_p0 := i_hi p0
  have lo_p1 := i_lo p1; have hi_p1 := i_hi p1
  refine lv_iload_n hx hb dX0_tryFrom_0 rfl (lv_at hl 1 rfl) ?_
  refine lv_aload_n hx hb dX0_tryFrom_1 rfl (lv_at hl 0 rfl) ?_
  refine va_get (D := D) (ci := 0) (v := .int dlisted) (C := RX0) (T := TX0) (N := 9) hx hb htb iX0 hown hK.1 hP 0 rfl rfl 5 (by decide) (htb _ k_196) (fun _ h9 => h9) rfl dX0_tryFrom_2 ?_
  refine lv_icmp_ge (tgt := 14) hx hb dX0_tryFrom_5 (by decide) (fun c_1 => ?_) (fun c_1 => ?_)
  ·
    have ic_1 : dlisted.toInt ≤ p0.toInt := by first | exact (g_le rfl rfl).mp c_1 | (have h := mt (g_lt rfl rfl).mpr c_1; omega)
    clear c_1
    refine lv_aload_n hx hb dX0_tryFrom_14 rfl (lv_at hl 0 rfl) ?_
    have hPc := hP.sub (ws' := [(dh, .inr (0, G0 da dlisted dshared dsailing dleastWorst)), ((da 0), .inl (E 0, 9, .inl df0)), ((da 1), .inl (E 0, 9, .inl df1)), ((da 2), .inl (E 0, 9, .inl df2)), ((da 3), .inl (E 0, 3, .inl df3))]) [0, 1, 2, 3, 4] rfl
    have hDc := hD.sub (ws' := [(dh, .inr (0, G0 da dlisted dshared dsailing dleastWorst)), ((da 0), .inl (E 0, 9, .inl df0)), ((da 1), .inl (E 0, 9, .inl df1)), ((da 2), .inl (E 0, 9, .inl df2)), ((da 3), .inl (E 0, 3, .inl df3))]) [0, 1, 2, 3, 4] (by decide) rfl
    refine aft_v (runMV (rest := []) (As := []) hx hb hml hown htb hK (g_X0_keepIfBetter l D E dh da dlisted dshared dsailing dleastWorst df0 df1 df2 df3 _ (by (try dsimp only); omega)) ok_X0_keepIfBetter k_909 k_911 ks_35 k_7 k_912 ⟨(Nat.le_of_ble_eq_true rfl), (Nat.le_of_ble_eq_true rfl)⟩ ⟨(Nat.le_of_ble_eq_true rfl), (Nat.le_of_ble_eq_true rfl)⟩ hl.1 (Nat.le_of_ble_eq_true rfl) rfl rfl dX0_tryFrom_15 hPc hDc rfl rfl 0 rfl) hP hD hS hA [0, 1, 2, 3, 4] [5] (wr := [((da 4), .inl (E 0, 3, .inl df4))]) rfl rfl (by decide) (by decide) (fun u_4 H locs hw_3 hP hD hS => ?_)
    clear hPc hDc
    obtain ⟨w_5, w_6⟩ := u_4
    try dsimp only at hw_3
    have hP : va_P D vwCl [((da 4), .inl (E 0, 3, .inl df4)), (dh, .inr (0, G0 da dlisted dshared dsailing w_6)), ((da 0), .inl (E 0, 9, .inl df0)), ((da 1), .inl (E 0, 9, .inl df1)), ((da 2), .inl (E 0, 9, .inl w_5)), ((da 3), .inl (E 0, 3, .inl df3))] H := hP
    have hD := toW hP hD rfl
    have hP9 := hP.sub (ws' := [(dh, .inr (0, G0 da dlisted dshared dsailing w_6)), ((da 0), .inl (E 0, 9, .inl df0)), ((da 1), .inl (E 0, 9, .inl df1)), ((da 2), .inl (E 0, 9, .inl w_5)), ((da 3), .inl (E 0, 3, .inl df3)), ((da 4), .inl (E 0, 3, .inl df4))]) [1, 2, 3, 4, 5, 0] rfl
    have hD9 := hD.sub (ws' := [(dh, .inr (0, G0 da dlisted dshared dsailing w_6)), ((da 0), .inl (E 0, 9, .inl df0)), ((da 1), .inl (E 0, 9, .inl df1)), ((da 2), .inl (E 0, 9, .inl w_5)), ((da 3), .inl (E 0, 3, .inl df3)), ((da 4), .inl (E 0, 3, .inl df4))]) [1, 2, 3, 4, 5, 0] (by decide) rfl
    exact W.vret hx hb hr (fun t ht hW => ⟨⟨(df1, w_5, df4, w_6), rfl, (by (try dsimp only); rw [tfX_end (by omega)]; unfold kpX; (try dsimp only); rw [← hw_3]), by rw [ht]; exact hP9, hD9⟩, hS.F ht⟩) hS.2.2 dX0_tryFrom_18
  ·
    have ic_1 : p0.toInt < dlisted.toInt := by first | exact (g_lt rfl rfl).mp c_1 | (have h := mt (g_le rfl rfl).mpr c_1; omega)
    clear c_1
    refine lv_iload_n hx hb dX0_tryFrom_8 rfl (lv_at hl 1 rfl) ?_
    refine lv_bipush (v := 9) hx hb dX0_tryFrom_9 (by decide) ?_
    refine lv_icmp_lt (tgt := 19) hx hb dX0_tryFrom_11 (by decide) (fun c_7 => ?_) (fun c_7 => absurd (by rw [g_lt rfl t_9]; omega) c_7)
    refine lv_iconst (v := 0) hx hb dX0_tryFrom_19 (by decide) ?_
    refine lv_istore_n (lv' := [(3, .int 0), (0, .ref dh), (1, .int p0), (2, .int p1)]) hx hb dX0_tryFrom_20 rfl hl (by decide) rfl (fun ls hl => ?_)
    have loop_8 : ∀ (N_10 : Nat) (L3_21 : Int32) (dleastWorst_21 : Int32) (df1_21 : Nat → Int32) (df2_21 : Nat → Int32) (df4_21 : Nat → Int32) (H : Heap) (locs : List Loc) (ls : Array Slot), 3 - L3_21.toInt < (N_10 : Int) → (0 ≤ L3_21.toInt ∧ L3_21.toInt ≤ dsailing.toInt) → (((df1_21, df4_21, dleastWorst_21, df2_21) : TS) = lpX (tfX df0 df3 dlisted dsailing 8) p0 p1 (df1, df4, dleastWorst, df2) (L3_21).toNatClampNeg) → va_P D vwCl [(dh, .inr (0, G0 da dlisted dshared dsailing dleastWorst_21)), ((da 0), .inl (E 0, 9, .inl df0)), ((da 1), .inl (E 0, 9, .inl df1_21)), ((da 2), .inl (E 0, 9, .inl df2_21)), ((da 3), .inl (E 0, 3, .inl df3)), ((da 4), .inl (E 0, 3, .inl df4_21))] H → va_D A [(dh, .inr (0, G0 da dlisted dshared dsailing dleastWorst_21)), ((da 0), .inl (E 0, 9, .inl df0)), ((da 1), .inl (E 0, 9, .inl df1_21)), ((da 2), .inl (E 0, 9, .inl df2_21)), ((da 3), .inl (E 0, 3, .inl df3)), ((da 4), .inl (E 0, 3, .inl df4_21))] → va_S A s.heap H locs → lv_has ls 4 [(3, .int L3_21), (0, .ref dh), (1, .int p0), (2, .int p1)] → W p l e (headSpec (wl yX0_tryFrom cX0_tryFrom 4 none) (RM 12 0 0)).room s m [Value.ref dh, .int p0, .int p1].toArray below meth c H locs 0 0 (MQ below (va_Qv (fun (u : (Nat → Int32) × (Nat → Int32) × (Nat → Int32) × (Int32)) => (((u.1, u.2.2.1, u.2.2.2, u.2.1) : TS) = tfX df0 df3 dlisted dsailing 9 p0 p1 (df1, df4, dleastWorst, df2))) (mu_B D A (fun (u : (Nat → Int32) × (Nat → Int32) × (Nat → Int32) × (Int32)) => [(dh, .inr (0, G0 da dlisted dshared dsailing u.2.2.2)), ((da 0), .inl (E 0, 9, .inl df0)), ((da 1), .inl (E 0, 9, .inl u.1)), ((da 2), .inl (E 0, 9, .inl u.2.1)), ((da 3), .inl (E 0, 3, .inl df3)), ((da 4), .inl (E 0, 3, .inl u.2.2.1))])) A) [Value.ref dh, .int p0, .int p1].toArray s 0 0 A) (F0 m 21 ls []) := by
      intro N_10
      induction N_10 with
      | zero => intro L3_21 dleastWorst_21 df1_21 df2_21 df4_21 H locs ls hm v0_21 v1_21 _ _ _ _; exfalso; omega
      | succ N_10 ih_9 =>
        intro L3_21 dleastWorst_21 df1_21 df2_21 df4_21 H locs ls hm v0_21 v1_21 hP hD hS hl
        have lo_L3_21 := i_lo L3_21; have hi_L3_21 := i_hi L3_21
        have lo_dleastWorst_21 := i_lo dleastWorst_21; have hi_dleastWorst_21 := i_hi dleastWorst_21
        refine lv_iload_n hx hb dX0_tryFrom_21 rfl (lv_at hl 0 rfl) ?_
        refine lv_aload_n hx hb dX0_tryFrom_22 rfl (lv_at hl 1 rfl) ?_
        refine va_get (D := D) (ci := 0) (v := .int dsailing) (C := RX0) (T := TX0) (N := 9) hx hb htb iX0 hown hK.1 hP 0 rfl rfl 7 (by decide) (htb _ k_200) (fun _ h9 => h9) rfl dX0_tryFrom_23 ?_
        refine lv_icmp_ge (tgt := 89) hx hb dX0_tryFrom_26 (by decide) (fun c_11 => ?_) (fun c_11 => ?_)
        ·
          have ic_11 : dsailing.toInt ≤ L3_21.toInt := by first | exact (g_le rfl rfl).mp c_11 | (have h := mt (g_lt rfl rfl).mpr c_11; omega)
          clear c_11
          refine lv_iload_n hx hb dX0_tryFrom_89 rfl (lv_at hl 3 rfl) ?_
          refine lv_if_le (tgt := 110) hx hb dX0_tryFrom_90 (by decide) (fun c_12 => ?_) (fun c_12 => ?_)
          ·
            have ic_12 : p1.toInt ≤ 0 := by first | exact (g_le rfl t_0).mp c_12 | (have h := mt (g_lt t_0 rfl).mpr c_12; omega)
            clear c_12
            have hP9 := hP.sub (ws' := [(dh, .inr (0, G0 da dlisted dshared dsailing dleastWorst_21)), ((da 0), .inl (E 0, 9, .inl df0)), ((da 1), .inl (E 0, 9, .inl df1_21)), ((da 2), .inl (E 0, 9, .inl df2_21)), ((da 3), .inl (E 0, 3, .inl df3)), ((da 4), .inl (E 0, 3, .inl df4_21))]) [0, 1, 2, 3, 4, 5] rfl
            have hD9 := hD.sub (ws' := [(dh, .inr (0, G0 da dlisted dshared dsailing dleastWorst_21)), ((da 0), .inl (E 0, 9, .inl df0)), ((da 1), .inl (E 0, 9, .inl df1_21)), ((da 2), .inl (E 0, 9, .inl df2_21)), ((da 3), .inl (E 0, 3, .inl df3)), ((da 4), .inl (E 0, 3, .inl df4_21))]) [0, 1, 2, 3, 4, 5] (by decide) rfl
            exact W.vret hx hb hr (fun t ht hW => ⟨⟨(df1_21, df2_21, df4_21, dleastWorst_21), rfl, (by (try dsimp only); rw [tfX_no (by omega) (by omega), show (dsailing : Int32).toNatClampNeg = (L3_21).toNatClampNeg from clampE (by omega) (by omega), ← v1_21]), by rw [ht]; exact hP9, hD9⟩, hS.F ht⟩) hS.2.2 dX0_tryFrom_110
          ·
            have ic_12 : 0 < p1.toInt := by first | exact (g_lt t_0 rfl).mp c_12 | (have h := mt (g_le rfl t_0).mpr c_12; omega)
            clear c_12
            refine lv_aload_n hx hb dX0_tryFrom_93 rfl (lv_at hl 1 rfl) ?_
            refine va_get (D := D) (ci := 0) (v := .ref (da 1)) (C := RX0) (T := TX0) (N := 9) hx hb htb iX0 hown hK.1 hP 0 rfl rfl 1 (by decide) (htb _ k_191) (fun _ h9 => h9) rfl dX0_tryFrom_94 ?_
            refine lv_iload_n hx hb dX0_tryFrom_97 rfl (lv_at hl 2 rfl) ?_
            refine lv_iconst (v := (-1)) hx hb dX0_tryFrom_98 (by decide) ?_
            refine va_iast hx hb hK.1 hP hD hS 2 0 rfl rfl (g_in rfl (by omega) (by omega)) dX0_tryFrom_99 (fun H locs hP hD hS => ?_)
            have hP : va_P D vwCl [(dh, .inr (0, G0 da dlisted dshared dsailing dleastWorst_21)), ((da 0), .inl (E 0, 9, .inl df0)), ((da 1), .inl (E 0, 9, .inl (upd df1_21 (p0 : Int32).toNatClampNeg (-1)))), ((da 2), .inl (E 0, 9, .inl df2_21)), ((da 3), .inl (E 0, 3, .inl df3)), ((da 4), .inl (E 0, 3, .inl df4_21))] H := hP
            have hD := toW hP hD rfl
            refine lv_aload_n hx hb dX0_tryFrom_100 rfl (lv_at hl 1 rfl) ?_
            refine lv_iload_n hx hb dX0_tryFrom_101 rfl (lv_at hl 2 rfl) ?_
            refine lv_iconst (v := 1) hx hb dX0_tryFrom_102 (by decide) ?_
            refine lv_iadd hx hb dX0_tryFrom_103 ?_
            refine lv_topi (fun z_13 ez_13 => ?_)
            have jz_13 : z_13.toInt = p0.toInt + 1 := by rw [ez_13]; exact g_add rfl t_1 (by omega) (by omega)
            refine lv_iload_n hx hb dX0_tryFrom_104 rfl (lv_at hl 3 rfl) ?_
            refine lv_iconst (v := 1) hx hb dX0_tryFrom_105 (by decide) ?_
            refine lv_isub hx hb dX0_tryFrom_106 ?_
            refine lv_topi (fun z_14 ez_14 => ?_)
            have jz_14 : z_14.toInt = p1.toInt - 1 := by rw [ez_14]; exact g_sub rfl t_1 (by omega) (by omega)
            have hPc := hP.sub (ws' := [(dh, .inr (0, G0 da dlisted dshared dsailing dleastWorst_21)), ((da 0), .inl (E 0, 9, .inl df0)), ((da 1), .inl (E 0, 9, .inl (upd df1_21 (p0 : Int32).toNatClampNeg (-1)))), ((da 2), .inl (E 0, 9, .inl df2_21)), ((da 3), .inl (E 0, 3, .inl df3)), ((da 4), .inl (E 0, 3, .inl df4_21))]) [0, 1, 2, 3, 4, 5] rfl
            have hDc := hD.sub (ws' := [(dh, .inr (0, G0 da dlisted dshared dsailing dleastWorst_21)), ((da 0), .inl (E 0, 9, .inl df0)), ((da 1), .inl (E 0, 9, .inl (upd df1_21 (p0 : Int32).toNatClampNeg (-1)))), ((da 2), .inl (E 0, 9, .inl df2_21)), ((da 3), .inl (E 0, 3, .inl df3)), ((da 4), .inl (E 0, 3, .inl df4_21))]) [0, 1, 2, 3, 4, 5] (by decide) rfl
            refine aft_v (runMV (rest := []) (As := [.int z_13, .int z_14]) hx hb hml hown htb hK (g_X0_tryFrom_8 l D E dh da dlisted dshared dsailing dleastWorst_21 df0 (upd df1_21 (p0 : Int32).toNatClampNeg (-1)) df2_21 df3 df4_21 z_13 z_14 _ (by (try dsimp only); omega) (by (try dsimp only); omega)) ok_X0_tryFrom k_905 k_907 ks_34 k_7 k_908 ⟨(Nat.le_of_ble_eq_true rfl), (Nat.le_of_ble_eq_true rfl)⟩ ⟨(Nat.le_of_ble_eq_true rfl), (Nat.le_of_ble_eq_true rfl)⟩ hl.1 (Nat.le_of_ble_eq_true rfl) rfl rfl dX0_tryFrom_107 hPc hDc rfl rfl 0 rfl) hP hD hS hA [0, 1, 2, 3, 4, 5] [] (wr := ([] : va_W)) rfl rfl (by decide) (by decide) (fun u_17 H locs hw_16 hP hD hS => ?_)
            clear hPc hDc
            obtain ⟨w_18, w_19, w_20, w_21⟩ := u_17
            try dsimp only at hw_16
            have hP : va_P D vwCl [(dh, .inr (0, G0 da dlisted dshared dsailing w_21)), ((da 0), .inl (E 0, 9, .inl df0)), ((da 1), .inl (E 0, 9, .inl w_18)), ((da 2), .inl (E 0, 9, .inl w_19)), ((da 3), .inl (E 0, 3, .inl df3)), ((da 4), .inl (E 0, 3, .inl w_20))] H := hP
            have hD := toW hP hD rfl
            have hP9 := hP.sub (ws' := [(dh, .inr (0, G0 da dlisted dshared dsailing w_21)), ((da 0), .inl (E 0, 9, .inl df0)), ((da 1), .inl (E 0, 9, .inl w_18)), ((da 2), .inl (E 0, 9, .inl w_19)), ((da 3), .inl (E 0, 3, .inl df3)), ((da 4), .inl (E 0, 3, .inl w_20))]) [0, 1, 2, 3, 4, 5] rfl
            have hD9 := hD.sub (ws' := [(dh, .inr (0, G0 da dlisted dshared dsailing w_21)), ((da 0), .inl (E 0, 9, .inl df0)), ((da 1), .inl (E 0, 9, .inl w_18)), ((da 2), .inl (E 0, 9, .inl w_19)), ((da 3), .inl (E 0, 3, .inl df3)), ((da 4), .inl (E 0, 3, .inl w_20))]) [0, 1, 2, 3, 4, 5] (by decide) rfl
            exact W.vret hx hb hr (fun t ht hW => ⟨⟨(w_18, w_19, w_20, w_21), rfl, (by (try dsimp only); exact tf_go (by omega) (by omega) (by rw [show (dsailing : Int32).toNatClampNeg = (L3_21).toNatClampNeg from clampE (by omega) (by omega)]; exact v1_21) ez_13 ez_14 hw_16), by rw [ht]; exact hP9, hD9⟩, hS.F ht⟩) hS.2.2 dX0_tryFrom_110
        ·
          have ic_11 : L3_21.toInt < dsailing.toInt := by first | exact (g_lt rfl rfl).mp c_11 | (have h := mt (g_le rfl rfl).mpr c_11; omega)
          clear c_11
          refine lv_iload_n hx hb dX0_tryFrom_29 rfl (lv_at hl 0 rfl) ?_
          refine lv_aload_n hx hb dX0_tryFrom_30 rfl (lv_at hl 1 rfl) ?_
          refine va_get (D := D) (ci := 0) (v := .ref (da 4)) (C := RX0) (T := TX0) (N := 9) hx hb htb iX0 hown hK.1 hP 0 rfl rfl 4 (by decide) (htb _ k_195) (fun _ h9 => h9) rfl dX0_tryFrom_31 ?_
          refine va_alen hx hb hK.1 hP 5 0 rfl rfl (v := 3) (show Int32.ofNat 3 = 3 by decide) dX0_tryFrom_34 ?_
          refine lv_icmp_ge (tgt := 89) hx hb dX0_tryFrom_35 (by decide) (fun c_22 => absurd c_22 (by rw [g_le t_3 rfl]; omega)) (fun c_22 => ?_)
          refine lv_aload_n hx hb dX0_tryFrom_38 rfl (lv_at hl 1 rfl) ?_
          refine va_get (D := D) (ci := 0) (v := .ref (da 4)) (C := RX0) (T := TX0) (N := 9) hx hb htb iX0 hown hK.1 hP 0 rfl rfl 4 (by decide) (htb _ k_195) (fun _ h9 => h9) rfl dX0_tryFrom_39 ?_
          refine lv_iload_n hx hb dX0_tryFrom_42 rfl (lv_at hl 0 rfl) ?_
          refine va_iald hx hb hK.1 hP 5 0 rfl rfl (g_in rfl (by omega) (by omega)) dX0_tryFrom_43 ?_
          refine lv_topi (fun z_23 ez_23 => ?_)
          have kz_23 := congrArg Int32.toInt ez_23
          refine lv_iconst (v := 3) hx hb dX0_tryFrom_44 (by decide) ?_
          refine lv_icmp_ge (tgt := 83) hx hb dX0_tryFrom_45 (by decide) (fun c_24 => ?_) (fun c_24 => ?_)
          ·
            have ic_24 : 3 ≤ z_23.toInt := by first | exact (g_le t_3 rfl).mp c_24 | (have h := mt (g_lt rfl t_3).mpr c_24; omega)
            clear c_24
            obtain ⟨z_25, ez_25⟩ : ∃ y : Int32, y = L3_21 + 1 := ⟨_, rfl⟩
            have jz_25 : z_25.toInt = L3_21.toInt + 1 := by rw [ez_25]; exact g_add rfl t_1 (by omega) (by omega)
            refine lv_iinc (v := z_25) (lv' := [(3, .int z_25), (0, .ref dh), (1, .int p0), (2, .int p1)]) hx hb dX0_tryFrom_83 hl (k := 0) rfl (by rw [ez_25]; rfl) (by decide) rfl (fun ls hl => ?_)
            refine lv_goto (tgt := 21) hx hb dX0_tryFrom_86 (by decide) ?_
            exact ih_9 z_25 dleastWorst_21 df1_21 df2_21 df4_21 _ _ _ (by (try dsimp only); omega) (by (try dsimp only); omega) (by rw [clampS (by omega) jz_25, lpX_s, ← v1_21]; rw [shX_no (by (try dsimp only); rw [← ez_23]; omega)]) hP hD hS (lv_sub hl [0, 1, 2, 3] rfl)
          ·
            have ic_24 : z_23.toInt < 3 := by first | exact (g_lt rfl t_3).mp c_24 | (have h := mt (g_le t_3 rfl).mpr c_24; omega)
            clear c_24
            refine lv_aload_n hx hb dX0_tryFrom_48 rfl (lv_at hl 1 rfl) ?_
            refine va_get (D := D) (ci := 0) (v := .ref (da 1)) (C := RX0) (T := TX0) (N := 9) hx hb htb iX0 hown hK.1 hP 0 rfl rfl 1 (by decide) (htb _ k_191) (fun _ h9 => h9) rfl dX0_tryFrom_49 ?_
            refine lv_iload_n hx hb dX0_tryFrom_52 rfl (lv_at hl 2 rfl) ?_
            refine lv_iload_n hx hb dX0_tryFrom_53 rfl (lv_at hl 0 rfl) ?_
            refine va_iast hx hb hK.1 hP hD hS 2 0 rfl rfl (g_in rfl (by omega) (by omega)) dX0_tryFrom_54 (fun H locs hP hD hS => ?_)
            have hP : va_P D vwCl [(dh, .inr (0, G0 da dlisted dshared dsailing dleastWorst_21)), ((da 0), .inl (E 0, 9, .inl df0)), ((da 1), .inl (E 0, 9, .inl (upd df1_21 (p0 : Int32).toNatClampNeg L3_21))), ((da 2), .inl (E 0, 9, .inl df2_21)), ((da 3), .inl (E 0, 3, .inl df3)), ((da 4), .inl (E 0, 3, .inl df4_21))] H := hP
            have hD := toW hP hD rfl
            refine lv_aload_n hx hb dX0_tryFrom_55 rfl (lv_at hl 1 rfl) ?_
            refine va_get (D := D) (ci := 0) (v := .ref (da 4)) (C := RX0) (T := TX0) (N := 9) hx hb htb iX0 hown hK.1 hP 0 rfl rfl 4 (by decide) (htb _ k_195) (fun _ h9 => h9) rfl dX0_tryFrom_56 ?_
            refine lv_iload_n hx hb dX0_tryFrom_59 rfl (lv_at hl 0 rfl) ?_
            refine lv_dup2_11 hx hb dX0_tryFrom_60 rfl rfl ?_
            refine va_iald hx hb hK.1 hP 5 0 rfl rfl (g_in rfl (by omega) (by omega)) dX0_tryFrom_61 ?_
            refine lv_topi (fun z_26 ez_26 => ?_)
            have kz_26 := congrArg Int32.toInt ez_26
            refine lv_iconst (v := 1) hx hb dX0_tryFrom_62 (by decide) ?_
            refine lv_iadd hx hb dX0_tryFrom_63 ?_
            refine lv_topi (fun z_27 ez_27 => ?_)
            refine va_iast hx hb hK.1 hP hD hS 5 0 rfl rfl (g_in rfl (by omega) (by omega)) dX0_tryFrom_64 (fun H locs hP hD hS => ?_)
            have hP : va_P D vwCl [(dh, .inr (0, G0 da dlisted dshared dsailing dleastWorst_21)), ((da 0), .inl (E 0, 9, .inl df0)), ((da 1), .inl (E 0, 9, .inl (upd df1_21 (p0 : Int32).toNatClampNeg L3_21))), ((da 2), .inl (E 0, 9, .inl df2_21)), ((da 3), .inl (E 0, 3, .inl df3)), ((da 4), .inl (E 0, 3, .inl (upd df4_21 (L3_21 : Int32).toNatClampNeg z_27)))] H := hP
            have hD := toW hP hD rfl
            refine lv_aload_n hx hb dX0_tryFrom_65 rfl (lv_at hl 1 rfl) ?_
            refine lv_iload_n hx hb dX0_tryFrom_66 rfl (lv_at hl 2 rfl) ?_
            refine lv_iconst (v := 1) hx hb dX0_tryFrom_67 (by decide) ?_
            refine lv_iadd hx hb dX0_tryFrom_68 ?_
            refine lv_topi (fun z_28 ez_28 => ?_)
            have jz_28 : z_28.toInt = p0.toInt + 1 := by rw [ez_28]; exact g_add rfl t_1 (by omega) (by omega)
            refine lv_iload_n hx hb dX0_tryFrom_69 rfl (lv_at hl 3 rfl) ?_
            have hPc := hP.sub (ws' := [(dh, .inr (0, G0 da dlisted dshared dsailing dleastWorst_21)), ((da 0), .inl (E 0, 9, .inl df0)), ((da 1), .inl (E 0, 9, .inl (upd df1_21 (p0 : Int32).toNatClampNeg L3_21))), ((da 2), .inl (E 0, 9, .inl df2_21)), ((da 3), .inl (E 0, 3, .inl df3)), ((da 4), .inl (E 0, 3, .inl (upd df4_21 (L3_21 : Int32).toNatClampNeg z_27)))]) [0, 1, 2, 3, 4, 5] rfl
            have hDc := hD.sub (ws' := [(dh, .inr (0, G0 da dlisted dshared dsailing dleastWorst_21)), ((da 0), .inl (E 0, 9, .inl df0)), ((da 1), .inl (E 0, 9, .inl (upd df1_21 (p0 : Int32).toNatClampNeg L3_21))), ((da 2), .inl (E 0, 9, .inl df2_21)), ((da 3), .inl (E 0, 3, .inl df3)), ((da 4), .inl (E 0, 3, .inl (upd df4_21 (L3_21 : Int32).toNatClampNeg z_27)))]) [0, 1, 2, 3, 4, 5] (by decide) rfl
            refine aft_v (runMV (rest := []) (As := [.int z_28, .int p1]) hx hb hml hown htb hK (g_X0_tryFrom_8 l D E dh da dlisted dshared dsailing dleastWorst_21 df0 (upd df1_21 (p0 : Int32).toNatClampNeg L3_21) df2_21 df3 (upd df4_21 (L3_21 : Int32).toNatClampNeg z_27) z_28 p1 _ (by (try dsimp only); omega) (by (try dsimp only); omega)) ok_X0_tryFrom k_905 k_907 ks_34 k_7 k_908 ⟨(Nat.le_of_ble_eq_true rfl), (Nat.le_of_ble_eq_true rfl)⟩ ⟨(Nat.le_of_ble_eq_true rfl), (Nat.le_of_ble_eq_true rfl)⟩ hl.1 (Nat.le_of_ble_eq_true rfl) rfl rfl dX0_tryFrom_70 hPc hDc rfl rfl 0 rfl) hP hD hS hA [0, 1, 2, 3, 4, 5] [] (wr := ([] : va_W)) rfl rfl (by decide) (by decide) (fun u_31 H locs hw_30 hP hD hS => ?_)
            clear hPc hDc
            obtain ⟨w_32, w_33, w_34, w_35⟩ := u_31
            try dsimp only at hw_30
            have hP : va_P D vwCl [(dh, .inr (0, G0 da dlisted dshared dsailing w_35)), ((da 0), .inl (E 0, 9, .inl df0)), ((da 1), .inl (E 0, 9, .inl w_32)), ((da 2), .inl (E 0, 9, .inl w_33)), ((da 3), .inl (E 0, 3, .inl df3)), ((da 4), .inl (E 0, 3, .inl w_34))] H := hP
            have hD := toW hP hD rfl
            refine lv_aload_n hx hb dX0_tryFrom_73 rfl (lv_at hl 1 rfl) ?_
            refine va_get (D := D) (ci := 0) (v := .ref (da 4)) (C := RX0) (T := TX0) (N := 9) hx hb htb iX0 hown hK.1 hP 0 rfl rfl 4 (by decide) (htb _ k_195) (fun _ h9 => h9) rfl dX0_tryFrom_74 ?_
            refine lv_iload_n hx hb dX0_tryFrom_77 rfl (lv_at hl 0 rfl) ?_
            refine lv_dup2_11 hx hb dX0_tryFrom_78 rfl rfl ?_
            refine va_iald hx hb hK.1 hP 5 0 rfl rfl (g_in rfl (by omega) (by omega)) dX0_tryFrom_79 ?_
            refine lv_topi (fun z_36 ez_36 => ?_)
            have kz_36 := congrArg Int32.toInt ez_36
            refine lv_iconst (v := 1) hx hb dX0_tryFrom_80 (by decide) ?_
            refine lv_isub hx hb dX0_tryFrom_81 ?_
            refine lv_topi (fun z_37 ez_37 => ?_)
            refine va_iast hx hb hK.1 hP hD hS 5 0 rfl rfl (g_in rfl (by omega) (by omega)) dX0_tryFrom_82 (fun H locs hP hD hS => ?_)
            have hP : va_P D vwCl [(dh, .inr (0, G0 da dlisted dshared dsailing w_35)), ((da 0), .inl (E 0, 9, .inl df0)), ((da 1), .inl (E 0, 9, .inl w_32)), ((da 2), .inl (E 0, 9, .inl w_33)), ((da 3), .inl (E 0, 3, .inl df3)), ((da 4), .inl (E 0, 3, .inl (upd w_34 (L3_21 : Int32).toNatClampNeg z_37)))] H := hP
            have hD := toW hP hD rfl
            obtain ⟨z_38, ez_38⟩ : ∃ y : Int32, y = L3_21 + 1 := ⟨_, rfl⟩
            have jz_38 : z_38.toInt = L3_21.toInt + 1 := by rw [ez_38]; exact g_add rfl t_1 (by omega) (by omega)
            refine lv_iinc (v := z_38) (lv' := [(3, .int z_38), (0, .ref dh), (1, .int p0), (2, .int p1)]) hx hb dX0_tryFrom_83 hl (k := 0) rfl (by rw [ez_38]; rfl) (by decide) rfl (fun ls hl => ?_)
            refine lv_goto (tgt := 21) hx hb dX0_tryFrom_86 (by decide) ?_
            exact ih_9 z_38 w_35 w_32 w_33 (upd w_34 (L3_21 : Int32).toNatClampNeg z_37) _ _ _ (by (try dsimp only); omega) (by (try dsimp only); omega) (by rw [clampS (by omega) jz_38, lpX_s, ← v1_21]; rw [ez_37, ez_36]; refine shX_go (j := z_28) (by rw [← ez_23]; omega) ?_ ez_28; rw [ofN_c (by omega), ← ez_26, ← ez_27]; exact hw_30) hP hD hS (lv_sub hl [0, 1, 2, 3] rfl)
    exact loop_8 4 0 dleastWorst df1 df2 df4 _ _ _ (by have h0 := t_0; (try dsimp only); omega) (by have h0 := t_0; (try dsimp only); omega) (by rw [clamp_0]; rfl) hP hD hS (lv_sub hl [0, 1, 2, 3] rfl)
set_option maxHeartbeats 4000000 in
set_option maxRecDepth 100000 in
theorem g_X0_shareOut (l : Launch) (D : va_G) (E : Nat → Nat) (dh : Nat) (da : Nat → Nat) (dlisted : Int32) (dshared : Int32) (dsailing : Int32) (dleastWorst : Int32) (df0 : Nat → Int32) (df1 : Nat → Int32) (df2 : Nat → Int32) (df3 : Nat → Int32) (df4 : Nat → Int32) (p0 : Int32) (p1 : Int32) (p2 : Int32) (p3 : Int32) (sz : Nat) (hi_d : (0 ≤ dlisted.toInt ∧ dlisted.toInt ≤ 9) ∧ (0 ≤ dshared.toInt ∧ dshared.toInt ≤ 9) ∧ (0 ≤ dsailing.toInt ∧ dsailing.toInt ≤ 3)) (g0 : 1 ≤ p0.toInt ∧ p0.toInt ≤ 3) : Met l yX0_shareOut (wl yX0_shareOut cX0_shareOut 6 (some .int)) (RM 13 0 0) (mu_P D E [.ref dh, .int p0, .int p1, .int p2, .int p3] [(dh, .inr (0, G0 da dlisted dshared dsailing dleastWorst)), ((da 0), .inl (E 0, 9, .inl df0)), ((da 1), .inl (E 0, 9, .inl df1)), ((da 2), .inl (E 0, 9, .inl df2)), ((da 3), .inl (E 0, 3, .inl df3)), ((da 4), .inl (E 0, 3, .inl df4))] sz) (va_Qi (fun (r : Int32) (u : (Nat → Int32) × (Nat → Int32) × (Nat → Int32) × (Nat → Int32) × (Int32) × (Int32) × (Int32) × (Int32)) => (0 ≤ u.2.2.2.2.2.1.toInt ∧ u.2.2.2.2.2.1.toInt ≤ 9) ∧ (0 ≤ u.2.2.2.2.2.2.1.toInt ∧ u.2.2.2.2.2.2.1.toInt ≤ 3) ∧ (0 ≤ u.2.2.2.2.2.2.2.toInt ∧ u.2.2.2.2.2.2.2.toInt ≤ 9) ∧ (u.2.2.2.2.2.2.2.toInt = dlisted.toInt ∧ u.2.2.2.2.2.1.toInt = 0 ∧ SHX df0 (upd (upd (upd df3 0 p1) 1 p2) 2 p3) df1 df2 dlisted p0 r u.2.1)) (mu_B D (va_A [(dh, .inr (0, G0 da dlisted dshared dsailing dleastWorst)), ((da 0), .inl (E 0, 9, .inl df0)), ((da 1), .inl (E 0, 9, .inl df1)), ((da 2), .inl (E 0, 9, .inl df2)), ((da 3), .inl (E 0, 3, .inl df3)), ((da 4), .inl (E 0, 3, .inl df4))] sz) (fun (u : (Nat → Int32) × (Nat → Int32) × (Nat → Int32) × (Nat → Int32) × (Int32) × (Int32) × (Int32) × (Int32)) => [(dh, .inr (0, G0 da u.2.2.2.2.2.1 u.2.2.2.2.2.2.2 u.2.2.2.2.2.2.1 u.2.2.2.2.1)), ((da 0), .inl (E 0, 9, .inl df0)), ((da 1), .inl (E 0, 9, .inl u.1)), ((da 2), .inl (E 0, 9, .inl u.2.1)), ((da 3), .inl (E 0, 3, .inl u.2.2.1)), ((da 4), .inl (E 0, 3, .inl u.2.2.2.1))])) (va_A [(dh, .inr (0, G0 da dlisted dshared dsailing dleastWorst)), ((da 0), .inl (E 0, 9, .inl df0)), ((da 1), .inl (E 0, 9, .inl df1)), ((da 2), .inl (E 0, 9, .inl df2)), ((da 3), .inl (E 0, 3, .inl df3)), ((da 4), .inl (E 0, 3, .inl df4))] sz)) 0 0 (va_A [(dh, .inr (0, G0 da dlisted dshared dsailing dleastWorst)), ((da 0), .inl (E 0, 9, .inl df0)), ((da 1), .inl (E 0, 9, .inl df1)), ((da 2), .inl (E 0, 9, .inl df2)), ((da 3), .inl (E 0, 3, .inl df3)), ((da 4), .inl (E 0, 3, .inl df4))] sz) := by
  refine Met.ofW (cc := cX0_shareOut) (maxL := 6) (ret := (some .int)) (by decide) rfl ?_
  intro p e s m args below meth c s₁ B hml hv
  obtain ⟨rfl, hsz, hP, hK, hD0⟩ := hv
  have hx := B.exec; have hb := B.bytes; have hr := B.returns
  have hts := atoms_spec (ws := wl yX0_shareOut cX0_shareOut 6 (some .int)) B.pre
  have htb : ∀ w ∈ tb, w.before _ s = true := fun w h => hts w (List.mem_cons_of_mem _ h)
  have hown : s.vm.findClass RX0 = some m.cls := findClass_of_methodNamed B.named
  have hlocks := B.notSynchronized
  subst hsz
  have hD := hD0.self (sz := s.heap.size)
  generalize hAe : va_A [(dh, .inr (0, G0 da dlisted dshared dsailing dleastWorst)), ((da 0), .inl (E 0, 9, .inl df0)), ((da 1), .inl (E 0, 9, .inl df1)), ((da 2), .inl (E 0, 9, .inl df2)), ((da 3), .inl (E 0, 3, .inl df3)), ((da 4), .inl (E 0, 3, .inl df4))] s.heap.size = A at hD ⊢
  have hA : ∀ q : Nat, s.heap.size ≤ q → A q := fun q h => by rw [← hAe]; exact Or.inr h
  have hS : va_S A s.heap s.heap [] := va_S.rf
  have hP : va_P D vwCl [(dh, .inr (0, G0 da dlisted dshared dsailing dleastWorst)), ((da 0), .inl (E 0, 9, .inl df0)), ((da 1), .inl (E 0, 9, .inl df1)), ((da 2), .inl (E 0, 9, .inl df2)), ((da 3), .inl (E 0, 3, .inl df3)), ((da 4), .inl (E 0, 3, .inl df4))] s.heap := hP
  have hl := lv_entry ([.ref dh, .int p0, .int p1, .int p2, .int p3]) (n := 6) (Nat.le_of_ble_eq_true rfl)
  rw [lg_entry_eq]
  generalize (lg_sl ([.ref dh, .int p0, .int p1, .int p2, .int p3]) ++ List.replicate (6 - (lg_sl ([.ref dh, .int p0, .int p1, .int p2, .int p3])).length) Slot.unset).toArray = ls at hl ⊢
  have hl : lv_has ls 6 [(0, .ref dh), (1, .int p0), (2, .int p1), (3, .int p2), (4, .int p3)] := hl
  have lo_p0 := i_lo p0; have hi_p0 := i_hi p0
  have lo_p1 := i_lo p1; have hi_p1 := i_hi p1
  have lo_p2 := i_lo p2; have hi_p2 := i_hi p2
  have lo_p3 := i_lo p3; have hi_p3 := i_hi p3
  refine lv_aload_n hx hb dX0_shareOut_0 rfl (lv_at hl 0 rfl) ?_
  refine lv_iconst (v := 0) hx hb dX0_shareOut_1 (by decide) ?_
  refine lv_iload_n hx hb dX0_shareOut_2 rfl (lv_at hl 1 rfl) ?_
  refine lv_aload_n hx hb dX0_shareOut_3 rfl (lv_at hl 0 rfl) ?_
  refine va_get (D := D) (ci := 0) (v := .ref (da 3)) (C := RX0) (T := TX0) (N := 9) hx hb htb iX0 hown hK.1 hP 0 rfl rfl 3 (by decide) (htb _ k_194) (fun _ h9 => h9) rfl dX0_shareOut_4 ?_
  refine va_alen hx hb hK.1 hP 4 0 rfl rfl (v := 3) (show Int32.ofNat 3 = 3 by decide) dX0_shareOut_7 ?_
  refine va_mmin hx hb (by rw [hml, hl.1]) hown (htb _ k_902) (htb _ k_725) (htb _ k_11) (htb _ k_726) (Nat.le_of_ble_eq_true rfl) (Nat.le_of_ble_eq_true rfl) (Nat.le_of_ble_eq_true rfl) (Nat.le_of_ble_eq_true rfl) dX0_shareOut_8 ?_
  refine lv_topi (fun z_1 ez_1 => ?_)
  have jz_1 := g_min rfl t_3 ez_1
  refine va_mmax hx hb (by rw [hml, hl.1]) hown (htb _ k_903) (htb _ k_732) (htb _ k_11) (htb _ k_733) (Nat.le_of_ble_eq_true rfl) (Nat.le_of_ble_eq_true rfl) (Nat.le_of_ble_eq_true rfl) (Nat.le_of_ble_eq_true rfl) dX0_shareOut_11 ?_
  refine lv_topi (fun z_2 ez_2 => ?_)
  have jz_2 := g_max t_0 rfl ez_2
  refine va_put (D := D) (ci := 0) (v := .int z_2) (ty := .int) (C := RX0) (T := TX0) (N := 9) hx hb htb iX0 tyX0 tyX0_ok nmX0 hown hK.1 hP hD hS 0 rfl rfl 7 (by decide) (htb _ k_200) (fun _ h9 => h9) rfl (by decide +kernel) rfl rfl (Nat.le_of_ble_eq_true rfl) dX0_shareOut_14 (fun H locs hP hD hS => ?_)
  have hP : va_P D vwCl [(dh, .inr (0, G0 da dlisted dshared z_2 dleastWorst)), ((da 0), .inl (E 0, 9, .inl df0)), ((da 1), .inl (E 0, 9, .inl df1)), ((da 2), .inl (E 0, 9, .inl df2)), ((da 3), .inl (E 0, 3, .inl df3)), ((da 4), .inl (E 0, 3, .inl df4))] H := hP
  have hD := toW hP hD rfl
  refine lv_aload_n hx hb dX0_shareOut_17 rfl (lv_at hl 0 rfl) ?_
  refine va_get (D := D) (ci := 0) (v := .ref (da 3)) (C := RX0) (T := TX0) (N := 9) hx hb htb iX0 hown hK.1 hP 0 rfl rfl 3 (by decide) (htb _ k_194) (fun _ h9 => h9) rfl dX0_shareOut_18 ?_
  refine lv_iconst (v := 0) hx hb dX0_shareOut_21 (by decide) ?_
  refine lv_iload_n hx hb dX0_shareOut_22 rfl (lv_at hl 2 rfl) ?_
  refine va_iast hx hb hK.1 hP hD hS 4 0 rfl rfl (g_in t_0 (by decide) (by decide)) dX0_shareOut_23 (fun H locs hP hD hS => ?_)
  have hP : va_P D vwCl [(dh, .inr (0, G0 da dlisted dshared z_2 dleastWorst)), ((da 0), .inl (E 0, 9, .inl df0)), ((da 1), .inl (E 0, 9, .inl df1)), ((da 2), .inl (E 0, 9, .inl df2)), ((da 3), .inl (E 0, 3, .inl (upd df3 (0 : Int32).toNatClampNeg p1))), ((da 4), .inl (E 0, 3, .inl df4))] H := hP
  have hD := toW hP hD rfl
  refine lv_aload_n hx hb dX0_shareOut_24 rfl (lv_at hl 0 rfl) ?_
  refine va_get (D := D) (ci := 0) (v := .ref (da 3)) (C := RX0) (T := TX0) (N := 9) hx hb htb iX0 hown hK.1 hP 0 rfl rfl 3 (by decide) (htb _ k_194) (fun _ h9 => h9) rfl dX0_shareOut_25 ?_
  refine lv_iconst (v := 1) hx hb dX0_shareOut_28 (by decide) ?_
  refine lv_iload_n hx hb dX0_shareOut_29 rfl (lv_at hl 3 rfl) ?_
  refine va_iast hx hb hK.1 hP hD hS 4 0 rfl rfl (g_in t_1 (by decide) (by decide)) dX0_shareOut_30 (fun H locs hP hD hS => ?_)
  have hP : va_P D vwCl [(dh, .inr (0, G0 da dlisted dshared z_2 dleastWorst)), ((da 0), .inl (E 0, 9, .inl df0)), ((da 1), .inl (E 0, 9, .inl df1)), ((da 2), .inl (E 0, 9, .inl df2)), ((da 3), .inl (E 0, 3, .inl (upd (upd df3 (0 : Int32).toNatClampNeg p1) (1 : Int32).toNatClampNeg p2))), ((da 4), .inl (E 0, 3, .inl df4))] H := hP
  have hD := toW hP hD rfl
  refine lv_aload_n hx hb dX0_shareOut_31 rfl (lv_at hl 0 rfl) ?_
  refine va_get (D := D) (ci := 0) (v := .ref (da 3)) (C := RX0) (T := TX0) (N := 9) hx hb htb iX0 hown hK.1 hP 0 rfl rfl 3 (by decide) (htb _ k_194) (fun _ h9 => h9) rfl dX0_shareOut_32 ?_
  refine lv_iconst (v := 2) hx hb dX0_shareOut_35 (by decide) ?_
  refine lv_iload hx hb dX0_shareOut_36 (lv_at hl 4 rfl) ?_
  refine va_iast hx hb hK.1 hP hD hS 4 0 rfl rfl (g_in t_2 (by decide) (by decide)) dX0_shareOut_38 (fun H locs hP hD hS => ?_)
  have hP : va_P D vwCl [(dh, .inr (0, G0 da dlisted dshared z_2 dleastWorst)), ((da 0), .inl (E 0, 9, .inl df0)), ((da 1), .inl (E 0, 9, .inl df1)), ((da 2), .inl (E 0, 9, .inl df2)), ((da 3), .inl (E 0, 3, .inl (upd (upd (upd df3 (0 : Int32).toNatClampNeg p1) (1 : Int32).toNatClampNeg p2) (2 : Int32).toNatClampNeg p3))), ((da 4), .inl (E 0, 3, .inl df4))] H := hP
  have hD := toW hP hD rfl
  refine lv_aload_n hx hb dX0_shareOut_39 rfl (lv_at hl 0 rfl) ?_
  refine lv_ldc hx hb hown (htb _ k_904) dX0_shareOut_40 ?_
  refine va_put (D := D) (ci := 0) (v := .int 2000000000) (ty := .int) (C := RX0) (T := TX0) (N := 9) hx hb htb iX0 tyX0 tyX0_ok nmX0 hown hK.1 hP hD hS 0 rfl rfl 8 (by decide) (htb _ k_201) (fun _ h9 => h9) rfl (by decide +kernel) rfl rfl (Nat.le_of_ble_eq_true rfl) dX0_shareOut_42 (fun H locs hP hD hS => ?_)
  have hP : va_P D vwCl [(dh, .inr (0, G0 da dlisted dshared z_2 2000000000)), ((da 0), .inl (E 0, 9, .inl df0)), ((da 1), .inl (E 0, 9, .inl df1)), ((da 2), .inl (E 0, 9, .inl df2)), ((da 3), .inl (E 0, 3, .inl (upd (upd (upd df3 (0 : Int32).toNatClampNeg p1) (1 : Int32).toNatClampNeg p2) (2 : Int32).toNatClampNeg p3))), ((da 4), .inl (E 0, 3, .inl df4))] H := hP
  have hD := toW hP hD rfl
  refine lv_iconst (v := 0) hx hb dX0_shareOut_45 (by decide) ?_
  refine lv_istore (lv' := [(5, .int 0), (0, .ref dh), (1, .int p0), (2, .int p1), (3, .int p2), (4, .int p3)]) hx hb dX0_shareOut_46 hl (by decide) rfl (fun ls hl => ?_)
  have loop_3 : ∀ (N_5 : Nat) (L5_48 : Int32) (df4_48 : Nat → Int32) (H : Heap) (locs : List Loc) (ls : Array Slot), 3 - L5_48.toInt < (N_5 : Int) → (0 ≤ L5_48.toInt ∧ L5_48.toInt ≤ 3) → (∀ s : Nat, s < (L5_48).toNatClampNeg → (df4_48 s).toInt = 0) → va_P D vwCl [(dh, .inr (0, G0 da dlisted dshared z_2 2000000000)), ((da 0), .inl (E 0, 9, .inl df0)), ((da 1), .inl (E 0, 9, .inl df1)), ((da 2), .inl (E 0, 9, .inl df2)), ((da 3), .inl (E 0, 3, .inl (upd (upd (upd df3 (0 : Int32).toNatClampNeg p1) (1 : Int32).toNatClampNeg p2) (2 : Int32).toNatClampNeg p3))), ((da 4), .inl (E 0, 3, .inl df4_48))] H → va_D A [(dh, .inr (0, G0 da dlisted dshared z_2 2000000000)), ((da 0), .inl (E 0, 9, .inl df0)), ((da 1), .inl (E 0, 9, .inl df1)), ((da 2), .inl (E 0, 9, .inl df2)), ((da 3), .inl (E 0, 3, .inl (upd (upd (upd df3 (0 : Int32).toNatClampNeg p1) (1 : Int32).toNatClampNeg p2) (2 : Int32).toNatClampNeg p3))), ((da 4), .inl (E 0, 3, .inl df4_48))] → va_S A s.heap H locs → lv_has ls 6 [(5, .int L5_48), (0, .ref dh), (1, .int p0), (2, .int p1), (3, .int p2), (4, .int p3)] → W p l e (headSpec (wl yX0_shareOut cX0_shareOut 6 (some .int)) (RM 13 0 0)).room s m [Value.ref dh, .int p0, .int p1, .int p2, .int p3].toArray below meth c H locs 0 0 (MQ below (va_Qi (fun (r : Int32) (u : (Nat → Int32) × (Nat → Int32) × (Nat → Int32) × (Nat → Int32) × (Int32) × (Int32) × (Int32) × (Int32)) => (0 ≤ u.2.2.2.2.2.1.toInt ∧ u.2.2.2.2.2.1.toInt ≤ 9) ∧ (0 ≤ u.2.2.2.2.2.2.1.toInt ∧ u.2.2.2.2.2.2.1.toInt ≤ 3) ∧ (0 ≤ u.2.2.2.2.2.2.2.toInt ∧ u.2.2.2.2.2.2.2.toInt ≤ 9) ∧ (u.2.2.2.2.2.2.2.toInt = dlisted.toInt ∧ u.2.2.2.2.2.1.toInt = 0 ∧ SHX df0 (upd (upd (upd df3 0 p1) 1 p2) 2 p3) df1 df2 dlisted p0 r u.2.1)) (mu_B D A (fun (u : (Nat → Int32) × (Nat → Int32) × (Nat → Int32) × (Nat → Int32) × (Int32) × (Int32) × (Int32) × (Int32)) => [(dh, .inr (0, G0 da u.2.2.2.2.2.1 u.2.2.2.2.2.2.2 u.2.2.2.2.2.2.1 u.2.2.2.2.1)), ((da 0), .inl (E 0, 9, .inl df0)), ((da 1), .inl (E 0, 9, .inl u.1)), ((da 2), .inl (E 0, 9, .inl u.2.1)), ((da 3), .inl (E 0, 3, .inl u.2.2.1)), ((da 4), .inl (E 0, 3, .inl u.2.2.2.1))])) A) [Value.ref dh, .int p0, .int p1, .int p2, .int p3].toArray s 0 0 A) (F0 m 48 ls []) := by
    intro N_5
    induction N_5 with
    | zero => intro L5_48 df4_48 H locs ls hm v0_48 v1_48 _ _ _ _; exfalso; omega
    | succ N_5 ih_4 =>
      intro L5_48 df4_48 H locs ls hm v0_48 v1_48 hP hD hS hl
      have lo_L5_48 := i_lo L5_48; have hi_L5_48 := i_hi L5_48
      refine lv_iload hx hb dX0_shareOut_48 (lv_at hl 0 rfl) ?_
      refine lv_aload_n hx hb dX0_shareOut_50 rfl (lv_at hl 1 rfl) ?_
      refine va_get (D := D) (ci := 0) (v := .ref (da 4)) (C := RX0) (T := TX0) (N := 9) hx hb htb iX0 hown hK.1 hP 0 rfl rfl 4 (by decide) (htb _ k_195) (fun _ h9 => h9) rfl dX0_shareOut_51 ?_
      refine va_alen hx hb hK.1 hP 5 0 rfl rfl (v := 3) (show Int32.ofNat 3 = 3 by decide) dX0_shareOut_54 ?_
      refine lv_icmp_ge (tgt := 72) hx hb dX0_shareOut_55 (by decide) (fun c_6 => ?_) (fun c_6 => ?_)
      ·
        have ic_6 : 3 ≤ L5_48.toInt := by first | exact (g_le t_3 rfl).mp c_6 | (have h := mt (g_lt rfl t_3).mpr c_6; omega)
        clear c_6
        refine lv_aload_n hx hb dX0_shareOut_72 rfl (lv_at hl 1 rfl) ?_
        refine lv_iconst (v := 0) hx hb dX0_shareOut_73 (by decide) ?_
        refine lv_aload_n hx hb dX0_shareOut_74 rfl (lv_at hl 1 rfl) ?_
        refine va_get (D := D) (ci := 0) (v := .int dlisted) (C := RX0) (T := TX0) (N := 9) hx hb htb iX0 hown hK.1 hP 0 rfl rfl 5 (by decide) (htb _ k_196) (fun _ h9 => h9) rfl dX0_shareOut_75 ?_
        refine lv_iconst (v := 3) hx hb dX0_shareOut_78 (by decide) ?_
        refine lv_aload_n hx hb dX0_shareOut_79 rfl (lv_at hl 1 rfl) ?_
        refine va_get (D := D) (ci := 0) (v := .int z_2) (C := RX0) (T := TX0) (N := 9) hx hb htb iX0 hown hK.1 hP 0 rfl rfl 7 (by decide) (htb _ k_200) (fun _ h9 => h9) rfl dX0_shareOut_80 ?_
        refine lv_imul hx hb dX0_shareOut_83 ?_
        refine lv_topi (fun z_7 ez_7 => ?_)
        have jz_7 : z_7.toInt = 3 * z_2.toInt := by rw [ez_7]; exact g_mul t_3 rfl (by omega) (by omega)
        refine lv_isub hx hb dX0_shareOut_84 ?_
        refine lv_topi (fun z_8 ez_8 => ?_)
        have jz_8 : z_8.toInt = dlisted.toInt - z_7.toInt := by rw [ez_8]; exact g_sub rfl rfl (by omega) (by omega)
        have hPc := hP.sub (ws' := [(dh, .inr (0, G0 da dlisted dshared z_2 2000000000)), ((da 0), .inl (E 0, 9, .inl df0)), ((da 1), .inl (E 0, 9, .inl df1)), ((da 2), .inl (E 0, 9, .inl df2)), ((da 3), .inl (E 0, 3, .inl (upd (upd (upd df3 (0 : Int32).toNatClampNeg p1) (1 : Int32).toNatClampNeg p2) (2 : Int32).toNatClampNeg p3))), ((da 4), .inl (E 0, 3, .inl df4_48))]) [0, 1, 2, 3, 4, 5] rfl
        have hDc := hD.sub (ws' := [(dh, .inr (0, G0 da dlisted dshared z_2 2000000000)), ((da 0), .inl (E 0, 9, .inl df0)), ((da 1), .inl (E 0, 9, .inl df1)), ((da 2), .inl (E 0, 9, .inl df2)), ((da 3), .inl (E 0, 3, .inl (upd (upd (upd df3 (0 : Int32).toNatClampNeg p1) (1 : Int32).toNatClampNeg p2) (2 : Int32).toNatClampNeg p3))), ((da 4), .inl (E 0, 3, .inl df4_48))]) [0, 1, 2, 3, 4, 5] (by decide) rfl
        refine aft_v (runMV (rest := []) (As := [.int 0, .int z_8]) hx hb hml hown htb hK (g_X0_tryFrom_9 l D E dh da dlisted dshared z_2 2000000000 df0 df1 df2 (upd (upd (upd df3 (0 : Int32).toNatClampNeg p1) (1 : Int32).toNatClampNeg p2) (2 : Int32).toNatClampNeg p3) df4_48 0 z_8 _ (by (try dsimp only); omega) (by have h0 := t_0; (try dsimp only); omega)) ok_X0_tryFrom k_905 k_907 ks_34 k_7 k_908 ⟨(Nat.le_of_ble_eq_true rfl), (Nat.le_of_ble_eq_true rfl)⟩ ⟨(Nat.le_of_ble_eq_true rfl), (Nat.le_of_ble_eq_true rfl)⟩ hl.1 (Nat.le_of_ble_eq_true rfl) rfl rfl dX0_shareOut_85 hPc hDc rfl rfl 0 rfl) hP hD hS hA [0, 1, 2, 3, 4, 5] [] (wr := ([] : va_W)) rfl rfl (by decide) (by decide) (fun u_11 H locs hw_10 hP hD hS => ?_)
        clear hPc hDc
        obtain ⟨w_12, w_13, w_14, w_15⟩ := u_11
        try dsimp only at hw_10
        have hP : va_P D vwCl [(dh, .inr (0, G0 da dlisted dshared z_2 w_15)), ((da 0), .inl (E 0, 9, .inl df0)), ((da 1), .inl (E 0, 9, .inl w_12)), ((da 2), .inl (E 0, 9, .inl w_13)), ((da 3), .inl (E 0, 3, .inl (upd (upd (upd df3 (0 : Int32).toNatClampNeg p1) (1 : Int32).toNatClampNeg p2) (2 : Int32).toNatClampNeg p3))), ((da 4), .inl (E 0, 3, .inl w_14))] H := hP
        have hD := toW hP hD rfl
        try simp only [t_0, t_2000000000] at hw_10
        refine lv_aload_n hx hb dX0_shareOut_88 rfl (lv_at hl 1 rfl) ?_
        refine lv_aload_n hx hb dX0_shareOut_89 rfl (lv_at hl 1 rfl) ?_
        refine va_get (D := D) (ci := 0) (v := .int dlisted) (C := RX0) (T := TX0) (N := 9) hx hb htb iX0 hown hK.1 hP 0 rfl rfl 5 (by decide) (htb _ k_196) (fun _ h9 => h9) rfl dX0_shareOut_90 ?_
        refine va_put (D := D) (ci := 0) (v := .int dlisted) (ty := .int) (C := RX0) (T := TX0) (N := 9) hx hb htb iX0 tyX0 tyX0_ok nmX0 hown hK.1 hP hD hS 0 rfl rfl 6 (by decide) (htb _ k_198) (fun _ h9 => h9) rfl (by decide +kernel) rfl rfl (Nat.le_of_ble_eq_true rfl) dX0_shareOut_93 (fun H locs hP hD hS => ?_)
        have hP : va_P D vwCl [(dh, .inr (0, G0 da dlisted dlisted z_2 w_15)), ((da 0), .inl (E 0, 9, .inl df0)), ((da 1), .inl (E 0, 9, .inl w_12)), ((da 2), .inl (E 0, 9, .inl w_13)), ((da 3), .inl (E 0, 3, .inl (upd (upd (upd df3 (0 : Int32).toNatClampNeg p1) (1 : Int32).toNatClampNeg p2) (2 : Int32).toNatClampNeg p3))), ((da 4), .inl (E 0, 3, .inl w_14))] H := hP
        have hD := toW hP hD rfl
        refine lv_aload_n hx hb dX0_shareOut_96 rfl (lv_at hl 1 rfl) ?_
        refine lv_iconst (v := 0) hx hb dX0_shareOut_97 (by decide) ?_
        refine va_put (D := D) (ci := 0) (v := .int 0) (ty := .int) (C := RX0) (T := TX0) (N := 9) hx hb htb iX0 tyX0 tyX0_ok nmX0 hown hK.1 hP hD hS 0 rfl rfl 5 (by decide) (htb _ k_196) (fun _ h9 => h9) rfl (by decide +kernel) rfl rfl (Nat.le_of_ble_eq_true rfl) dX0_shareOut_98 (fun H locs hP hD hS => ?_)
        have hP : va_P D vwCl [(dh, .inr (0, G0 da 0 dlisted z_2 w_15)), ((da 0), .inl (E 0, 9, .inl df0)), ((da 1), .inl (E 0, 9, .inl w_12)), ((da 2), .inl (E 0, 9, .inl w_13)), ((da 3), .inl (E 0, 3, .inl (upd (upd (upd df3 (0 : Int32).toNatClampNeg p1) (1 : Int32).toNatClampNeg p2) (2 : Int32).toNatClampNeg p3))), ((da 4), .inl (E 0, 3, .inl w_14))] H := hP
        have hD := toW hP hD rfl
        refine lv_aload_n hx hb dX0_shareOut_101 rfl (lv_at hl 1 rfl) ?_
        refine va_get (D := D) (ci := 0) (v := .int w_15) (C := RX0) (T := TX0) (N := 9) hx hb htb iX0 hown hK.1 hP 0 rfl rfl 8 (by decide) (htb _ k_201) (fun _ h9 => h9) rfl dX0_shareOut_102 ?_
        have hP9 := hP.sub (ws' := [(dh, .inr (0, G0 da 0 dlisted z_2 w_15)), ((da 0), .inl (E 0, 9, .inl df0)), ((da 1), .inl (E 0, 9, .inl w_12)), ((da 2), .inl (E 0, 9, .inl w_13)), ((da 3), .inl (E 0, 3, .inl (upd (upd (upd df3 (0 : Int32).toNatClampNeg p1) (1 : Int32).toNatClampNeg p2) (2 : Int32).toNatClampNeg p3))), ((da 4), .inl (E 0, 3, .inl w_14))]) [0, 1, 2, 3, 4, 5] rfl
        have hD9 := hD.sub (ws' := [(dh, .inr (0, G0 da 0 dlisted z_2 w_15)), ((da 0), .inl (E 0, 9, .inl df0)), ((da 1), .inl (E 0, 9, .inl w_12)), ((da 2), .inl (E 0, 9, .inl w_13)), ((da 3), .inl (E 0, 3, .inl (upd (upd (upd df3 (0 : Int32).toNatClampNeg p1) (1 : Int32).toNatClampNeg p2) (2 : Int32).toNatClampNeg p3))), ((da 4), .inl (E 0, 3, .inl w_14))]) [0, 1, 2, 3, 4, 5] (by decide) rfl
        exact W.iret (v := w_15) hx hb hr (fun t ht hW => ⟨⟨w_15, (w_12, w_13, (upd (upd (upd df3 (0 : Int32).toNatClampNeg p1) (1 : Int32).toNatClampNeg p2) (2 : Int32).toNatClampNeg p3), w_14, w_15, (0 : Int32), z_2, dlisted), rfl, ⟨(by have h0 := t_0; (try dsimp only); omega), (by (try dsimp only); omega), (by (try dsimp only); omega), (by have hl0 := t_0; (try dsimp only); refine ⟨by omega, by omega, ?_⟩; have hS : z_2 = p0 := i_eq.mpr (by omega); have h9 := hw_10; rw [ez_8, ez_7, hS] at h9; exact ⟨_, _, _, fun s hs => v1_48 s (by have h8 := i_clamp0 (x := L5_48) (by omega); omega), h9⟩)⟩, by rw [ht]; exact hP9, hD9⟩, hS.F ht⟩) hS.2.2 dX0_shareOut_105
      ·
        have ic_6 : L5_48.toInt < 3 := by first | exact (g_lt rfl t_3).mp c_6 | (have h := mt (g_le t_3 rfl).mpr c_6; omega)
        clear c_6
        refine lv_aload_n hx hb dX0_shareOut_58 rfl (lv_at hl 1 rfl) ?_
        refine va_get (D := D) (ci := 0) (v := .ref (da 4)) (C := RX0) (T := TX0) (N := 9) hx hb htb iX0 hown hK.1 hP 0 rfl rfl 4 (by decide) (htb _ k_195) (fun _ h9 => h9) rfl dX0_shareOut_59 ?_
        refine lv_iload hx hb dX0_shareOut_62 (lv_at hl 0 rfl) ?_
        refine lv_iconst (v := 0) hx hb dX0_shareOut_64 (by decide) ?_
        refine va_iast hx hb hK.1 hP hD hS 5 0 rfl rfl (g_in rfl (by omega) (by omega)) dX0_shareOut_65 (fun H locs hP hD hS => ?_)
        have hP : va_P D vwCl [(dh, .inr (0, G0 da dlisted dshared z_2 2000000000)), ((da 0), .inl (E 0, 9, .inl df0)), ((da 1), .inl (E 0, 9, .inl df1)), ((da 2), .inl (E 0, 9, .inl df2)), ((da 3), .inl (E 0, 3, .inl (upd (upd (upd df3 (0 : Int32).toNatClampNeg p1) (1 : Int32).toNatClampNeg p2) (2 : Int32).toNatClampNeg p3))), ((da 4), .inl (E 0, 3, .inl (upd df4_48 (L5_48 : Int32).toNatClampNeg 0)))] H := hP
        have hD := toW hP hD rfl
        obtain ⟨z_16, ez_16⟩ : ∃ y : Int32, y = L5_48 + 1 := ⟨_, rfl⟩
        have jz_16 : z_16.toInt = L5_48.toInt + 1 := by rw [ez_16]; exact g_add rfl t_1 (by omega) (by omega)
        refine lv_iinc (v := z_16) (lv' := [(5, .int z_16), (0, .ref dh), (1, .int p0), (2, .int p1), (3, .int p2), (4, .int p3)]) hx hb dX0_shareOut_66 hl (k := 0) rfl (by rw [ez_16]; rfl) (by decide) rfl (fun ls hl => ?_)
        refine lv_goto (tgt := 48) hx hb dX0_shareOut_69 (by decide) ?_
        exact ih_4 z_16 (upd df4_48 (L5_48 : Int32).toNatClampNeg 0) _ _ _ (by have h0 := t_2000000000; (try dsimp only); omega) (by have h0 := t_2000000000; (try dsimp only); omega) (by rw [clampS (by omega) jz_16]; exact GZ_s v1_48) hP hD hS (lv_sub hl [0, 1, 2, 3, 4, 5] rfl)
  exact loop_3 4 0 df4 _ _ _ (by have h0 := t_0; have h1 := t_2000000000; (try dsimp only); omega) (by have h0 := t_0; have h1 := t_2000000000; (try dsimp only); omega) (fun s hs => by rw [clamp_0] at hs; omega) hP hD hS (lv_sub hl [0, 1, 2, 3, 4, 5] rfl)
