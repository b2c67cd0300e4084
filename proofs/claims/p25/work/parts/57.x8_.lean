section
set_option maxHeartbeats 4000000 in
set_option maxRecDepth 100000 in
theorem g_X0_tryFrom_0 (l : Launch) (D : va_G) (E : Nat → Nat) (dh : Nat) (da : Nat → Nat) (dlisted : Int32) (dshared : Int32) (dsailing : Int32) (dleastWorst : Int32) (df0 : Nat → Int32) (df1 : Nat → Int32) (df2 : Nat → Int32) (df3 : Nat → Int32) (p0 : Int32) (p1 : Int32) (sz : Nat) (hi_d : (0 ≤ dlisted.toInt ∧ dlisted.toInt ≤ 9) ∧ (0 ≤ dshared.toInt ∧ dshared.toInt ≤ 9) ∧ (0 ≤ dsailing.toInt ∧ dsailing.toInt ≤ 3)) (g0 : 9 ≤ p0.toInt ∧ p0.toInt ≤ 9) : Met l yX0_tryFrom (wl yX0_tryFrom cX0_tryFrom 4 none) (RM 3 0 0) (mu_P D E [.ref dh, .int p0, .int p1] [(dh, .inr (0, G0 da dlisted dshared dsailing dleastWorst)), ((da 0), .inl (E 0, 9, .inl df0)), ((da 1), .inl (E 0, 9, .inl df1)), ((da 2), .inl (E 0, 9, .inl df2)), ((da 3), .inl (E 0, 3, .inl df3))] sz) (va_Qv (fun (u : (Nat → Int32) × (Int32)) => True) (mu_B D (va_A [(dh, .inr (0, G0 da dlisted dshared dsailing dleastWorst)), ((da 0), .inl (E 0, 9, .inl df0)), ((da 1), .inl (E 0, 9, .inl df1)), ((da 2), .inl (E 0, 9, .inl df2)), ((da 3), .inl (E 0, 3, .inl df3))] sz) (fun (u : (Nat → Int32) × (Int32)) => [(dh, .inr (0, G0 da dlisted dshared dsailing u.2)), ((da 0), .inl (E 0, 9, .inl df0)), ((da 1), .inl (E 0, 9, .inl df1)), ((da 2), .inl (E 0, 9, .inl u.1)), ((da 3), .inl (E 0, 3, .inl df3))])) (va_A [(dh, .inr (0, G0 da dlisted dshared dsailing dleastWorst)), ((da 0), .inl (E 0, 9, .inl df0)), ((da 1), .inl (E 0, 9, .inl df1)), ((da 2), .inl (E 0, 9, .inl df2)), ((da 3), .inl (E 0, 3, .inl df3))] sz)) 0 0 (va_A [(dh, .inr (0, G0 da dlisted dshared dsailing dleastWorst)), ((da 0), .inl (E 0, 9, .inl df0)), ((da 1), .inl (E 0, 9, .inl df1)), ((da 2), .inl (E 0, 9, .inl df2)), ((da 3), .inl (E 0, 3, .inl df3))] sz) := by
  refine Met.ofW (cc := cX0_tryFrom) (maxL := 4) (ret := none) (by decide) rfl ?_
  intro p e s m args below meth c s₁ B hml hv
  obtain ⟨rfl, hsz, hP, hK, hD0⟩ := hv
  have hx := B.exec; have hb := B.bytes; have hr := B.returns
  have hts := atoms_spec (ws := wl yX0_tryFrom cX0_tryFrom 4 none) B.pre
  have htb : ∀ w ∈ tb, w.before _ s = true := fun w h => hts w (List.mem_cons_of_mem _ h)
  have hown : s.vm.findClass RX0 = some m.cls := findClass_of_methodNamed B.named
  have hlocks := B.notSynchronized
  subst hsz
  have hD := hD0.self (sz := s.heap.size)
  generalize hAe : va_A [(dh, .inr (0, G0 da dlisted dshared dsailing dleastWorst)), ((da 0), .inl (E 0, 9, .inl df0)), ((da 1), .inl (E 0, 9, .inl df1)), ((da 2), .inl (E 0, 9, .inl df2)), ((da 3), .inl (E 0, 3, .inl df3))] s.heap.size = A at hD ⊢
  have hA : ∀ q : Nat, s.heap.size ≤ q → A q := fun q h => by rw [← hAe]; exact Or.inr h
  have hS : va_S A s.heap s.heap [] := va_S.rf
  have hP : va_P D vwCl [(dh, .inr (0, G0 da dlisted dshared dsailing dleastWorst)), ((da 0), .inl (E 0, 9, .inl df0)), ((da 1), .inl (E 0, 9, .inl df1)), ((da 2), .inl (E 0, 9, .inl df2)), ((da 3), .inl (E 0, 3, .inl df3))] s.heap := hP
  have hl := lv_entry ([.ref dh, .int p0, .int p1]) (n := 4) (Nat.le_of_ble_eq_true rfl)
  rw [lg_entry_eq]
  generalize (lg_sl ([.ref dh, .int p0, .int p1]) ++ List.replicate (4 - (lg_sl ([.ref dh, .int p0, .int p1])).length) Slot.unset).toArray = ls at hl ⊢
  have hl : lv_has ls 4 [(0, .ref dh), (1, .int p0), (2, .int p1)] := hl
  have lo_p0 := i_lo p0; have hi_p0 := i_hi p0
  have lo_p1 := i_lo p1; have hi_p1 := i_hi p1
  refine lv_iload_n hx hb dX0_tryFrom_0 rfl (lv_at hl 1 rfl) ?_
  refine lv_aload_n hx hb dX0_tryFrom_1 rfl (lv_at hl 0 rfl) ?_
  refine va_get (D := D) (ci := 0) (v := .int dlisted) (C := RX0) (T := TX0) (N := 9) hx hb htb iX0 hown hK.1 hP 0 rfl rfl 5 (by decide) (htb _ k_196) (fun _ h9 => h9) rfl dX0_tryFrom_2 ?_
  refine lv_icmp_ge (tgt := 14) hx hb dX0_tryFrom_5 (by decide) (fun c_1 => ?_) (fun c_1 => absurd (by rw [g_le rfl rfl]; omega) c_1)
  refine lv_aload_n hx hb dX0_tryFrom_14 rfl (lv_at hl 0 rfl) ?_
  have hPc := hP.sub (ws' := [(dh, .inr (0, G0 da dlisted dshared dsailing dleastWorst)), ((da 0), .inl (E 0, 9, .inl df0)), ((da 1), .inl (E 0, 9, .inl df1)), ((da 2), .inl (E 0, 9, .inl df2)), ((da 3), .inl (E 0, 3, .inl df3))]) [0, 1, 2, 3, 4] rfl
  have hDc := hD.sub (ws' := [(dh, .inr (0, G0 da dlisted dshared dsailing dleastWorst)), ((da 0), .inl (E 0, 9, .inl df0)), ((da 1), .inl (E 0, 9, .inl df1)), ((da 2), .inl (E 0, 9, .inl df2)), ((da 3), .inl (E 0, 3, .inl df3))]) [0, 1, 2, 3, 4] (by decide) rfl
  refine aft_v (runMV (rest := []) (As := []) hx hb hml hown htb hK (g_X0_keepIfBetter l D E dh da dlisted dshared dsailing dleastWorst df0 df1 df2 df3 _ (by (try dsimp only); omega)) ok_X0_keepIfBetter k_909 k_911 ks_35 k_7 k_912 ⟨(Nat.le_of_ble_eq_true rfl), (Nat.le_of_ble_eq_true rfl)⟩ ⟨(Nat.le_of_ble_eq_true rfl), (Nat.le_of_ble_eq_true rfl)⟩ hl.1 (Nat.le_of_ble_eq_true rfl) rfl rfl dX0_tryFrom_15 hPc hDc rfl rfl 0 rfl) hP hD hS hA [0, 1, 2, 3, 4] [] (wr := ([] : va_W)) rfl rfl (by decide) (by decide) (fun u_4 H locs hw_3 hP hD hS => ?_)
  clear hPc hDc
  obtain ⟨w_5, w_6⟩ := u_4
  try dsimp only at hw_3
  have hP : va_P D vwCl [(dh, .inr (0, G0 da dlisted dshared dsailing w_6)), ((da 0), .inl (E 0, 9, .inl df0)), ((da 1), .inl (E 0, 9, .inl df1)), ((da 2), .inl (E 0, 9, .inl w_5)), ((da 3), .inl (E 0, 3, .inl df3))] H := hP
  have hD := toW hP hD rfl
  have hP9 := hP.sub (ws' := [(dh, .inr (0, G0 da dlisted dshared dsailing w_6)), ((da 0), .inl (E 0, 9, .inl df0)), ((da 1), .inl (E 0, 9, .inl df1)), ((da 2), .inl (E 0, 9, .inl w_5)), ((da 3), .inl (E 0, 3, .inl df3))]) [0, 1, 2, 3, 4] rfl
  have hD9 := hD.sub (ws' := [(dh, .inr (0, G0 da dlisted dshared dsailing w_6)), ((da 0), .inl (E 0, 9, .inl df0)), ((da 1), .inl (E 0, 9, .inl df1)), ((da 2), .inl (E 0, 9, .inl w_5)), ((da 3), .inl (E 0, 3, .inl df3))]) [0, 1, 2, 3, 4] (by decide) rfl
  exact W.vret hx hb hr (fun t ht hW => ⟨⟨(w_5, w_6), rfl, trivial, by rw [ht]; exact hP9, hD9⟩, hS.F ht⟩) hS.2.2 dX0_tryFrom_18
set_option maxHeartbeats 4000000 in
set_option maxRecDepth 100000 in
theorem g_X0_tryFrom_1 (l : Launch) (D : va_G) (E : Nat → Nat) (dh : Nat) (da : Nat → Nat) (dlisted : Int32) (dshared : Int32) (dsailing : Int32) (dleastWorst : Int32) (df0 : Nat → Int32) (df1 : Nat → Int32) (df2 : Nat → Int32) (df3 : Nat → Int32) (df4 : Nat → Int32) (p0 : Int32) (p1 : Int32) (sz : Nat) (hi_d : (0 ≤ dlisted.toInt ∧ dlisted.toInt ≤ 9) ∧ (0 ≤ dshared.toInt ∧ dshared.toInt ≤ 9) ∧ (0 ≤ dsailing.toInt ∧ dsailing.toInt ≤ 3)) (g0 : 8 ≤ p0.toInt ∧ p0.toInt ≤ 9) : Met l yX0_tryFrom (wl yX0_tryFrom cX0_tryFrom 4 none) (RM 4 0 0) (mu_P D E [.ref dh, .int p0, .int p1] [(dh, .inr (0, G0 da dlisted dshared dsailing dleastWorst)), ((da 0), .inl (E 0, 9, .inl df0)), ((da 1), .inl (E 0, 9, .inl df1)), ((da 2), .inl (E 0, 9, .inl df2)), ((da 3), .inl (E 0, 3, .inl df3)), ((da 4), .inl (E 0, 3, .inl df4))] sz) (va_Qv (fun (u : (Nat → Int32) × (Nat → Int32) × (Nat → Int32) × (Int32)) => True) (mu_B D (va_A [(dh, .inr (0, G0 da dlisted dshared dsailing dleastWorst)), ((da 0), .inl (E 0, 9, .inl df0)), ((da 1), .inl (E 0, 9, .inl df1)), ((da 2), .inl (E 0, 9, .inl df2)), ((da 3), .inl (E 0, 3, .inl df3)), ((da 4), .inl (E 0, 3, .inl df4))] sz) (fun (u : (Nat → Int32) × (Nat → Int32) × (Nat → Int32) × (Int32)) => [(dh, .inr (0, G0 da dlisted dshared dsailing u.2.2.2)), ((da 0), .inl (E 0, 9, .inl df0)), ((da 1), .inl (E 0, 9, .inl u.1)), ((da 2), .inl (E 0, 9, .inl u.2.1)), ((da 3), .inl (E 0, 3, .inl df3)), ((da 4), .inl (E 0, 3, .inl u.2.2.1))])) (va_A [(dh, .inr (0, G0 da dlisted dshared dsailing dleastWorst)), ((da 0), .inl (E 0, 9, .inl df0)), ((da 1), .inl (E 0, 9, .inl df1)), ((da 2), .inl (E 0, 9, .inl df2)), ((da 3), .inl (E 0, 3, .inl df3)), ((da 4), .inl (E 0, 3, .inl df4))] sz)) 0 0 (va_A [(dh, .inr (0, G0 da dlisted dshared dsailing dleastWorst)), ((da 0), .inl (E 0, 9, .inl df0)), ((da 1), .inl (E 0, 9, .inl df1)), ((da 2), .inl (E 0, 9, .inl df2)), ((da 3), .inl (E 0, 3, .inl df3)), ((da 4), .inl (E 0, 3, .inl df4))] sz) := by
  refine Met.ofW (cc := cX0_tryFrom) (maxL := 4) (ret := none) (by decide) rfl ?_
  intro p e s m args below meth c s₁ B hml hv
  obtain ⟨rfl, hsz, hP, hK, hD0⟩ := hv
  have hx := B.exec; have hb := B.bytes; have hr := B.returns
  have hts := atoms_spec (ws := wl yX0_tryFrom cX0_tryFrom 4 none) B.pre
  have htb : ∀ w ∈ tb, w.before _ s = true := fun w h => hts w (List.mem_cons_of_mem _ h)
  have hown : s.vm.findClass RX0 = some m.cls := findClass_of_methodNamed B.named
  have hlocks := B.notSynchronized
  subst hsz
  have hD := hD0.self (sz := s.heap.size)
  generalize hAe : va_A [(dh, .inr (0, G0 da dlisted dshared dsailing dleastWorst)), ((da 0), .inl (E 0, 9, .inl df0)), ((da 1), .inl (E 0, 9, .inl df1)), ((da 2), .inl (E 0, 9, .inl df2)), ((da 3), .inl (E 0, 3, .inl df3)), ((da 4), .inl (E 0, 3, .inl df4))] s.heap.size = A at hD ⊢
  have hA : ∀ q : Nat, s.heap.size ≤ q → A q := fun q h => by rw [← hAe]; exact Or.inr h
  have hS : va_S A s.heap s.heap [] := va_S.rf
  have hP : va_P D vwCl [(dh, .inr (0, G0 da dlisted dshared dsailing dleastWorst)), ((da 0), .inl (E 0, 9, .inl df0)), ((da 1), .inl (E 0, 9, .inl df1)), ((da 2), .inl (E 0, 9, .inl df2)), ((da 3), .inl (E 0, 3, .inl df3)), ((da 4), .inl (E 0, 3, .inl df4))] s.heap := hP
  have hl := lv_entry ([.ref dh, .int p0, .int p1]) (n := 4) (Nat.le_of_ble_eq_true rfl)
  rw [lg_entry_eq]
  generalize (lg_sl ([.ref dh, .int p0, .int p1]) ++ List.replicate (4 - (lg_sl ([.ref dh, .int p0, .int p1])).length) Slot.unset).toArray = ls at hl ⊢
  have hl : lv_has ls 4 [(0, .ref dh), (1, .int p0), (2, .int p1)] := hl
  have lo_p0 := i_lo p0; have hi_p0 := i_hi p0
  have lo_p1 := i_lo p1; have hi_p1 := i_hi p1
  refine lv_iload_n hx hb dX0_tryFrom_0 rfl (lv_at hl 1 rfl) ?_
  refine lv_aload_n hx hb dX0_tryFrom_1 rfl (lv_at hl 0 rfl) ?_
  refine va_get (D := D) (ci := 0) (v := .int dlisted) (C := RX0) (T := TX0) (N := 9) hx hb htb iX0 hown hK.1 hP 0 rfl rfl 5 (by decide) (htb _ k_196) (fun _ h9 => h9) rfl dX0_tryFrom_2 ?_
  refine lv_icmp_ge (tgt := 14) hx hb dX0_tryFrom_5 (by decide) (fun c_1 => ?_) (fun c_1 => ?_)
  ·
    have ic_1 : dlisted.toInt ≤ p0.toInt := by first | exact (g_le rfl rfl).mp c_1 | (have h := mt (g_lt rfl rfl).mpr c_1; omega)
    clear c_1
    refine lv_aload_n hx hb dX0_tryFrom_14 rfl (lv_at hl 0 rfl) ?_
    have hPc := hP.sub (ws' := [(dh, .inr (0, G0 da dlisted dshared dsailing dleastWorst)), ((da 0), .inl (E 0, 9, .inl df0)), ((da 1), .inl (E 0, 9, .inl df1)), ((da 2), .inl (E 0, 9, .inl df2)), ((da 3), .inl (E 0, 3, .inl df3))]) [0, 1, 2, 3, 4] rfl
    have hDc := hD.sub (ws' := [(dh, .inr (0, G0 da dlisted dshared dsailing dleastWorst)), ((da 0), .inl (E 0, 9, .inl df0)), ((da 1), .inl (E 0, 9, .inl df1)), ((da 2), .inl (E 0, 9, .inl df2)), ((da 3), .inl (E 0, 3, .inl df3))]) [0, 1, 2, 3, 4] (by decide) rfl
    refine aft_v (runMV (rest := []) (As := []) hx hb hml hown htb hK (g_X0_keepIfBetter l D E dh da dlisted dshared dsailing dleastWorst df0 df1 df2 df3 _ (by (try dsimp only); omega)) ok_X0_keepIfBetter k_909 k_911 ks_35 k_7 k_912 ⟨(Nat.le_of_ble_eq_true rfl), (Nat.le_of_ble_eq_true rfl)⟩ ⟨(Nat.le_of_ble_eq_true rfl), (Nat.le_of_ble_eq_true rfl)⟩ hl.1 (Nat.le_of_ble_eq_true rfl) rfl rfl dX0_tryFrom_15 hPc hDc rfl rfl 0 rfl) hP hD hS hA [0, 1, 2, 3, 4] [5] (wr := [((da 4), .inl (E 0, 3, .inl df4))]) rfl rfl (by decide) (by decide) (fun u_4 H locs hw_3 hP hD hS => ?_)
    clear hPc hDc
    obtain ⟨w_5, w_6⟩ := u_4
    try dsimp only at hw_3
    have hP : va_P D vwCl [((da 4), .inl (E 0, 3, .inl df4)), (dh, .inr (0, G0 da dlisted dshared dsailing w_6)), ((da 0), .inl (E 0, 9, .inl df0)), ((da 1), .inl (E 0, 9, .inl df1)), ((da 2), .inl (E 0, 9, .inl w_5)), ((da 3), .inl (E 0, 3, .inl df3))] H := hP
    have hD := toW hP hD rfl
    have hP9 := hP.sub (ws' := [(dh, .inr (0, G0 da dlisted dshared dsailing w_6)), ((da 0), .inl (E 0, 9, .inl df0)), ((da 1), .inl (E 0, 9, .inl df1)), ((da 2), .inl (E 0, 9, .inl w_5)), ((da 3), .inl (E 0, 3, .inl df3)), ((da 4), .inl (E 0, 3, .inl df4))]) [1, 2, 3, 4, 5, 0] rfl
    have hD9 := hD.sub (ws' := [(dh, .inr (0, G0 da dlisted dshared dsailing w_6)), ((da 0), .inl (E 0, 9, .inl df0)), ((da 1), .inl (E 0, 9, .inl df1)), ((da 2), .inl (E 0, 9, .inl w_5)), ((da 3), .inl (E 0, 3, .inl df3)), ((da 4), .inl (E 0, 3, .inl df4))]) [1, 2, 3, 4, 5, 0] (by decide) rfl
    exact W.vret hx hb hr (fun t ht hW => ⟨⟨(df1, w_5, df4, w_6), rfl, trivial, by rw [ht]; exact hP9, hD9⟩, hS.F ht⟩) hS.2.2 dX0_tryFrom_18
  ·
    have ic_1 : p0.toInt < dlisted.toInt := by first | exact (g_lt rfl rfl).mp c_1 | (have h := mt (g_le rfl rfl).mpr c_1; omega)
    clear c_1
    refine lv_iload_n hx hb dX0_tryFrom_8 rfl (lv_at hl 1 rfl) ?_
    refine lv_bipush (v := 9) hx hb dX0_tryFrom_9 (by decide) ?_
    refine lv_icmp_lt (tgt := 19) hx hb dX0_tryFrom_11 (by decide) (fun c_7 => ?_) (fun c_7 => absurd (by rw [g_lt rfl t_9]; omega) c_7)
    refine lv_iconst (v := 0) hx hb dX0_tryFrom_19 (by decide) ?_
    refine lv_istore_n (lv' := [(3, .int 0), (0, .ref dh), (1, .int p0), (2, .int p1)]) hx hb dX0_tryFrom_20 rfl hl (by decide) rfl (fun ls hl => ?_)
    have loop_8 : ∀ (N_10 : Nat) (L3_21 : Int32) (dleastWorst_21 : Int32) (df1_21 : Nat → Int32) (df2_21 : Nat → Int32) (df4_21 : Nat → Int32) (H : Heap) (locs : List Loc) (ls : Array Slot), 3 - L3_21.toInt < (N_10 : Int) → (0 ≤ L3_21.toInt ∧ L3_21.toInt ≤ 3) → va_P D vwCl [(dh, .inr (0, G0 da dlisted dshared dsailing dleastWorst_21)), ((da 0), .inl (E 0, 9, .inl df0)), ((da 1), .inl (E 0, 9, .inl df1_21)), ((da 2), .inl (E 0, 9, .inl df2_21)), ((da 3), .inl (E 0, 3, .inl df3)), ((da 4), .inl (E 0, 3, .inl df4_21))] H → va_D A [(dh, .inr (0, G0 da dlisted dshared dsailing dleastWorst_21)), ((da 0), .inl (E 0, 9, .inl df0)), ((da 1), .inl (E 0, 9, .inl df1_21)), ((da 2), .inl (E 0, 9, .inl df2_21)), ((da 3), .inl (E 0, 3, .inl df3)), ((da 4), .inl (E 0, 3, .inl df4_21))] → va_S A s.heap H locs → lv_has ls 4 [(3, .int L3_21), (0, .ref dh), (1, .int p0), (2, .int p1)] → W p l e (headSpec (wl yX0_tryFrom cX0_tryFrom 4 none) (RM 4 0 0)).room s m [Value.ref dh, .int p0, .int p1].toArray below meth c H locs 0 0 (MQ below (va_Qv (fun (u : (Nat → Int32) × (Nat → Int32) × (Nat → Int32) × (Int32)) => True) (mu_B D A (fun (u : (Nat → Int32) × (Nat → Int32) × (Nat → Int32) × (Int32)) => [(dh, .inr (0, G0 da dlisted dshared dsailing u.2.2.2)), ((da 0), .inl (E 0, 9, .inl df0)), ((da 1), .inl (E 0, 9, .inl u.1)), ((da 2), .inl (E 0, 9, .inl u.2.1)), ((da 3), .inl (E 0, 3, .inl df3)), ((da 4), .inl (E 0, 3, .inl u.2.2.1))])) A) [Value.ref dh, .int p0, .int p1].toArray s 0 0 A) (F0 m 21 ls []) := by
      intro N_10
      induction N_10 with
      | zero => intro L3_21 dleastWorst_21 df1_21 df2_21 df4_21 H locs ls hm v0_21 _ _ _ _; exfalso; omega
      | succ N_10 ih_9 =>
        intro L3_21 dleastWorst_21 df1_21 df2_21 df4_21 H locs ls hm v0_21 hP hD hS hl
        have lo_L3_21 := i_lo L3_21; have hi_L3_21 := i_hi L3_21
        have lo_dleastWorst_21 := i_lo dleastWorst_21; have hi_dleastWorst_21 := i_hi dleastWorst_21
        refine lv_iload_n hx hb dX0_tryFrom_21 rfl (lv_at hl 0 rfl) ?_
        refine lv_aload_n hx hb dX0_tryFrom_22 rfl (lv_at hl 1 rfl) ?_
        refine va_get (D := D) (ci := 0) (v := .int dsailing) (C := RX0) (T := TX0) (N := 9) hx hb htb iX0 hown hK.1 hP 0 rfl rfl 7 (by decide) (htb _ k_200) (fun _ h9 => h9) rfl dX0_tryFrom_23 ?_
        refine lv_icmp_ge (tgt := 89) hx hb dX0_tryFrom_26 (by decide) (fun c_11 => ?_) (fun c_11 => ?_)
        ·
          have ic_11 : dsailing.toInt ≤ L3_21.toInt := by first | exact (g_le rfl rfl).mp c_11 | (have h := mt (g_lt rfl rfl).mpr c_11; omega)
          clear c_11
          refine lv_iload_n hx hb dX0_tryFrom_89 rfl (lv_at hl 3 rfl) ?_
          refine lv_if_le (tgt := 110) hx hb dX0_tryFrom_90 (by decide) (fun c_12 => ?_) (fun c_12 => ?_)
          ·
            have ic_12 : p1.toInt ≤ 0 := by first | exact (g_le rfl t_0).mp c_12 | (have h := mt (g_lt t_0 rfl).mpr c_12; omega)
            clear c_12
            have hP9 := hP.sub (ws' := [(dh, .inr (0, G0 da dlisted dshared dsailing dleastWorst_21)), ((da 0), .inl (E 0, 9, .inl df0)), ((da 1), .inl (E 0, 9, .inl df1_21)), ((da 2), .inl (E 0, 9, .inl df2_21)), ((da 3), .inl (E 0, 3, .inl df3)), ((da 4), .inl (E 0, 3, .inl df4_21))]) [0, 1, 2, 3, 4, 5] rfl
            have hD9 := hD.sub (ws' := [(dh, .inr (0, G0 da dlisted dshared dsailing dleastWorst_21)), ((da 0), .inl (E 0, 9, .inl df0)), ((da 1), .inl (E 0, 9, .inl df1_21)), ((da 2), .inl (E 0, 9, .inl df2_21)), ((da 3), .inl (E 0, 3, .inl df3)), ((da 4), .inl (E 0, 3, .inl df4_21))]) [0, 1, 2, 3, 4, 5] (by decide) rfl
            exact W.vret hx hb hr (fun t ht hW => ⟨⟨(df1_21, df2_21, df4_21, dleastWorst_21), rfl, trivial, by rw [ht]; exact hP9, hD9⟩, hS.F ht⟩) hS.2.2 dX0_tryFrom_110
          ·
            have ic_12 : 0 < p1.toInt := by first | exact (g_lt t_0 rfl).mp c_12 | (have h := mt (g_le rfl t_0).mpr c_12; omega)
            clear c_12
            refine lv_aload_n hx hb dX0_tryFrom_93 rfl (lv_at hl 1 rfl) ?_
            refine va_get (D := D) (ci := 0) (v := .ref (da 1)) (C := RX0) (T := TX0) (N := 9) hx hb htb iX0 hown hK.1 hP 0 rfl rfl 1 (by decide) (htb _ k_191) (fun _ h9 => h9) rfl dX0_tryFrom_94 ?_
            refine lv_iload_n hx hb dX0_tryFrom_97 rfl (lv_at hl 2 rfl) ?_
            refine lv_iconst (v := (-1)) hx hb dX0_tryFrom_98 (by decide) ?_
            refine va_iast hx hb hK.1 hP hD hS 2 0 rfl rfl (g_in rfl (by omega) (by omega)) dX0_tryFrom_99 (fun H locs hP hD hS => ?_)
            have hP : va_P D vwCl [(dh, .inr (0, G0 da dlisted dshared dsailing dleastWorst_21)), ((da 0), .inl (E 0, 9, .inl df0)), ((da 1), .inl (E 0, 9, .inl (upd df1_21 (p0 : Int32).toNatClampNeg (-1)))), ((da 2), .inl (E 0, 9, .inl df2_21)), ((da 3), .inl (E 0, 3, .inl df3)), ((da 4), .inl (E 0, 3, .inl df4_21))] H := hP
            have hD := toW hP hD rfl
            refine lv_aload_n hx hb dX0_tryFrom_100 rfl (lv_at hl 1 rfl) ?_
            refine lv_iload_n hx hb dX0_tryFrom_101 rfl (lv_at hl 2 rfl) ?_
            refine lv_iconst (v := 1) hx hb dX0_tryFrom_102 (by decide) ?_
            refine lv_iadd hx hb dX0_tryFrom_103 ?_
            refine lv_topi (fun z_13 ez_13 => ?_)
            have jz_13 : z_13.toInt = p0.toInt + 1 := by rw [ez_13]; exact g_add rfl t_1 (by omega) (by omega)
            refine lv_iload_n hx hb dX0_tryFrom_104 rfl (lv_at hl 3 rfl) ?_
            refine lv_iconst (v := 1) hx hb dX0_tryFrom_105 (by decide) ?_
            refine lv_isub hx hb dX0_tryFrom_106 ?_
            refine lv_topi (fun z_14 ez_14 => ?_)
            have jz_14 : z_14.toInt = p1.toInt - 1 := by rw [ez_14]; exact g_sub rfl t_1 (by omega) (by omega)
            have hPc := hP.sub (ws' := [(dh, .inr (0, G0 da dlisted dshared dsailing dleastWorst_21)), ((da 0), .inl (E 0, 9, .inl df0)), ((da 1), .inl (E 0, 9, .inl (upd df1_21 (p0 : Int32).toNatClampNeg (-1)))), ((da 2), .inl (E 0, 9, .inl df2_21)), ((da 3), .inl (E 0, 3, .inl df3))]) [0, 1, 2, 3, 4] rfl
            have hDc := hD.sub (ws' := [(dh, .inr (0, G0 da dlisted dshared dsailing dleastWorst_21)), ((da 0), .inl (E 0, 9, .inl df0)), ((da 1), .inl (E 0, 9, .inl (upd df1_21 (p0 : Int32).toNatClampNeg (-1)))), ((da 2), .inl (E 0, 9, .inl df2_21)), ((da 3), .inl (E 0, 3, .inl df3))]) [0, 1, 2, 3, 4] (by decide) rfl
            refine aft_v (runMV (rest := []) (As := [.int z_13, .int z_14]) hx hb hml hown htb hK (g_X0_tryFrom_0 l D E dh da dlisted dshared dsailing dleastWorst_21 df0 (upd df1_21 (p0 : Int32).toNatClampNeg (-1)) df2_21 df3 z_13 z_14 _ (by (try dsimp only); omega) (by (try dsimp only); omega)) ok_X0_tryFrom k_905 k_907 ks_34 k_7 k_908 ⟨(Nat.le_of_ble_eq_true rfl), (Nat.le_of_ble_eq_true rfl)⟩ ⟨(Nat.le_of_ble_eq_true rfl), (Nat.le_of_ble_eq_true rfl)⟩ hl.1 (Nat.le_of_ble_eq_true rfl) rfl rfl dX0_tryFrom_107 hPc hDc rfl rfl 0 rfl) hP hD hS hA [0, 1, 2, 3, 4] [5] (wr := [((da 4), .inl (E 0, 3, .inl df4_21))]) rfl rfl (by decide) (by decide) (fun u_17 H locs hw_16 hP hD hS => ?_)
            clear hPc hDc
            obtain ⟨w_18, w_19⟩ := u_17
            try dsimp only at hw_16
            have hP : va_P D vwCl [((da 4), .inl (E 0, 3, .inl df4_21)), (dh, .inr (0, G0 da dlisted dshared dsailing w_19)), ((da 0), .inl (E 0, 9, .inl df0)), ((da 1), .inl (E 0, 9, .inl (upd df1_21 (p0 : Int32).toNatClampNeg (-1)))), ((da 2), .inl (E 0, 9, .inl w_18)), ((da 3), .inl (E 0, 3, .inl df3))] H := hP
            have hD := toW hP hD rfl
            have hP9 := hP.sub (ws' := [(dh, .inr (0, G0 da dlisted dshared dsailing w_19)), ((da 0), .inl (E 0, 9, .inl df0)), ((da 1), .inl (E 0, 9, .inl (upd df1_21 (p0 : Int32).toNatClampNeg (-1)))), ((da 2), .inl (E 0, 9, .inl w_18)), ((da 3), .inl (E 0, 3, .inl df3)), ((da 4), .inl (E 0, 3, .inl df4_21))]) [1, 2, 3, 4, 5, 0] rfl
            have hD9 := hD.sub (ws' := [(dh, .inr (0, G0 da dlisted dshared dsailing w_19)), ((da 0), .inl (E 0, 9, .inl df0)), ((da 1), .inl (E 0, 9, .inl (upd df1_21 (p0 : Int32).toNatClampNeg (-1)))), ((da 2), .inl (E 0, 9, .inl w_18)), ((da 3), .inl (E 0, 3, .inl df3)), ((da 4), .inl (E 0, 3, .inl df4_21))]) [1, 2, 3, 4, 5, 0] (by decide) rfl
            exact W.vret hx hb hr (fun t ht hW => ⟨⟨((upd df1_21 (p0 : Int32).toNatClampNeg (-1)), w_18, df4_21, w_19), rfl, trivial, by rw [ht]; exact hP9, hD9⟩, hS.F ht⟩) hS.2.2 dX0_tryFrom_110
        ·
          have ic_11 : L3_21.toInt < dsailing.toInt := by first | exact (g_lt rfl rfl).mp c_11 | (have h := mt (g_le rfl rfl).mpr c_11; omega)
          clear c_11
          refine lv_iload_n hx hb dX0_tryFrom_29 rfl (lv_at hl 0 rfl) ?_
          refine lv_aload_n hx hb dX0_tryFrom_30 rfl (lv_at hl 1 rfl) ?_
          refine va_get (D := D) (ci := 0) (v := .ref (da 4)) (C := RX0) (T := TX0) (N := 9) hx hb htb iX0 hown hK.1 hP 0 rfl rfl 4 (by decide) (htb _ k_195) (fun _ h9 => h9) rfl dX0_tryFrom_31 ?_
          refine va_alen hx hb hK.1 hP 5 0 rfl rfl (v := 3) (show Int32.ofNat 3 = 3 by decide) dX0_tryFrom_34 ?_
          refine lv_icmp_ge (tgt := 89) hx hb dX0_tryFrom_35 (by decide) (fun c_20 => absurd c_20 (by rw [g_le t_3 rfl]; omega)) (fun c_20 => ?_)
          refine lv_aload_n hx hb dX0_tryFrom_38 rfl (lv_at hl 1 rfl) ?_
          refine va_get (D := D) (ci := 0) (v := .ref (da 4)) (C := RX0) (T := TX0) (N := 9) hx hb htb iX0 hown hK.1 hP 0 rfl rfl 4 (by decide) (htb _ k_195) (fun _ h9 => h9) rfl dX0_tryFrom_39 ?_
          refine lv_iload_n hx hb dX0_tryFrom_42 rfl (lv_at hl 0 rfl) ?_
          refine va_iald hx hb hK.1 hP 5 0 rfl rfl (g_in rfl (by omega) (by omega)) dX0_tryFrom_43 ?_
          refine lv_topi (fun z_21 ez_21 => ?_)
          have kz_21 := congrArg Int32.toInt ez_21
          refine lv_iconst (v := 3) hx hb dX0_tryFrom_44 (by decide) ?_
          refine lv_icmp_ge (tgt := 83) hx hb dX0_tryFrom_45 (by decide) (fun c_22 => ?_) (fun c_22 => ?_)
          ·
            have ic_22 : 3 ≤ z_21.toInt := by first | exact (g_le t_3 rfl).mp c_22 | (have h := mt (g_lt rfl t_3).mpr c_22; omega)
            clear c_22
            obtain ⟨z_23, ez_23⟩ : ∃ y : Int32, y = L3_21 + 1 := ⟨_, rfl⟩
            have jz_23 : z_23.toInt = L3_21.toInt + 1 := by rw [ez_23]; exact g_add rfl t_1 (by omega) (by omega)
            refine lv_iinc (v := z_23) (lv' := [(3, .int z_23), (0, .ref dh), (1, .int p0), (2, .int p1)]) hx hb dX0_tryFrom_83 hl (k := 0) rfl (by rw [ez_23]; rfl) (by decide) rfl (fun ls hl => ?_)
            refine lv_goto (tgt := 21) hx hb dX0_tryFrom_86 (by decide) ?_
            exact ih_9 z_23 dleastWorst_21 df1_21 df2_21 df4_21 _ _ _ (by (try dsimp only); omega) (by (try dsimp only); omega) hP hD hS (lv_sub hl [0, 1, 2, 3] rfl)
          ·
            have ic_22 : z_21.toInt < 3 := by first | exact (g_lt rfl t_3).mp c_22 | (have h := mt (g_le t_3 rfl).mpr c_22; omega)
            clear c_22
            refine lv_aload_n hx hb dX0_tryFrom_48 rfl (lv_at hl 1 rfl) ?_
            refine va_get (D := D) (ci := 0) (v := .ref (da 1)) (C := RX0) (T := TX0) (N := 9) hx hb htb iX0 hown hK.1 hP 0 rfl rfl 1 (by decide) (htb _ k_191) (fun _ h9 => h9) rfl dX0_tryFrom_49 ?_
            refine lv_iload_n hx hb dX0_tryFrom_52 rfl (lv_at hl 2 rfl) ?_
            refine lv_iload_n hx hb dX0_tryFrom_53 rfl (lv_at hl 0 rfl) ?_
            refine va_iast hx hb hK.1 hP hD hS 2 0 rfl rfl (g_in rfl (by omega) (by omega)) dX0_tryFrom_54 (fun H locs hP hD hS => ?_)
            have hP : va_P D vwCl [(dh, .inr (0, G0 da dlisted dshared dsailing dleastWorst_21)), ((da 0), .inl (E 0, 9, .inl df0)), ((da 1), .inl (E 0, 9, .inl (upd df1_21 (p0 : Int32).toNatClampNeg L3_21))), ((da 2), .inl (E 0, 9, .inl df2_21)), ((da 3), .inl (E 0, 3, .inl df3)), ((da 4), .inl (E 0, 3, .inl df4_21))] H := hP
            have hD := toW hP hD rfl
            refine lv_aload_n hx hb dX0_tryFrom_55 rfl (lv_at hl 1 rfl) ?_
            refine va_get (D := D) (ci := 0) (v := .ref (da 4)) (C := RX0) (T := TX0) (N := 9) hx hb htb iX0 hown hK.1 hP 0 rfl rfl 4 (by decide) (htb _ k_195) (fun _ h9 => h9) rfl dX0_tryFrom_56 ?_
            refine lv_iload_n hx hb dX0_tryFrom_59 rfl (lv_at hl 0 rfl) ?_
            refine lv_dup2_11 hx hb dX0_tryFrom_60 rfl rfl ?_
            refine va_iald hx hb hK.1 hP 5 0 rfl rfl (g_in rfl (by omega) (by omega)) dX0_tryFrom_61 ?_
            refine lv_topi (fun z_24 ez_24 => ?_)
            have kz_24 := congrArg Int32.toInt ez_24
            refine lv_iconst (v := 1) hx hb dX0_tryFrom_62 (by decide) ?_
            refine lv_iadd hx hb dX0_tryFrom_63 ?_
            refine lv_topi (fun z_25 ez_25 => ?_)
            refine va_iast hx hb hK.1 hP hD hS 5 0 rfl rfl (g_in rfl (by omega) (by omega)) dX0_tryFrom_64 (fun H locs hP hD hS => ?_)
            have hP : va_P D vwCl [(dh, .inr (0, G0 da dlisted dshared dsailing dleastWorst_21)), ((da 0), .inl (E 0, 9, .inl df0)), ((da 1), .inl (E 0, 9, .inl (upd df1_21 (p0 : Int32).toNatClampNeg L3_21))), ((da 2), .inl (E 0, 9, .inl df2_21)), ((da 3), .inl (E 0, 3, .inl df3)), ((da 4), .inl (E 0, 3, .inl (upd df4_21 (L3_21 : Int32).toNatClampNeg z_25)))] H := hP
            have hD := toW hP hD rfl
            refine lv_aload_n hx hb dX0_tryFrom_65 rfl (lv_at hl 1 rfl) ?_
            refine lv_iload_n hx hb dX0_tryFrom_66 rfl (lv_at hl 2 rfl) ?_
            refine lv_iconst (v := 1) hx hb dX0_tryFrom_67 (by decide) ?_
            refine lv_iadd hx hb dX0_tryFrom_68 ?_
            refine lv_topi (fun z_26 ez_26 => ?_)
            have jz_26 : z_26.toInt = p0.toInt + 1 := by rw [ez_26]; exact g_add rfl t_1 (by omega) (by omega)
            refine lv_iload_n hx hb dX0_tryFrom_69 rfl (lv_at hl 3 rfl) ?_
            have hPc := hP.sub (ws' := [(dh, .inr (0, G0 da dlisted dshared dsailing dleastWorst_21)), ((da 0), .inl (E 0, 9, .inl df0)), ((da 1), .inl (E 0, 9, .inl (upd df1_21 (p0 : Int32).toNatClampNeg L3_21))), ((da 2), .inl (E 0, 9, .inl df2_21)), ((da 3), .inl (E 0, 3, .inl df3))]) [0, 1, 2, 3, 4] rfl
            have hDc := hD.sub (ws' := [(dh, .inr (0, G0 da dlisted dshared dsailing dleastWorst_21)), ((da 0), .inl (E 0, 9, .inl df0)), ((da 1), .inl (E 0, 9, .inl (upd df1_21 (p0 : Int32).toNatClampNeg L3_21))), ((da 2), .inl (E 0, 9, .inl df2_21)), ((da 3), .inl (E 0, 3, .inl df3))]) [0, 1, 2, 3, 4] (by decide) rfl
            refine aft_v (runMV (rest := []) (As := [.int z_26, .int p1]) hx hb hml hown htb hK (g_X0_tryFrom_0 l D E dh da dlisted dshared dsailing dleastWorst_21 df0 (upd df1_21 (p0 : Int32).toNatClampNeg L3_21) df2_21 df3 z_26 p1 _ (by (try dsimp only); omega) (by (try dsimp only); omega)) ok_X0_tryFrom k_905 k_907 ks_34 k_7 k_908 ⟨(Nat.le_of_ble_eq_true rfl), (Nat.le_of_ble_eq_true rfl)⟩ ⟨(Nat.le_of_ble_eq_true rfl), (Nat.le_of_ble_eq_true rfl)⟩ hl.1 (Nat.le_of_ble_eq_true rfl) rfl rfl dX0_tryFrom_70 hPc hDc rfl rfl 0 rfl) hP hD hS hA [0, 1, 2, 3, 4] [5] (wr := [((da 4), .inl (E 0, 3, .inl (upd df4_21 (L3_21 : Int32).toNatClampNeg z_25)))]) rfl rfl (by decide) (by decide) (fun u_29 H locs hw_28 hP hD hS => ?_)
            clear hPc hDc
            obtain ⟨w_30, w_31⟩ := u_29
            try dsimp only at hw_28
            have hP : va_P D vwCl [((da 4), .inl (E 0, 3, .inl (upd df4_21 (L3_21 : Int32).toNatClampNeg z_25))), (dh, .inr (0, G0 da dlisted dshared dsailing w_31)), ((da 0), .inl (E 0, 9, .inl df0)), ((da 1), .inl (E 0, 9, .inl (upd df1_21 (p0 : Int32).toNatClampNeg L3_21))), ((da 2), .inl (E 0, 9, .inl w_30)), ((da 3), .inl (E 0, 3, .inl df3))] H := hP
            have hD := toW hP hD rfl
            refine lv_aload_n hx hb dX0_tryFrom_73 rfl (lv_at hl 1 rfl) ?_
            refine va_get (D := D) (ci := 0) (v := .ref (da 4)) (C := RX0) (T := TX0) (N := 9) hx hb htb iX0 hown hK.1 hP 1 rfl rfl 4 (by decide) (htb _ k_195) (fun _ h9 => h9) rfl dX0_tryFrom_74 ?_
            refine lv_iload_n hx hb dX0_tryFrom_77 rfl (lv_at hl 0 rfl) ?_
            refine lv_dup2_11 hx hb dX0_tryFrom_78 rfl rfl ?_
            refine va_iald hx hb hK.1 hP 0 0 rfl rfl (g_in rfl (by omega) (by omega)) dX0_tryFrom_79 ?_
            refine lv_topi (fun z_32 ez_32 => ?_)
            have kz_32 := congrArg Int32.toInt ez_32
            refine lv_iconst (v := 1) hx hb dX0_tryFrom_80 (by decide) ?_
            refine lv_isub hx hb dX0_tryFrom_81 ?_
            refine lv_topi (fun z_33 ez_33 => ?_)
            refine va_iast hx hb hK.1 hP hD hS 0 0 rfl rfl (g_in rfl (by omega) (by omega)) dX0_tryFrom_82 (fun H locs hP hD hS => ?_)
            have hP : va_P D vwCl [((da 4), .inl (E 0, 3, .inl (upd (upd df4_21 (L3_21 : Int32).toNatClampNeg z_25) (L3_21 : Int32).toNatClampNeg z_33))), (dh, .inr (0, G0 da dlisted dshared dsailing w_31)), ((da 0), .inl (E 0, 9, .inl df0)), ((da 1), .inl (E 0, 9, .inl (upd df1_21 (p0 : Int32).toNatClampNeg L3_21))), ((da 2), .inl (E 0, 9, .inl w_30)), ((da 3), .inl (E 0, 3, .inl df3))] H := hP
            have hD := toW hP hD rfl
            generalize (upd (upd df4_21 (L3_21 : Int32).toNatClampNeg z_25) (L3_21 : Int32).toNatClampNeg z_33) = g_34 at hP hD
            obtain ⟨z_35, ez_35⟩ : ∃ y : Int32, y = L3_21 + 1 := ⟨_, rfl⟩
            have jz_35 : z_35.toInt = L3_21.toInt + 1 := by rw [ez_35]; exact g_add rfl t_1 (by omega) (by omega)
            refine lv_iinc (v := z_35) (lv' := [(3, .int z_35), (0, .ref dh), (1, .int p0), (2, .int p1)]) hx hb dX0_tryFrom_83 hl (k := 0) rfl (by rw [ez_35]; rfl) (by decide) rfl (fun ls hl => ?_)
            refine lv_goto (tgt := 21) hx hb dX0_tryFrom_86 (by decide) ?_
            have hP := hP.sub (ws' := [(dh, .inr (0, G0 da dlisted dshared dsailing w_31)), ((da 0), .inl (E 0, 9, .inl df0)), ((da 1), .inl (E 0, 9, .inl (upd df1_21 (p0 : Int32).toNatClampNeg L3_21))), ((da 2), .inl (E 0, 9, .inl w_30)), ((da 3), .inl (E 0, 3, .inl df3)), ((da 4), .inl (E 0, 3, .inl g_34))]) [1, 2, 3, 4, 5, 0] rfl
            have hD := hD.sub (ws' := [(dh, .inr (0, G0 da dlisted dshared dsailing w_31)), ((da 0), .inl (E 0, 9, .inl df0)), ((da 1), .inl (E 0, 9, .inl (upd df1_21 (p0 : Int32).toNatClampNeg L3_21))), ((da 2), .inl (E 0, 9, .inl w_30)), ((da 3), .inl (E 0, 3, .inl df3)), ((da 4), .inl (E 0, 3, .inl g_34))]) [1, 2, 3, 4, 5, 0] (by decide) rfl
            exact ih_9 z_35 w_31 (upd df1_21 (p0 : Int32).toNatClampNeg L3_21) w_30 g_34 _ _ _ (by (try dsimp only); omega) (by (try dsimp only); omega) hP hD hS (lv_sub hl [0, 1, 2, 3] rfl)
    exact loop_8 4 0 dleastWorst df1 df2 df4 _ _ _ (by have h0 := t_0; (try dsimp only); omega) (by have h0 := t_0; (try dsimp only); omega) hP hD hS (lv_sub hl [0, 1, 2, 3] rfl)
set_option maxHeartbeats 4000000 in
set_option maxRecDepth 100000 in
theorem g_X0_tryFrom_2 (l : Launch) (D : va_G) (E : Nat → Nat) (dh : Nat) (da : Nat → Nat) (dlisted : Int32) (dshared : Int32) (dsailing : Int32) (dleastWorst : Int32) (df0 : Nat → Int32) (df1 : Nat → Int32) (df2 : Nat → Int32) (df3 : Nat → Int32) (df4 : Nat → Int32) (p0 : Int32) (p1 : Int32) (sz : Nat) (hi_d : (0 ≤ dlisted.toInt ∧ dlisted.toInt ≤ 9) ∧ (0 ≤ dshared.toInt ∧ dshared.toInt ≤ 9) ∧ (0 ≤ dsailing.toInt ∧ dsailing.toInt ≤ 3)) (g0 : 7 ≤ p0.toInt ∧ p0.toInt ≤ 9) : Met l yX0_tryFrom (wl yX0_tryFrom cX0_tryFrom 4 none) (RM 5 0 0) (mu_P D E [.ref dh, .int p0, .int p1] [(dh, .inr (0, G0 da dlisted dshared dsailing dleastWorst)), ((da 0), .inl (E 0, 9, .inl df0)), ((da 1), .inl (E 0, 9, .inl df1)), ((da 2), .inl (E 0, 9, .inl df2)), ((da 3), .inl (E 0, 3, .inl df3)), ((da 4), .inl (E 0, 3, .inl df4))] sz) (va_Qv (fun (u : (Nat → Int32) × (Nat → Int32) × (Nat → Int32) × (Int32)) => True) (mu_B D (va_A [(dh, .inr (0, G0 da dlisted dshared dsailing dleastWorst)), ((da 0), .inl (E 0, 9, .inl df0)), ((da 1), .inl (E 0, 9, .inl df1)), ((da 2), .inl (E 0, 9, .inl df2)), ((da 3), .inl (E 0, 3, .inl df3)), ((da 4), .inl (E 0, 3, .inl df4))] sz) (fun (u : (Nat → Int32) × (Nat → Int32) × (Nat → Int32) × (Int32)) => [(dh, .inr (0, G0 da dlisted dshared dsailing u.2.2.2)), ((da 0), .inl (E 0, 9, .inl df0)), ((da 1), .inl (E 0, 9, .inl u.1)), ((da 2), .inl (E 0, 9, .inl u.2.1)), ((da 3), .inl (E 0, 3, .inl df3)), ((da 4), .inl (E 0, 3, .inl u.2.2.1))])) (va_A [(dh, .inr (0, G0 da dlisted dshared dsailing dleastWorst)), ((da 0), .inl (E 0, 9, .inl df0)), ((da 1), .inl (E 0, 9, .inl df1)), ((da 2), .inl (E 0, 9, .inl df2)), ((da 3), .inl (E 0, 3, .inl df3)), ((da 4), .inl (E 0, 3, .inl df4))] sz)) 0 0 (va_A [(dh, .inr (0, G0 da dlisted dshared dsailing dleastWorst)), ((da 0), .inl (E 0, 9, .inl df0)), ((da 1), .inl (E 0, 9, .inl df1)), ((da 2), .inl (E 0, 9, .inl df2)), ((da 3), .inl (E 0, 3, .inl df3)), ((da 4), .inl (E 0, 3, .inl df4))] sz) := by
  refine Met.ofW (cc := cX0_tryFrom) (maxL := 4) (ret := none) (by decide) rfl ?_
  intro p e s m args below meth c s₁ B hml hv
  obtain ⟨rfl, hsz, hP, hK, hD0⟩ := hv
  have hx := B.exec; have hb := B.bytes; have hr := B.returns
  have hts := atoms_spec (ws := wl yX0_tryFrom cX0_tryFrom 4 none) B.pre
  have htb : ∀ w ∈ tb, w.before _ s = true := fun w h => hts w (List.mem_cons_of_mem _ h)
  have hown : s.vm.findClass RX0 = some m.cls := findClass_of_methodNamed B.named
  have hlocks := B.notSynchronized
  subst hsz
  have hD := hD0.self (sz := s.heap.size)
  generalize hAe : va_A [(dh, .inr (0, G0 da dlisted dshared dsailing dleastWorst)), ((da 0), .inl (E 0, 9, .inl df0)), ((da 1), .inl (E 0, 9, .inl df1)), ((da 2), .inl (E 0, 9, .inl df2)), ((da 3), .inl (E 0, 3, .inl df3)), ((da 4), .inl (E 0, 3, .inl df4))] s.heap.size = A at hD ⊢
  have hA : ∀ q : Nat, s.heap.size ≤ q → A q := fun q h => by rw [← hAe]; exact Or.inr h
  have hS : va_S A s.heap s.heap [] := va_S.rf
  have hP : va_P D vwCl [(dh, .inr (0, G0 da dlisted dshared dsailing dleastWorst)), ((da 0), .inl (E 0, 9, .inl df0)), ((da 1), .inl (E 0, 9, .inl df1)), ((da 2), .inl (E 0, 9, .inl df2)), ((da 3), .inl (E 0, 3, .inl df3)), ((da 4), .inl (E 0, 3, .inl df4))] s.heap := hP
  have hl := lv_entry ([.ref dh, .int p0, .int p1]) (n := 4) (Nat.le_of_ble_eq_true rfl)
  rw [lg_entry_eq]
  generalize (lg_sl ([.ref dh, .int p0, .int p1]) ++ List.replicate (4 - (lg_sl ([.ref dh, .int p0, .int p1])).length) Slot.unset).toArray = ls at hl ⊢
  have hl : lv_has ls 4 [(0, .ref dh), (1, .int p0), (2, .int p1)] := hl
  have lo_p0 := i_lo p0; have hi_p0 := i_hi p0
  have lo_p1 := i_lo p1; have hi_p1 := i_hi p1
  refine lv_iload_n hx hb dX0_tryFrom_0 rfl (lv_at hl 1 rfl) ?_
  refine lv_aload_n hx hb dX0_tryFrom_1 rfl (lv_at hl 0 rfl) ?_
  refine va_get (D := D) (ci := 0) (v := .int dlisted) (C := RX0) (T := TX0) (N := 9) hx hb htb iX0 hown hK.1 hP 0 rfl rfl 5 (by decide) (htb _ k_196) (fun _ h9 => h9) rfl dX0_tryFrom_2 ?_
  refine lv_icmp_ge (tgt := 14) hx hb dX0_tryFrom_5 (by decide) (fun c_1 => ?_) (fun c_1 => ?_)
  ·
    have ic_1 : dlisted.toInt ≤ p0.toInt := by first | exact (g_le rfl rfl).mp c_1 | (have h := mt (g_lt rfl rfl).mpr c_1; omega)
    clear c_1
    refine lv_aload_n hx hb dX0_tryFrom_14 rfl (lv_at hl 0 rfl) ?_
    have hPc := hP.sub (ws' := [(dh, .inr (0, G0 da dlisted dshared dsailing dleastWorst)), ((da 0), .inl (E 0, 9, .inl df0)), ((da 1), .inl (E 0, 9, .inl df1)), ((da 2), .inl (E 0, 9, .inl df2)), ((da 3), .inl (E 0, 3, .inl df3))]) [0, 1, 2, 3, 4] rfl
    have hDc := hD.sub (ws' := [(dh, .inr (0, G0 da dlisted dshared dsailing dleastWorst)), ((da 0), .inl (E 0, 9, .inl df0)), ((da 1), .inl (E 0, 9, .inl df1)), ((da 2), .inl (E 0, 9, .inl df2)), ((da 3), .inl (E 0, 3, .inl df3))]) [0, 1, 2, 3, 4] (by decide) rfl
    refine aft_v (runMV (rest := []) (As := []) hx hb hml hown htb hK (g_X0_keepIfBetter l D E dh da dlisted dshared dsailing dleastWorst df0 df1 df2 df3 _ (by (try dsimp only); omega)) ok_X0_keepIfBetter k_909 k_911 ks_35 k_7 k_912 ⟨(Nat.le_of_ble_eq_true rfl), (Nat.le_of_ble_eq_true rfl)⟩ ⟨(Nat.le_of_ble_eq_true rfl), (Nat.le_of_ble_eq_true rfl)⟩ hl.1 (Nat.le_of_ble_eq_true rfl) rfl rfl dX0_tryFrom_15 hPc hDc rfl rfl 0 rfl) hP hD hS hA [0, 1, 2, 3, 4] [5] (wr := [((da 4), .inl (E 0, 3, .inl df4))]) rfl rfl (by decide) (by decide) (fun u_4 H locs hw_3 hP hD hS => ?_)
    clear hPc hDc
    obtain ⟨w_5, w_6⟩ := u_4
    try dsimp only at hw_3
    have hP : va_P D vwCl [((da 4), .inl (E 0, 3, .inl df4)), (dh, .inr (0, G0 da dlisted dshared dsailing w_6)), ((da 0), .inl (E 0, 9, .inl df0)), ((da 1), .inl (E 0, 9, .inl df1)), ((da 2), .inl (E 0, 9, .inl w_5)), ((da 3), .inl (E 0, 3, .inl df3))] H := hP
    have hD := toW hP hD rfl
    have hP9 := hP.sub (ws' := [(dh, .inr (0, G0 da dlisted dshared dsailing w_6)), ((da 0), .inl (E 0, 9, .inl df0)), ((da 1), .inl (E 0, 9, .inl df1)), ((da 2), .inl (E 0, 9, .inl w_5)), ((da 3), .inl (E 0, 3, .inl df3)), ((da 4), .inl (E 0, 3, .inl df4))]) [1, 2, 3, 4, 5, 0] rfl
    have hD9 := hD.sub (ws' := [(dh, .inr (0, G0 da dlisted dshared dsailing w_6)), ((da 0), .inl (E 0, 9, .inl df0)), ((da 1), .inl (E 0, 9, .inl df1)), ((da 2), .inl (E 0, 9, .inl w_5)), ((da 3), .inl (E 0, 3, .inl df3)), ((da 4), .inl (E 0, 3, .inl df4))]) [1, 2, 3, 4, 5, 0] (by decide) rfl
    exact W.vret hx hb hr (fun t ht hW => ⟨⟨(df1, w_5, df4, w_6), rfl, trivial, by rw [ht]; exact hP9, hD9⟩, hS.F ht⟩) hS.2.2 dX0_tryFrom_18
  ·
    have ic_1 : p0.toInt < dlisted.toInt := by first | exact (g_lt rfl rfl).mp c_1 | (have h := mt (g_le rfl rfl).mpr c_1; omega)
    clear c_1
    refine lv_iload_n hx hb dX0_tryFrom_8 rfl (lv_at hl 1 rfl) ?_
    refine lv_bipush (v := 9) hx hb dX0_tryFrom_9 (by decide) ?_
    refine lv_icmp_lt (tgt := 19) hx hb dX0_tryFrom_11 (by decide) (fun c_7 => ?_) (fun c_7 => absurd (by rw [g_lt rfl t_9]; omega) c_7)
    refine lv_iconst (v := 0) hx hb dX0_tryFrom_19 (by decide) ?_
    refine lv_istore_n (lv' := [(3, .int 0), (0, .ref dh), (1, .int p0), (2, .int p1)]) hx hb dX0_tryFrom_20 rfl hl (by decide) rfl (fun ls hl => ?_)
    have loop_8 : ∀ (N_10 : Nat) (L3_21 : Int32) (dleastWorst_21 : Int32) (df1_21 : Nat → Int32) (df2_21 : Nat → Int32) (df4_21 : Nat → Int32) (H : Heap) (locs : List Loc) (ls : Array Slot), 3 - L3_21.toInt < (N_10 : Int) → (0 ≤ L3_21.toInt ∧ L3_21.toInt ≤ 3) → va_P D vwCl [(dh, .inr (0, G0 da dlisted dshared dsailing dleastWorst_21)), ((da 0), .inl (E 0, 9, .inl df0)), ((da 1), .inl (E 0, 9, .inl df1_21)), ((da 2), .inl (E 0, 9, .inl df2_21)), ((da 3), .inl (E 0, 3, .inl df3)), ((da 4), .inl (E 0, 3, .inl df4_21))] H → va_D A [(dh, .inr (0, G0 da dlisted dshared dsailing dleastWorst_21)), ((da 0), .inl (E 0, 9, .inl df0)), ((da 1), .inl (E 0, 9, .inl df1_21)), ((da 2), .inl (E 0, 9, .inl df2_21)), ((da 3), .inl (E 0, 3, .inl df3)), ((da 4), .inl (E 0, 3, .inl df4_21))] → va_S A s.heap H locs → lv_has ls 4 [(3, .int L3_21), (0, .ref dh), (1, .int p0), (2, .int p1)] → W p l e (headSpec (wl yX0_tryFrom cX0_tryFrom 4 none) (RM 5 0 0)).room s m [Value.ref dh, .int p0, .int p1].toArray below meth c H locs 0 0 (MQ below (va_Qv (fun (u : (Nat → Int32) × (Nat → Int32) × (Nat → Int32) × (Int32)) => True) (mu_B D A (fun (u : (Nat → Int32) × (Nat → Int32) × (Nat → Int32) × (Int32)) => [(dh, .inr (0, G0 da dlisted dshared dsailing u.2.2.2)), ((da 0), .inl (E 0, 9, .inl df0)), ((da 1), .inl (E 0, 9, .inl u.1)), ((da 2), .inl (E 0, 9, .inl u.2.1)), ((da 3), .inl (E 0, 3, .inl df3)), ((da 4), .inl (E 0, 3, .inl u.2.2.1))])) A) [Value.ref dh, .int p0, .int p1].toArray s 0 0 A) (F0 m 21 ls []) := by
      intro N_10
      induction N_10 with
      | zero => intro L3_21 dleastWorst_21 df1_21 df2_21 df4_21 H locs ls hm v0_21 _ _ _ _; exfalso; omega
      | succ N_10 ih_9 =>
        intro L3_21 dleastWorst_21 df1_21 df2_21 df4_21 H locs ls hm v0_21 hP hD hS hl
        have lo_L3_21 := i_lo L3_21; have hi_L3_21 := i_hi L3_21
        have lo_dleastWorst_21 := i_lo dleastWorst_21; have hi_dleastWorst_21 := i_hi dleastWorst_21
        refine lv_iload_n hx hb dX0_tryFrom_21 rfl (lv_at hl 0 rfl) ?_
        refine lv_aload_n hx hb dX0_tryFrom_22 rfl (lv_at hl 1 rfl) ?_
        refine va_get (D := D) (ci := 0) (v := .int dsailing) (C := RX0) (T := TX0) (N := 9) hx hb htb iX0 hown hK.1 hP 0 rfl rfl 7 (by decide) (htb _ k_200) (fun _ h9 => h9) rfl dX0_tryFrom_23 ?_
        refine lv_icmp_ge (tgt := 89) hx hb dX0_tryFrom_26 (by decide) (fun c_11 => ?_) (fun c_11 => ?_)
        ·
          have ic_11 : dsailing.toInt ≤ L3_21.toInt := by first | exact (g_le rfl rfl).mp c_11 | (have h := mt (g_lt rfl rfl).mpr c_11; omega)
          clear c_11
          refine lv_iload_n hx hb dX0_tryFrom_89 rfl (lv_at hl 3 rfl) ?_
          refine lv_if_le (tgt := 110) hx hb dX0_tryFrom_90 (by decide) (fun c_12 => ?_) (fun c_12 => ?_)
          ·
            have ic_12 : p1.toInt ≤ 0 := by first | exact (g_le rfl t_0).mp c_12 | (have h := mt (g_lt t_0 rfl).mpr c_12; omega)
            clear c_12
            have hP9 := hP.sub (ws' := [(dh, .inr (0, G0 da dlisted dshared dsailing dleastWorst_21)), ((da 0), .inl (E 0, 9, .inl df0)), ((da 1), .inl (E 0, 9, .inl df1_21)), ((da 2), .inl (E 0, 9, .inl df2_21)), ((da 3), .inl (E 0, 3, .inl df3)), ((da 4), .inl (E 0, 3, .inl df4_21))]) [0, 1, 2, 3, 4, 5] rfl
            have hD9 := hD.sub (ws' := [(dh, .inr (0, G0 da dlisted dshared dsailing dleastWorst_21)), ((da 0), .inl (E 0, 9, .inl df0)), ((da 1), .inl (E 0, 9, .inl df1_21)), ((da 2), .inl (E 0, 9, .inl df2_21)), ((da 3), .inl (E 0, 3, .inl df3)), ((da 4), .inl (E 0, 3, .inl df4_21))]) [0, 1, 2, 3, 4, 5] (by decide) rfl
            exact W.vret hx hb hr (fun t ht hW => ⟨⟨(df1_21, df2_21, df4_21, dleastWorst_21), rfl, trivial, by rw [ht]; exact hP9, hD9⟩, hS.F ht⟩) hS.2.2 dX0_tryFrom_110
          ·
            have ic_12 : 0 < p1.toInt := by first | exact (g_lt t_0 rfl).mp c_12 | (have h := mt (g_le rfl t_0).mpr c_12; omega)
            clear c_12
            refine lv_aload_n hx hb dX0_tryFrom_93 rfl (lv_at hl 1 rfl) ?_
            refine va_get (D := D) (ci := 0) (v := .ref (da 1)) (C := RX0) (T := TX0) (N := 9) hx hb htb iX0 hown hK.1 hP 0 rfl rfl 1 (by decide) (htb _ k_191) (fun _ h9 => h9) rfl dX0_tryFrom_94 ?_
            refine lv_iload_n hx hb dX0_tryFrom_97 rfl (lv_at hl 2 rfl) ?_
            refine lv_iconst (v := (-1)) hx hb dX0_tryFrom_98 (by decide) ?_
            refine va_iast hx hb hK.1 hP hD hS 2 0 rfl rfl (g_in rfl (by omega) (by omega)) dX0_tryFrom_99 (fun H locs hP hD hS => ?_)
            have hP : va_P D vwCl [(dh, .inr (0, G0 da dlisted dshared dsailing dleastWorst_21)), ((da 0), .inl (E 0, 9, .inl df0)), ((da 1), .inl (E 0, 9, .inl (upd df1_21 (p0 : Int32).toNatClampNeg (-1)))), ((da 2), .inl (E 0, 9, .inl df2_21)), ((da 3), .inl (E 0, 3, .inl df3)), ((da 4), .inl (E 0, 3, .inl df4_21))] H := hP
            have hD := toW hP hD rfl
            refine lv_aload_n hx hb dX0_tryFrom_100 rfl (lv_at hl 1 rfl) ?_
            refine lv_iload_n hx hb dX0_tryFrom_101 rfl (lv_at hl 2 rfl) ?_
            refine lv_iconst (v := 1) hx hb dX0_tryFrom_102 (by decide) ?_
            refine lv_iadd hx hb dX0_tryFrom_103 ?_
            refine lv_topi (fun z_13 ez_13 => ?_)
            have jz_13 : z_13.toInt = p0.toInt + 1 := by rw [ez_13]; exact g_add rfl t_1 (by omega) (by omega)
            refine lv_iload_n hx hb dX0_tryFrom_104 rfl (lv_at hl 3 rfl) ?_
            refine lv_iconst (v := 1) hx hb dX0_tryFrom_105 (by decide) ?_
            refine lv_isub hx hb dX0_tryFrom_106 ?_
            refine lv_topi (fun z_14 ez_14 => ?_)
            have jz_14 : z_14.toInt = p1.toInt - 1 := by rw [ez_14]; exact g_sub rfl t_1 (by omega) (by omega)
            have hPc := hP.sub (ws' := [(dh, .inr (0, G0 da dlisted dshared dsailing dleastWorst_21)), ((da 0), .inl (E 0, 9, .inl df0)), ((da 1), .inl (E 0, 9, .inl (upd df1_21 (p0 : Int32).toNatClampNeg (-1)))), ((da 2), .inl (E 0, 9, .inl df2_21)), ((da 3), .inl (E 0, 3, .inl df3)), ((da 4), .inl (E 0, 3, .inl df4_21))]) [0, 1, 2, 3, 4, 5] rfl
            have hDc := hD.sub (ws' := [(dh, .inr (0, G0 da dlisted dshared dsailing dleastWorst_21)), ((da 0), .inl (E 0, 9, .inl df0)), ((da 1), .inl (E 0, 9, .inl (upd df1_21 (p0 : Int32).toNatClampNeg (-1)))), ((da 2), .inl (E 0, 9, .inl df2_21)), ((da 3), .inl (E 0, 3, .inl df3)), ((da 4), .inl (E 0, 3, .inl df4_21))]) [0, 1, 2, 3, 4, 5] (by decide) rfl
            refine aft_v (runMV (rest := []) (As := [.int z_13, .int z_14]) hx hb hml hown htb hK (g_X0_tryFrom_1 l D E dh da dlisted dshared dsailing dleastWorst_21 df0 (upd df1_21 (p0 : Int32).toNatClampNeg (-1)) df2_21 df3 df4_21 z_13 z_14 _ (by (try dsimp only); omega) (by (try dsimp only); omega)) ok_X0_tryFrom k_905 k_907 ks_34 k_7 k_908 ⟨(Nat.le_of_ble_eq_true rfl), (Nat.le_of_ble_eq_true rfl)⟩ ⟨(Nat.le_of_ble_eq_true rfl), (Nat.le_of_ble_eq_true rfl)⟩ hl.1 (Nat.le_of_ble_eq_true rfl) rfl rfl dX0_tryFrom_107 hPc hDc rfl rfl 0 rfl) hP hD hS hA [0, 1, 2, 3, 4, 5] [] (wr := ([] : va_W)) rfl rfl (by decide) (by decide) (fun u_17 H locs hw_16 hP hD hS => ?_)
            clear hPc hDc
            obtain ⟨w_18, w_19, w_20, w_21⟩ := u_17
            try dsimp only at hw_16
            have hP : va_P D vwCl [(dh, .inr (0, G0 da dlisted dshared dsailing w_21)), ((da 0), .inl (E 0, 9, .inl df0)), ((da 1), .inl (E 0, 9, .inl w_18)), ((da 2), .inl (E 0, 9, .inl w_19)), ((da 3), .inl (E 0, 3, .inl df3)), ((da 4), .inl (E 0, 3, .inl w_20))] H := hP
            have hD := toW hP hD rfl
            have hP9 := hP.sub (ws' := [(dh, .inr (0, G0 da dlisted dshared dsailing w_21)), ((da 0), .inl (E 0, 9, .inl df0)), ((da 1), .inl (E 0, 9, .inl w_18)), ((da 2), .inl (E 0, 9, .inl w_19)), ((da 3), .inl (E 0, 3, .inl df3)), ((da 4), .inl (E 0, 3, .inl w_20))]) [0, 1, 2, 3, 4, 5] rfl
            have hD9 := hD.sub (ws' := [(dh, .inr (0, G0 da dlisted dshared dsailing w_21)), ((da 0), .inl (E 0, 9, .inl df0)), ((da 1), .inl (E 0, 9, .inl w_18)), ((da 2), .inl (E 0, 9, .inl w_19)), ((da 3), .inl (E 0, 3, .inl df3)), ((da 4), .inl (E 0, 3, .inl w_20))]) [0, 1, 2, 3, 4, 5] (by decide) rfl
            exact W.vret hx hb hr (fun t ht hW => ⟨⟨(w_18, w_19, w_20, w_21), rfl, trivial, by rw [ht]; exact hP9, hD9⟩, hS.F ht⟩) hS.2.2 dX0_tryFrom_110
        ·
          have ic_11 : L3_21.toInt < dsailing.toInt := by first | exact (g_lt rfl rfl).mp c_11 | (have h := mt (g_le rfl rfl).mpr c_11; omega)
          clear c_11
          refine lv_iload_n hx hb dX0_tryFrom_29 rfl (lv_at hl 0 rfl) ?_
          refine lv_aload_n hx hb dX0_tryFrom_30 rfl (lv_at hl 1 rfl) ?_
          refine va_get (D := D) (ci := 0) (v := .ref (da 4)) (C := RX0) (T := TX0) (N := 9) hx hb htb iX0 hown hK.1 hP 0 rfl rfl 4 (by decide) (htb _ k_195) (fun _ h9 => h9) rfl dX0_tryFrom_31 ?_
          refine va_alen hx hb hK.1 hP 5 0 rfl rfl (v := 3) (show Int32.ofNat 3 = 3 by decide) dX0_tryFrom_34 ?_
          refine lv_icmp_ge (tgt := 89) hx hb dX0_tryFrom_35 (by decide) (fun c_22 => absurd c_22 (by rw [g_le t_3 rfl]; omega)) (fun c_22 => ?_)
          refine lv_aload_n hx hb dX0_tryFrom_38 rfl (lv_at hl 1 rfl) ?_
          refine va_get (D := D) (ci := 0) (v := .ref (da 4)) (C := RX0) (T := TX0) (N := 9) hx hb htb iX0 hown hK.1 hP 0 rfl rfl 4 (by decide) (htb _ k_195) (fun _ h9 => h9) rfl dX0_tryFrom_39 ?_
          refine lv_iload_n hx hb dX0_tryFrom_42 rfl (lv_at hl 0 rfl) ?_
          refine va_iald hx hb hK.1 hP 5 0 rfl rfl (g_in rfl (by omega) (by omega)) dX0_tryFrom_43 ?_
          refine lv_topi (fun z_23 ez_23 => ?_)
          have kz_23 := congrArg Int32.toInt ez_23
          refine lv_iconst (v := 3) hx hb dX0_tryFrom_44 (by decide) ?_
          refine lv_icmp_ge (tgt := 83) hx hb dX0_tryFrom_45 (by decide) (fun c_24 => ?_) (fun c_24 => ?_)
          ·
            have ic_24 : 3 ≤ z_23.toInt := by first | exact (g_le t_3 rfl).mp c_24 | (have h := mt (g_lt rfl t_3).mpr c_24; omega)
            clear c_24
            obtain ⟨z_25, ez_25⟩ : ∃ y : Int32, y = L3_21 + 1 := ⟨_, rfl⟩
            have jz_25 : z_25.toInt = L3_21.toInt + 1 := by rw [ez_25]; exact g_add rfl t_1 (by omega) (by omega)
            refine lv_iinc (v := z_25) (lv' := [(3, .int z_25), (0, .ref dh), (1, .int p0), (2, .int p1)]) hx hb dX0_tryFrom_83 hl (k := 0) rfl (by rw [ez_25]; rfl) (by decide) rfl (fun ls hl => ?_)
            refine lv_goto (tgt := 21) hx hb dX0_tryFrom_86 (by decide) ?_
            exact ih_9 z_25 dleastWorst_21 df1_21 df2_21 df4_21 _ _ _ (by (try dsimp only); omega) (by (try dsimp only); omega) hP hD hS (lv_sub hl [0, 1, 2, 3] rfl)
          ·
            have ic_24 : z_23.toInt < 3 := by first | exact (g_lt rfl t_3).mp c_24 | (have h := mt (g_le t_3 rfl).mpr c_24; omega)
            clear c_24
            refine lv_aload_n hx hb dX0_tryFrom_48 rfl (lv_at hl 1 rfl) ?_
            refine va_get (D := D) (ci := 0) (v := .ref (da 1)) (C := RX0) (T := TX0) (N := 9) hx hb htb iX0 hown hK.1 hP 0 rfl rfl 1 (by decide) (htb _ k_191) (fun _ h9 => h9) rfl dX0_tryFrom_49 ?_
            refine lv_iload_n hx hb dX0_tryFrom_52 rfl (lv_at hl 2 rfl) ?_
            refine lv_iload_n hx hb dX0_tryFrom_53 rfl (lv_at hl 0 rfl) ?_
            refine va_iast hx hb hK.1 hP hD hS 2 0 rfl rfl (g_in rfl (by omega) (by omega)) dX0_tryFrom_54 (fun H locs hP hD hS => ?_)
            have hP : va_P D vwCl [(dh, .inr (0, G0 da dlisted dshared dsailing dleastWorst_21)), ((da 0), .inl (E 0, 9, .inl df0)), ((da 1), .inl (E 0, 9, .inl (upd df1_21 (p0 : Int32).toNatClampNeg L3_21))), ((da 2), .inl (E 0, 9, .inl df2_21)), ((da 3), .inl (E 0, 3, .inl df3)), ((da 4), .inl (E 0, 3, .inl df4_21))] H := hP
            have hD := toW hP hD rfl
            refine lv_aload_n hx hb dX0_tryFrom_55 rfl (lv_at hl 1 rfl) ?_
            refine va_get (D := D) (ci := 0) (v := .ref (da 4)) (C := RX0) (T := TX0) (N := 9) hx hb htb iX0 hown hK.1 hP 0 rfl rfl 4 (by decide) (htb _ k_195) (fun _ h9 => h9) rfl dX0_tryFrom_56 ?_
            refine lv_iload_n hx hb dX0_tryFrom_59 rfl (lv_at hl 0 rfl) ?_
            refine lv_dup2_11 hx hb dX0_tryFrom_60 rfl rfl ?_
            refine va_iald hx hb hK.1 hP 5 0 rfl rfl (g_in rfl (by omega) (by omega)) dX0_tryFrom_61 ?_
            refine lv_topi (fun z_26 ez_26 => ?_)
            have kz_26 := congrArg Int32.toInt ez_26
            refine lv_iconst (v := 1) hx hb dX0_tryFrom_62 (by decide) ?_
            refine lv_iadd hx hb dX0_tryFrom_63 ?_
            refine lv_topi (fun z_27 ez_27 => ?_)
            refine va_iast hx hb hK.1 hP hD hS 5 0 rfl rfl (g_in rfl (by omega) (by omega)) dX0_tryFrom_64 (fun H locs hP hD hS => ?_)
            have hP : va_P D vwCl [(dh, .inr (0, G0 da dlisted dshared dsailing dleastWorst_21)), ((da 0), .inl (E 0, 9, .inl df0)), ((da 1), .inl (E 0, 9, .inl (upd df1_21 (p0 : Int32).toNatClampNeg L3_21))), ((da 2), .inl (E 0, 9, .inl df2_21)), ((da 3), .inl (E 0, 3, .inl df3)), ((da 4), .inl (E 0, 3, .inl (upd df4_21 (L3_21 : Int32).toNatClampNeg z_27)))] H := hP
            have hD := toW hP hD rfl
            refine lv_aload_n hx hb dX0_tryFrom_65 rfl (lv_at hl 1 rfl) ?_
            refine lv_iload_n hx hb dX0_tryFrom_66 rfl (lv_at hl 2 rfl) ?_
            refine lv_iconst (v := 1) hx hb dX0_tryFrom_67 (by decide) ?_
            refine lv_iadd hx hb dX0_tryFrom_68 ?_
            refine lv_topi (fun z_28 ez_28 => ?_)
            have jz_28 : z_28.toInt = p0.toInt + 1 := by rw [ez_28]; exact g_add rfl t_1 (by omega) (by omega)
            refine lv_iload_n hx hb dX0_tryFrom_69 rfl (lv_at hl 3 rfl) ?_
            have hPc := hP.sub (ws' := [(dh, .inr (0, G0 da dlisted dshared dsailing dleastWorst_21)), ((da 0), .inl (E 0, 9, .inl df0)), ((da 1), .inl (E 0, 9, .inl (upd df1_21 (p0 : Int32).toNatClampNeg L3_21))), ((da 2), .inl (E 0, 9, .inl df2_21)), ((da 3), .inl (E 0, 3, .inl df3)), ((da 4), .inl (E 0, 3, .inl (upd df4_21 (L3_21 : Int32).toNatClampNeg z_27)))]) [0, 1, 2, 3, 4, 5] rfl
            have hDc := hD.sub (ws' := [(dh, .inr (0, G0 da dlisted dshared dsailing dleastWorst_21)), ((da 0), .inl (E 0, 9, .inl df0)), ((da 1), .inl (E 0, 9, .inl (upd df1_21 (p0 : Int32).toNatClampNeg L3_21))), ((da 2), .inl (E 0, 9, .inl df2_21)), ((da 3), .inl (E 0, 3, .inl df3)), ((da 4), .inl (E 0, 3, .inl (upd df4_21 (L3_21 : Int32).toNatClampNeg z_27)))]) [0, 1, 2, 3, 4, 5] (by decide) rfl
            refine aft_v (runMV (rest := []) (As := [.int z_28, .int p1]) hx hb hml hown htb hK (g_X0_tryFrom_1 l D E dh da dlisted dshared dsailing dleastWorst_21 df0 (upd df1_21 (p0 : Int32).toNatClampNeg L3_21) df2_21 df3 (upd df4_21 (L3_21 : Int32).toNatClampNeg z_27) z_28 p1 _ (by (try dsimp only); omega) (by (try dsimp only); omega)) ok_X0_tryFrom k_905 k_907 ks_34 k_7 k_908 ⟨(Nat.le_of_ble_eq_true rfl), (Nat.le_of_ble_eq_true rfl)⟩ ⟨(Nat.le_of_ble_eq_true rfl), (Nat.le_of_ble_eq_true rfl)⟩ hl.1 (Nat.le_of_ble_eq_true rfl) rfl rfl dX0_tryFrom_70 hPc hDc rfl rfl 0 rfl) hP hD hS hA [0, 1, 2, 3, 4, 5] [] (wr := ([] : va_W)) rfl rfl (by decide) (by decide) (fun u_31 H locs hw_30 hP hD hS => ?_)
            clear hPc hDc
            obtain ⟨w_32, w_33, w_34, w_35⟩ := u_31
            try dsimp only at hw_30
            have hP : va_P D vwCl [(dh, .inr (0, G0 da dlisted dshared dsailing w_35)), ((da 0), .inl (E 0, 9, .inl df0)), ((da 1), .inl (E 0, 9, .inl w_32)), ((da 2), .inl (E 0, 9, .inl w_33)), ((da 3), .inl (E 0, 3, .inl df3)), ((da 4), .inl (E 0, 3, .inl w_34))] H := hP
            have hD := toW hP hD rfl
            refine lv_aload_n hx hb dX0_tryFrom_73 rfl (lv_at hl 1 rfl) ?_
            refine va_get (D := D) (ci := 0) (v := .ref (da 4)) (C := RX0) (T := TX0) (N := 9) hx hb htb iX0 hown hK.1 hP 0 rfl rfl 4 (by decide) (htb _ k_195) (fun _ h9 => h9) rfl dX0_tryFrom_74 ?_
            refine lv_iload_n hx hb dX0_tryFrom_77 rfl (lv_at hl 0 rfl) ?_
            refine lv_dup2_11 hx hb dX0_tryFrom_78 rfl rfl ?_
            refine va_iald hx hb hK.1 hP 5 0 rfl rfl (g_in rfl (by omega) (by omega)) dX0_tryFrom_79 ?_
            refine lv_topi (fun z_36 ez_36 => ?_)
            have kz_36 := congrArg Int32.toInt ez_36
            refine lv_iconst (v := 1) hx hb dX0_tryFrom_80 (by decide) ?_
            refine lv_isub hx hb dX0_tryFrom_81 ?_
            refine lv_topi (fun z_37 ez_37 => ?_)
            refine va_iast hx hb hK.1 hP hD hS 5 0 rfl rfl (g_in rfl (by omega) (by omega)) dX0_tryFrom_82 (fun H locs hP hD hS => ?_)
            have hP : va_P D vwCl [(dh, .inr (0, G0 da dlisted dshared dsailing w_35)), ((da 0), .inl (E 0, 9, .inl df0)), ((da 1), .inl (E 0, 9, .inl w_32)), ((da 2), .inl (E 0, 9, .inl w_33)), ((da 3), .inl (E 0, 3, .inl df3)), ((da 4), .inl (E 0, 3, .inl (upd w_34 (L3_21 : Int32).toNatClampNeg z_37)))] H := hP
            have hD := toW hP hD rfl
            obtain ⟨z_38, ez_38⟩ : ∃ y : Int32, y = L3_21 + 1 := ⟨_, rfl⟩
            have jz_38 : z_38.toInt = L3_21.toInt + 1 := by rw [ez_38]; exact g_add rfl t_1 (by omega) (by omega)
            refine lv_iinc (v := z_38) (lv' := [(3, .int z_38), (0, .ref dh), (1, .int p0), (2, .int p1)]) hx hb dX0_tryFrom_83 hl (k := 0) rfl (by rw [ez_38]; rfl) (by decide) rfl (fun ls hl => ?_)
            refine lv_goto (tgt := 21) hx hb dX0_tryFrom_86 (by decide) ?_
            exact ih_9 z_38 w_35 w_32 w_33 (upd w_34 (L3_21 : Int32).toNatClampNeg z_37) _ _ _ (by (try dsimp only); omega) (by (try dsimp only); omega) hP hD hS (lv_sub hl [0, 1, 2, 3] rfl)
    exact loop_8 4 0 dleastWorst df1 df2 df4 _ _ _ (by have h0 := t_0; (try dsimp only); omega) (by have h0 := t_0; (try dsimp only); omega) hP hD hS (lv_sub hl [0, 1, 2, 3] rfl)
set_option maxHeartbeats 4000000 in
set_option maxRecDepth 100000 in
theorem g_X0_tryFrom_3 (l : Launch) (D : va_G) (E : Nat → Nat) (dh : Nat) (da : Nat → Nat) (dlisted : Int32) (dshared : Int32) (dsailing : Int32) (dleastWorst : Int32) (df0 : Nat → Int32) (df1 : Nat → Int32) (df2 : Nat → Int32) (df3 : Nat → Int32) (df4 : Nat → Int32) (p0 : Int32) (p1 : Int32) (sz : Nat) (hi_d : (0 ≤ dlisted.toInt ∧ dlisted.toInt ≤ 9) ∧ (0 ≤ dshared.toInt ∧ dshared.toInt ≤ 9) ∧ (0 ≤ dsailing.toInt ∧ dsailing.toInt ≤ 3)) (g0 : 6 ≤ p0.toInt ∧ p0.toInt ≤ 9) : Met l yX0_tryFrom (wl yX0_tryFrom cX0_tryFrom 4 none) (RM 6 0 0) (mu_P D E [.ref dh, .int p0, .int p1] [(dh, .inr (0, G0 da dlisted dshared dsailing dleastWorst)), ((da 0), .inl (E 0, 9, .inl df0)), ((da 1), .inl (E 0, 9, .inl df1)), ((da 2), .inl (E 0, 9, .inl df2)), ((da 3), .inl (E 0, 3, .inl df3)), ((da 4), .inl (E 0, 3, .inl df4))] sz) (va_Qv (fun (u : (Nat → Int32) × (Nat → Int32) × (Nat → Int32) × (Int32)) => True) (mu_B D (va_A [(dh, .inr (0, G0 da dlisted dshared dsailing dleastWorst)), ((da 0), .inl (E 0, 9, .inl df0)), ((da 1), .inl (E 0, 9, .inl df1)), ((da 2), .inl (E 0, 9, .inl df2)), ((da 3), .inl (E 0, 3, .inl df3)), ((da 4), .inl (E 0, 3, .inl df4))] sz) (fun (u : (Nat → Int32) × (Nat → Int32) × (Nat → Int32) × (Int32)) => [(dh, .inr (0, G0 da dlisted dshared dsailing u.2.2.2)), ((da 0), .inl (E 0, 9, .inl df0)), ((da 1), .inl (E 0, 9, .inl u.1)), ((da 2), .inl (E 0, 9, .inl u.2.1)), ((da 3), .inl (E 0, 3, .inl df3)), ((da 4), .inl (E 0, 3, .inl u.2.2.1))])) (va_A [(dh, .inr (0, G0 da dlisted dshared dsailing dleastWorst)), ((da 0), .inl (E 0, 9, .inl df0)), ((da 1), .inl (E 0, 9, .inl df1)), ((da 2), .inl (E 0, 9, .inl df2)), ((da 3), .inl (E 0, 3, .inl df3)), ((da 4), .inl (E 0, 3, .inl df4))] sz)) 0 0 (va_A [(dh, .inr (0, G0 da dlisted dshared dsailing dleastWorst)), ((da 0), .inl (E 0, 9, .inl df0)), ((da 1), .inl (E 0, 9, .inl df1)), ((da 2), .inl (E 0, 9, .inl df2)), ((da 3), .inl (E 0, 3, .inl df3)), ((da 4), .inl (E 0, 3, .inl df4))] sz) := by
  refine Met.ofW (cc := cX0_tryFrom) (maxL := 4) (ret := none) (by decide) rfl ?_
  intro p e s m args below meth c s₁ B hml hv
  obtain ⟨rfl, hsz, hP, hK, hD0⟩ := hv
  have hx := B.exec; have hb := B.bytes; have hr := B.returns
  have hts := atoms_spec (ws := wl yX0_tryFrom cX0_tryFrom 4 none) B.pre
  have htb : ∀ w ∈ tb, w.before _ s = true := fun w h => hts w (List.mem_cons_of_mem _ h)
  have hown : s.vm.findClass RX0 = some m.cls := findClass_of_methodNamed B.named
  have hlocks := B.notSynchronized
  subst hsz
  have hD := hD0.self (sz := s.heap.size)
  generalize hAe : va_A [(dh, .inr (0, G0 da dlisted dshared dsailing dleastWorst)), ((da 0), .inl (E 0, 9, .inl df0)), ((da 1), .inl (E 0, 9, .inl df1)), ((da 2), .inl (E 0, 9, .inl df2)), ((da 3), .inl (E 0, 3, .inl df3)), ((da 4), .inl (E 0, 3, .inl df4))] s.heap.size = A at hD ⊢
  have hA : ∀ q : Nat, s.heap.size ≤ q → A q := fun q h => by rw [← hAe]; exact Or.inr h
  have hS : va_S A s.heap s.heap [] := va_S.rf
  have hP : va_P D vwCl [(dh, .inr (0, G0 da dlisted dshared dsailing dleastWorst)), ((da 0), .inl (E 0, 9, .inl df0)), ((da 1), .inl (E 0, 9, .inl df1)), ((da 2), .inl (E 0, 9, .inl df2)), ((da 3), .inl (E 0, 3, .inl df3)), ((da 4), .inl (E 0, 3, .inl df4))] s.heap := hP
  have hl := lv_entry ([.ref dh, .int p0, .int p1]) (n := 4) (Nat.le_of_ble_eq_true rfl)
  rw [lg_entry_eq]
  generalize (lg_sl ([.ref dh, .int p0, .int p1]) ++ List.replicate (4 - (lg_sl ([.ref dh, .int p0, .int p1])).length) Slot.unset).toArray = ls at hl ⊢
  have hl : lv_has ls 4 [(0, .ref dh), (1, .int p0), (2, .int p1)] := hl
  have lo_p0 := i_lo p0; have hi_p0 := i_hi p0
  have lo_p1 := i_lo p1; have hi_p1 := i_hi p1
  refine lv_iload_n hx hb dX0_tryFrom_0 rfl (lv_at hl 1 rfl) ?_
  refine lv_aload_n hx hb dX0_tryFrom_1 rfl (lv_at hl 0 rfl) ?_
  refine va_get (D := D) (ci := 0) (v := .int dlisted) (C := RX0) (T := TX0) (N := 9) hx hb htb iX0 hown hK.1 hP 0 rfl rfl 5 (by decide) (htb _ k_196) (fun _ h9 => h9) rfl dX0_tryFrom_2 ?_
  refine lv_icmp_ge (tgt := 14) hx hb dX0_tryFrom_5 (by decide) (fun c_1 => ?_) (fun c_1 => ?_)
  ·
    have ic_1 : dlisted.toInt ≤ p0.toInt := by first | exact (g_le rfl rfl).mp c_1 | (have h := mt (g_lt rfl rfl).mpr c_1; omega)
    clear c_1
    refine lv_aload_n hx hb dX0_tryFrom_14 rfl (lv_at hl 0 rfl) ?_
    have hPc := hP.sub (ws' := [(dh, .inr (0, G0 da dlisted dshared dsailing dleastWorst)), ((da 0), .inl (E 0, 9, .inl df0)), ((da 1), .inl (E 0, 9, .inl df1)), ((da 2), .inl (E 0, 9, .inl df2)), ((da 3), .inl (E 0, 3, .inl df3))]) [0, 1, 2, 3, 4] rfl
    have hDc := hD.sub (ws' := [(dh, .inr (0, G0 da dlisted dshared dsailing dleastWorst)), ((da 0), .inl (E 0, 9, .inl df0)), ((da 1), .inl (E 0, 9, .inl df1)), ((da 2), .inl (E 0, 9, .inl df2)), ((da 3), .inl (E 0, 3, .inl df3))]) [0, 1, 2, 3, 4] (by decide) rfl
    refine aft_v (runMV (rest := []) (As := []) hx hb hml hown htb hK (g_X0_keepIfBetter l D E dh da dlisted dshared dsailing dleastWorst df0 df1 df2 df3 _ (by (try dsimp only); omega)) ok_X0_keepIfBetter k_909 k_911 ks_35 k_7 k_912 ⟨(Nat.le_of_ble_eq_true rfl), (Nat.le_of_ble_eq_true rfl)⟩ ⟨(Nat.le_of_ble_eq_true rfl), (Nat.le_of_ble_eq_true rfl)⟩ hl.1 (Nat.le_of_ble_eq_true rfl) rfl rfl dX0_tryFrom_15 hPc hDc rfl rfl 0 rfl) hP hD hS hA [0, 1, 2, 3, 4] [5] (wr := [((da 4), .inl (E 0, 3, .inl df4))]) rfl rfl (by decide) (by decide) (fun u_4 H locs hw_3 hP hD hS => ?_)
    clear hPc hDc
    obtain ⟨w_5, w_6⟩ := u_4
    try dsimp only at hw_3
    have hP : va_P D vwCl [((da 4), .inl (E 0, 3, .inl df4)), (dh, .inr (0, G0 da dlisted dshared dsailing w_6)), ((da 0), .inl (E 0, 9, .inl df0)), ((da 1), .inl (E 0, 9, .inl df1)), ((da 2), .inl (E 0, 9, .inl w_5)), ((da 3), .inl (E 0, 3, .inl df3))] H := hP
    have hD := toW hP hD rfl
    have hP9 := hP.sub (ws' := [(dh, .inr (0, G0 da dlisted dshared dsailing w_6)), ((da 0), .inl (E 0, 9, .inl df0)), ((da 1), .inl (E 0, 9, .inl df1)), ((da 2), .inl (E 0, 9, .inl w_5)), ((da 3), .inl (E 0, 3, .inl df3)), ((da 4), .inl (E 0, 3, .inl df4))]) [1, 2, 3, 4, 5, 0] rfl
    have hD9 := hD.sub (ws' := [(dh, .inr (0, G0 da dlisted dshared dsailing w_6)), ((da 0), .inl (E 0, 9, .inl df0)), ((da 1), .inl (E 0, 9, .inl df1)), ((da 2), .inl (E 0, 9, .inl w_5)), ((da 3), .inl (E 0, 3, .inl df3)), ((da 4), .inl (E 0, 3, .inl df4))]) [1, 2, 3, 4, 5, 0] (by decide) rfl
    exact W.vret hx hb hr (fun t ht hW => ⟨⟨(df1, w_5, df4, w_6), rfl, trivial, by rw [ht]; exact hP9, hD9⟩, hS.F ht⟩) hS.2.2 dX0_tryFrom_18
  ·
    have ic_1 : p0.toInt < dlisted.toInt := by first | exact (g_lt rfl rfl).mp c_1 | (have h := mt (g_le rfl rfl).mpr c_1; omega)
    clear c_1
    refine lv_iload_n hx hb dX0_tryFrom_8 rfl (lv_at hl 1 rfl) ?_
    refine lv_bipush (v := 9) hx hb dX0_tryFrom_9 (by decide) ?_
    refine lv_icmp_lt (tgt := 19) hx hb dX0_tryFrom_11 (by decide) (fun c_7 => ?_) (fun c_7 => absurd (by rw [g_lt rfl t_9]; omega) c_7)
    refine lv_iconst (v := 0) hx hb dX0_tryFrom_19 (by decide) ?_
    refine lv_istore_n (lv' := [(3, .int 0), (0, .ref dh), (1, .int p0), (2, .int p1)]) hx hb dX0_tryFrom_20 rfl hl (by decide) rfl (fun ls hl => ?_)
    have loop_8 : ∀ (N_10 : Nat) (L3_21 : Int32) (dleastWorst_21 : Int32) (df1_21 : Nat → Int32) (df2_21 : Nat → Int32) (df4_21 : Nat → Int32) (H : Heap) (locs : List Loc) (ls : Array Slot), 3 - L3_21.toInt < (N_10 : Int) → (0 ≤ L3_21.toInt ∧ L3_21.toInt ≤ 3) → va_P D vwCl [(dh, .inr (0, G0 da dlisted dshared dsailing dleastWorst_21)), ((da 0), .inl (E 0, 9, .inl df0)), ((da 1), .inl (E 0, 9, .inl df1_21)), ((da 2), .inl (E 0, 9, .inl df2_21)), ((da 3), .inl (E 0, 3, .inl df3)), ((da 4), .inl (E 0, 3, .inl df4_21))] H → va_D A [(dh, .inr (0, G0 da dlisted dshared dsailing dleastWorst_21)), ((da 0), .inl (E 0, 9, .inl df0)), ((da 1), .inl (E 0, 9, .inl df1_21)), ((da 2), .inl (E 0, 9, .inl df2_21)), ((da 3), .inl (E 0, 3, .inl df3)), ((da 4), .inl (E 0, 3, .inl df4_21))] → va_S A s.heap H locs → lv_has ls 4 [(3, .int L3_21), (0, .ref dh), (1, .int p0), (2, .int p1)] → W p l e (headSpec (wl yX0_tryFrom cX0_tryFrom 4 none) (RM 6 0 0)).room s m [Value.ref dh, .int p0, .int p1].toArray below meth c H locs 0 0 (MQ below (va_Qv (fun (u : (Nat → Int32) × (Nat → Int32) × (Nat → Int32) × (Int32)) => True) (mu_B D A (fun (u : (Nat → Int32) × (Nat → Int32) × (Nat → Int32) × (Int32)) => [(dh, .inr (0, G0 da dlisted dshared dsailing u.2.2.2)), ((da 0), .inl (E 0, 9, .inl df0)), ((da 1), .inl (E 0, 9, .inl u.1)), ((da 2), .inl (E 0, 9, .inl u.2.1)), ((da 3), .inl (E 0, 3, .inl df3)), ((da 4), .inl (E 0, 3, .inl u.2.2.1))])) A) [Value.ref dh, .int p0, .int p1].toArray s 0 0 A) (F0 m 21 ls []) := by
      intro N_10
      induction N_10 with
      | zero => intro L3_21 dleastWorst_21 df1_21 df2_21 df4_21 H locs ls hm v0_21 _ _ _ _; exfalso; omega
      | succ N_10 ih_9 =>
        intro L3_21 dleastWorst_21 df1_21 df2_21 df4_21 H locs ls hm v0_21 hP hD hS hl
        have lo_L3_21 := i_lo L3_21; have hi_L3_21 := i_hi L3_21
        have lo_dleastWorst_21 := i_lo dleastWorst_21; have hi_dleastWorst_21 := i_hi dleastWorst_21
        refine lv_iload_n hx hb dX0_tryFrom_21 rfl (lv_at hl 0 rfl) ?_
        refine lv_aload_n hx hb dX0_tryFrom_22 rfl (lv_at hl 1 rfl) ?_
        refine va_get (D := D) (ci := 0) (v := .int dsailing) (C := RX0) (T := TX0) (N := 9) hx hb htb iX0 hown hK.1 hP 0 rfl rfl 7 (by decide) (htb _ k_200) (fun _ h9 => h9) rfl dX0_tryFrom_23 ?_
        refine lv_icmp_ge (tgt := 89) hx hb dX0_tryFrom_26 (by decide) (fun c_11 => ?_) (fun c_11 => ?_)
        ·
          have ic_11 : dsailing.toInt ≤ L3_21.toInt := by first | exact (g_le rfl rfl).mp c_11 | (have h := mt (g_lt rfl rfl).mpr c_11; omega)
          clear c_11
          refine lv_iload_n hx hb dX0_tryFrom_89 rfl (lv_at hl 3 rfl) ?_
          refine lv_if_le (tgt := 110) hx hb dX0_tryFrom_90 (by decide) (fun c_12 => ?_) (fun c_12 => ?_)
          ·
            have ic_12 : p1.toInt ≤ 0 := by first | exact (g_le rfl t_0).mp c_12 | (have h := mt (g_lt t_0 rfl).mpr c_12; omega)
            clear c_12
            have hP9 := hP.sub (ws' := [(dh, .inr (0, G0 da dlisted dshared dsailing dleastWorst_21)), ((da 0), .inl (E 0, 9, .inl df0)), ((da 1), .inl (E 0, 9, .inl df1_21)), ((da 2), .inl (E 0, 9, .inl df2_21)), ((da 3), .inl (E 0, 3, .inl df3)), ((da 4), .inl (E 0, 3, .inl df4_21))]) [0, 1, 2, 3, 4, 5] rfl
            have hD9 := hD.sub (ws' := [(dh, .inr (0, G0 da dlisted dshared dsailing dleastWorst_21)), ((da 0), .inl (E 0, 9, .inl df0)), ((da 1), .inl (E 0, 9, .inl df1_21)), ((da 2), .inl (E 0, 9, .inl df2_21)), ((da 3), .inl (E 0, 3, .inl df3)), ((da 4), .inl (E 0, 3, .inl df4_21))]) [0, 1, 2, 3, 4, 5] (by decide) rfl
            exact W.vret hx hb hr (fun t ht hW => ⟨⟨(df1_21, df2_21, df4_21, dleastWorst_21), rfl, trivial, by rw [ht]; exact hP9, hD9⟩, hS.F ht⟩) hS.2.2 dX0_tryFrom_110
          ·
            have ic_12 : 0 < p1.toInt := by first | exact (g_lt t_0 rfl).mp c_12 | (have h := mt (g_le rfl t_0).mpr c_12; omega)
            clear c_12
            refine lv_aload_n hx hb dX0_tryFrom_93 rfl (lv_at hl 1 rfl) ?_
            refine va_get (D := D) (ci := 0) (v := .ref (da 1)) (C := RX0) (T := TX0) (N := 9) hx hb htb iX0 hown hK.1 hP 0 rfl rfl 1 (by decide) (htb _ k_191) (fun _ h9 => h9) rfl dX0_tryFrom_94 ?_
            refine lv_iload_n hx hb dX0_tryFrom_97 rfl (lv_at hl 2 rfl) ?_
            refine lv_iconst (v := (-1)) hx hb dX0_tryFrom_98 (by decide) ?_
            refine va_iast hx hb hK.1 hP hD hS 2 0 rfl rfl (g_in rfl (by omega) (by omega)) dX0_tryFrom_99 (fun H locs hP hD hS => ?_)
            have hP : va_P D vwCl [(dh, .inr (0, G0 da dlisted dshared dsailing dleastWorst_21)), ((da 0), .inl (E 0, 9, .inl df0)), ((da 1), .inl (E 0, 9, .inl (upd df1_21 (p0 : Int32).toNatClampNeg (-1)))), ((da 2), .inl (E 0, 9, .inl df2_21)), ((da 3), .inl (E 0, 3, .inl df3)), ((da 4), .inl (E 0, 3, .inl df4_21))] H := hP
            have hD := toW hP hD rfl
            refine lv_aload_n hx hb dX0_tryFrom_100 rfl (lv_at hl 1 rfl) ?_
            refine lv_iload_n hx hb dX0_tryFrom_101 rfl (lv_at hl 2 rfl) ?_
            refine lv_iconst (v := 1) hx hb dX0_tryFrom_102 (by decide) ?_
            refine lv_iadd hx hb dX0_tryFrom_103 ?_
            refine lv_topi (fun z_13 ez_13 => ?_)
            have jz_13 : z_13.toInt = p0.toInt + 1 := by rw [ez_13]; exact g_add rfl t_1 (by omega) (by omega)
            refine lv_iload_n hx hb dX0_tryFrom_104 rfl (lv_at hl 3 rfl) ?_
            refine lv_iconst (v := 1) hx hb dX0_tryFrom_105 (by decide) ?_
            refine lv_isub hx hb dX0_tryFrom_106 ?_
            refine lv_topi (fun z_14 ez_14 => ?_)
            have jz_14 : z_14.toInt = p1.toInt - 1 := by rw [ez_14]; exact g_sub rfl t_1 (by omega) (by omega)
            have hPc := hP.sub (ws' := [(dh, .inr (0, G0 da dlisted dshared dsailing dleastWorst_21)), ((da 0), .inl (E 0, 9, .inl df0)), ((da 1), .inl (E 0, 9, .inl (upd df1_21 (p0 : Int32).toNatClampNeg (-1)))), ((da 2), .inl (E 0, 9, .inl df2_21)), ((da 3), .inl (E 0, 3, .inl df3)), ((da 4), .inl (E 0, 3, .inl df4_21))]) [0, 1, 2, 3, 4, 5] rfl
            have hDc := hD.sub (ws' := [(dh, .inr (0, G0 da dlisted dshared dsailing dleastWorst_21)), ((da 0), .inl (E 0, 9, .inl df0)), ((da 1), .inl (E 0, 9, .inl (upd df1_21 (p0 : Int32).toNatClampNeg (-1)))), ((da 2), .inl (E 0, 9, .inl df2_21)), ((da 3), .inl (E 0, 3, .inl df3)), ((da 4), .inl (E 0, 3, .inl df4_21))]) [0, 1, 2, 3, 4, 5] (by decide) rfl
            refine aft_v (runMV (rest := []) (As := [.int z_13, .int z_14]) hx hb hml hown htb hK (g_X0_tryFrom_2 l D E dh da dlisted dshared dsailing dleastWorst_21 df0 (upd df1_21 (p0 : Int32).toNatClampNeg (-1)) df2_21 df3 df4_21 z_13 z_14 _ (by (try dsimp only); omega) (by (try dsimp only); omega)) ok_X0_tryFrom k_905 k_907 ks_34 k_7 k_908 ⟨(Nat.le_of_ble_eq_true rfl), (Nat.le_of_ble_eq_true rfl)⟩ ⟨(Nat.le_of_ble_eq_true rfl), (Nat.le_of_ble_eq_true rfl)⟩ hl.1 (Nat.le_of_ble_eq_true rfl) rfl rfl dX0_tryFrom_107 hPc hDc rfl rfl 0 rfl) hP hD hS hA [0, 1, 2, 3, 4, 5] [] (wr := ([] : va_W)) rfl rfl (by decide) (by decide) (fun u_17 H locs hw_16 hP hD hS => ?_)
            clear hPc hDc
            obtain ⟨w_18, w_19, w_20, w_21⟩ := u_17
            try dsimp only at hw_16
            have hP : va_P D vwCl [(dh, .inr (0, G0 da dlisted dshared dsailing w_21)), ((da 0), .inl (E 0, 9, .inl df0)), ((da 1), .inl (E 0, 9, .inl w_18)), ((da 2), .inl (E 0, 9, .inl w_19)), ((da 3), .inl (E 0, 3, .inl df3)), ((da 4), .inl (E 0, 3, .inl w_20))] H := hP
            have hD := toW hP hD rfl
            have hP9 := hP.sub (ws' := [(dh, .inr (0, G0 da dlisted dshared dsailing w_21)), ((da 0), .inl (E 0, 9, .inl df0)), ((da 1), .inl (E 0, 9, .inl w_18)), ((da 2), .inl (E 0, 9, .inl w_19)), ((da 3), .inl (E 0, 3, .inl df3)), ((da 4), .inl (E 0, 3, .inl w_20))]) [0, 1, 2, 3, 4, 5] rfl
            have hD9 := hD.sub (ws' := [(dh, .inr (0, G0 da dlisted dshared dsailing w_21)), ((da 0), .inl (E 0, 9, .inl df0)), ((da 1), .inl (E 0, 9, .inl w_18)), ((da 2), .inl (E 0, 9, .inl w_19)), ((da 3), .inl (E 0, 3, .inl df3)), ((da 4), .inl (E 0, 3, .inl w_20))]) [0, 1, 2, 3, 4, 5] (by decide) rfl
            exact W.vret hx hb hr (fun t ht hW => ⟨⟨(w_18, w_19, w_20, w_21), rfl, trivial, by rw [ht]; exact hP9, hD9⟩, hS.F ht⟩) hS.2.2 dX0_tryFrom_110
        ·
          have ic_11 : L3_21.toInt < dsailing.toInt := by first | exact (g_lt rfl rfl).mp c_11 | (have h := mt (g_le rfl rfl).mpr c_11; omega)
          clear c_11
          refine lv_iload_n hx hb dX0_tryFrom_29 rfl (lv_at hl 0 rfl) ?_
          refine lv_aload_n hx hb dX0_tryFrom_30 rfl (lv_at hl 1 rfl) ?_
          refine va_get (D := D) (ci := 0) (v := .ref (da 4)) (C := RX0) (T := TX0) (N := 9) hx hb htb iX0 hown hK.1 hP 0 rfl rfl 4 (by decide) (htb _ k_195) (fun _ h9 => h9) rfl dX0_tryFrom_31 ?_
          refine va_alen hx hb hK.1 hP 5 0 rfl rfl (v := 3) (show Int32.ofNat 3 = 3 by decide) dX0_tryFrom_34 ?_
          refine lv_icmp_ge (tgt := 89) hx hb dX0_tryFrom_35 (by decide) (fun c_22 => absurd c_22 (by rw [g_le t_3 rfl]; omega)) (fun c_22 => ?_)
          refine lv_aload_n hx hb dX0_tryFrom_38 rfl (lv_at hl 1 rfl) ?_
          refine va_get (D := D) (ci := 0) (v := .ref (da 4)) (C := RX0) (T := TX0) (N := 9) hx hb htb iX0 hown hK.1 hP 0 rfl rfl 4 (by decide) (htb _ k_195) (fun _ h9 => h9) rfl dX0_tryFrom_39 ?_
          refine lv_iload_n hx hb dX0_tryFrom_42 rfl (lv_at hl 0 rfl) ?_
          refine va_iald hx hb hK.1 hP 5 0 rfl rfl (g_in rfl (by omega) (by omega)) dX0_tryFrom_43 ?_
          refine lv_topi (fun z_23 ez_23 => ?_)
          have kz_23 := congrArg Int32.toInt ez_23
          refine lv_iconst (v := 3) hx hb dX0_tryFrom_44 (by decide) ?_
          refine lv_icmp_ge (tgt := 83) hx hb dX0_tryFrom_45 (by decide) (fun c_24 => ?_) (fun c_24 => ?_)
          ·
            have ic_24 : 3 ≤ z_23.toInt := by first | exact (g_le t_3 rfl).mp c_24 | (have h := mt (g_lt rfl t_3).mpr c_24; omega)
            clear c_24
            obtain ⟨z_25, ez_25⟩ : ∃ y : Int32, y = L3_21 + 1 := ⟨_, rfl⟩
            have jz_25 : z_25.toInt = L3_21.toInt + 1 := by rw [ez_25]; exact g_add rfl t_1 (by omega) (by omega)
            refine lv_iinc (v := z_25) (lv' := [(3, .int z_25), (0, .ref dh), (1, .int p0), (2, .int p1)]) hx hb dX0_tryFrom_83 hl (k := 0) rfl (by rw [ez_25]; rfl) (by decide) rfl (fun ls hl => ?_)
            refine lv_goto (tgt := 21) hx hb dX0_tryFrom_86 (by decide) ?_
            exact ih_9 z_25 dleastWorst_21 df1_21 df2_21 df4_21 _ _ _ (by (try dsimp only); omega) (by (try dsimp only); omega) hP hD hS (lv_sub hl [0, 1, 2, 3] rfl)
          ·
            have ic_24 : z_23.toInt < 3 := by first | exact (g_lt rfl t_3).mp c_24 | (have h := mt (g_le t_3 rfl).mpr c_24; omega)
            clear c_24
            refine lv_aload_n hx hb dX0_tryFrom_48 rfl (lv_at hl 1 rfl) ?_
            refine va_get (D := D) (ci := 0) (v := .ref (da 1)) (C := RX0) (T := TX0) (N := 9) hx hb htb iX0 hown hK.1 hP 0 rfl rfl 1 (by decide) (htb _ k_191) (fun _ h9 => h9) rfl dX0_tryFrom_49 ?_
            refine lv_iload_n hx hb dX0_tryFrom_52 rfl (lv_at hl 2 rfl) ?_
            refine lv_iload_n hx hb dX0_tryFrom_53 rfl (lv_at hl 0 rfl) ?_
            refine va_iast hx hb hK.1 hP hD hS 2 0 rfl rfl (g_in rfl (by omega) (by omega)) dX0_tryFrom_54 (fun H locs hP hD hS => ?_)
            have hP : va_P D vwCl [(dh, .inr (0, G0 da dlisted dshared dsailing dleastWorst_21)), ((da 0), .inl (E 0, 9, .inl df0)), ((da 1), .inl (E 0, 9, .inl (upd df1_21 (p0 : Int32).toNatClampNeg L3_21))), ((da 2), .inl (E 0, 9, .inl df2_21)), ((da 3), .inl (E 0, 3, .inl df3)), ((da 4), .inl (E 0, 3, .inl df4_21))] H := hP
            have hD := toW hP hD rfl
            refine lv_aload_n hx hb dX0_tryFrom_55 rfl (lv_at hl 1 rfl) ?_
            refine va_get (D := D) (ci := 0) (v := .ref (da 4)) (C := RX0) (T := TX0) (N := 9) hx hb htb iX0 hown hK.1 hP 0 rfl rfl 4 (by decide) (htb _ k_195) (fun _ h9 => h9) rfl dX0_tryFrom_56 ?_
            refine lv_iload_n hx hb dX0_tryFrom_59 rfl (lv_at hl 0 rfl) ?_
            refine lv_dup2_11 hx hb dX0_tryFrom_60 rfl rfl ?_
            refine va_iald hx hb hK.1 hP 5 0 rfl rfl (g_in rfl (by omega) (by omega)) dX0_tryFrom_61 ?_
            refine lv_topi (fun z_26 ez_26 => ?_)
            have kz_26 := congrArg Int32.toInt ez_26
            refine lv_iconst (v := 1) hx hb dX0_tryFrom_62 (by decide) ?_
            refine lv_iadd hx hb dX0_tryFrom_63 ?_
            refine lv_topi (fun z_27 ez_27 => ?_)
            refine va_iast hx hb hK.1 hP hD hS 5 0 rfl rfl (g_in rfl (by omega) (by omega)) dX0_tryFrom_64 (fun H locs hP hD hS => ?_)
            have hP : va_P D vwCl [(dh, .inr (0, G0 da dlisted dshared dsailing dleastWorst_21)), ((da 0), .inl (E 0, 9, .inl df0)), ((da 1), .inl (E 0, 9, .inl (upd df1_21 (p0 : Int32).toNatClampNeg L3_21))), ((da 2), .inl (E 0, 9, .inl df2_21)), ((da 3), .inl (E 0, 3, .inl df3)), ((da 4), .inl (E 0, 3, .inl (upd df4_21 (L3_21 : Int32).toNatClampNeg z_27)))] H := hP
            have hD := toW hP hD rfl
            refine lv_aload_n hx hb dX0_tryFrom_65 rfl (lv_at hl 1 rfl) ?_
            refine lv_iload_n hx hb dX0_tryFrom_66 rfl (lv_at hl 2 rfl) ?_
            refine lv_iconst (v := 1) hx hb dX0_tryFrom_67 (by decide) ?_
            refine lv_iadd hx hb dX0_tryFrom_68 ?_
            refine lv_topi (fun z_28 ez_28 => ?_)
            have jz_28 : z_28.toInt = p0.toInt + 1 := by rw [ez_28]; exact g_add rfl t_1 (by omega) (by omega)
            refine lv_iload_n hx hb dX0_tryFrom_69 rfl (lv_at hl 3 rfl) ?_
            have hPc := hP.sub (ws' := [(dh, .inr (0, G0 da dlisted dshared dsailing dleastWorst_21)), ((da 0), .inl (E 0, 9, .inl df0)), ((da 1), .inl (E 0, 9, .inl (upd df1_21 (p0 : Int32).toNatClampNeg L3_21))), ((da 2), .inl (E 0, 9, .inl df2_21)), ((da 3), .inl (E 0, 3, .inl df3)), ((da 4), .inl (E 0, 3, .inl (upd df4_21 (L3_21 : Int32).toNatClampNeg z_27)))]) [0, 1, 2, 3, 4, 5] rfl
            have hDc := hD.sub (ws' := [(dh, .inr (0, G0 da dlisted dshared dsailing dleastWorst_21)), ((da 0), .inl (E 0, 9, .inl df0)), ((da 1), .inl (E 0, 9, .inl (upd df1_21 (p0 : Int32).toNatClampNeg L3_21))), ((da 2), .inl (E 0, 9, .inl df2_21)), ((da 3), .inl (E 0, 3, .inl df3)), ((da 4), .inl (E 0, 3, .inl (upd df4_21 (L3_21 : Int32).toNatClampNeg z_27)))]) [0, 1, 2, 3, 4, 5] (by decide) rfl
            refine aft_v (runMV (rest := []) (As := [.int z_28, .int p1]) hx hb hml hown htb hK (g_X0_tryFrom_2 l D E dh da dlisted dshared dsailing dleastWorst_21 df0 (upd df1_21 (p0 : Int32).toNatClampNeg L3_21) df2_21 df3 (upd df4_21 (L3_21 : Int32).toNatClampNeg z_27) z_28 p1 _ (by (try dsimp only); omega) (by (try dsimp only); omega)) ok_X0_tryFrom k_905 k_907 ks_34 k_7 k_908 ⟨(Nat.le_of_ble_eq_true rfl), (Nat.le_of_ble_eq_true rfl)⟩ ⟨(Nat.le_of_ble_eq_true rfl), (Nat.le_of_ble_eq_true rfl)⟩ hl.1 (Nat.le_of_ble_eq_true rfl) rfl rfl dX0_tryFrom_70 hPc hDc rfl rfl 0 rfl) hP hD hS hA [0, 1, 2, 3, 4, 5] [] (wr := ([] : va_W)) rfl rfl (by decide) (by decide) (fun u_31 H locs hw_30 hP hD hS => ?_)
            clear hPc hDc
            obtain ⟨w_32, w_33, w_34, w_35⟩ := u_31
            try dsimp only at hw_30
            have hP : va_P D vwCl [(dh, .inr (0, G0 da dlisted dshared dsailing w_35)), ((da 0), .inl (E 0, 9, .inl df0)), ((da 1), .inl (E 0, 9, .inl w_32)), ((da 2), .inl (E 0, 9, .inl w_33)), ((da 3), .inl (E 0, 3, .inl df3)), ((da 4), .inl (E 0, 3, .inl w_34))] H := hP
            have hD := toW hP hD rfl
            refine lv_aload_n hx hb dX0_tryFrom_73 rfl (lv_at hl 1 rfl) ?_
            refine va_get (D := D) (ci := 0) (v := .ref (da 4)) (C := RX0) (T := TX0) (N := 9) hx hb htb iX0 hown hK.1 hP 0 rfl rfl 4 (by decide) (htb _ k_195) (fun _ h9 => h9) rfl dX0_tryFrom_74 ?_
            refine lv_iload_n hx hb dX0_tryFrom_77 rfl (lv_at hl 0 rfl) ?_
            refine lv_dup2_11 hx hb dX0_tryFrom_78 rfl rfl ?_
            refine va_iald hx hb hK.1 hP 5 0 rfl rfl (g_in rfl (by omega) (by omega)) dX0_tryFrom_79 ?_
            refine lv_topi (fun z_36 ez_36 => ?_)
            have kz_36 := congrArg Int32.toInt ez_36
            refine lv_iconst (v := 1) hx hb dX0_tryFrom_80 (by decide) ?_
            refine lv_isub hx hb dX0_tryFrom_81 ?_
            refine lv_topi (fun z_37 ez_37 => ?_)
            refine va_iast hx hb hK.1 hP hD hS 5 0 rfl rfl (g_in rfl (by omega) (by omega)) dX0_tryFrom_82 (fun H locs hP hD hS => ?_)
            have hP : va_P D vwCl [(dh, .inr (0, G0 da dlisted dshared dsailing w_35)), ((da 0), .inl (E 0, 9, .inl df0)), ((da 1), .inl (E 0, 9, .inl w_32)), ((da 2), .inl (E 0, 9, .inl w_33)), ((da 3), .inl (E 0, 3, .inl df3)), ((da 4), .inl (E 0, 3, .inl (upd w_34 (L3_21 : Int32).toNatClampNeg z_37)))] H := hP
            have hD := toW hP hD rfl
            obtain ⟨z_38, ez_38⟩ : ∃ y : Int32, y = L3_21 + 1 := ⟨_, rfl⟩
            have jz_38 : z_38.toInt = L3_21.toInt + 1 := by rw [ez_38]; exact g_add rfl t_1 (by omega) (by omega)
            refine lv_iinc (v := z_38) (lv' := [(3, .int z_38), (0, .ref dh), (1, .int p0), (2, .int p1)]) hx hb dX0_tryFrom_83 hl (k := 0) rfl (by rw [ez_38]; rfl) (by decide) rfl (fun ls hl => ?_)
            refine lv_goto (tgt := 21) hx hb dX0_tryFrom_86 (by decide) ?_
            exact ih_9 z_38 w_35 w_32 w_33 (upd w_34 (L3_21 : Int32).toNatClampNeg z_37) _ _ _ (by (try dsimp only); omega) (by (try dsimp only); omega) hP hD hS (lv_sub hl [0, 1, 2, 3] rfl)
    exact loop_8 4 0 dleastWorst df1 df2 df4 _ _ _ (by have h0 := t_0; (try dsimp only); omega) (by have h0 := t_0; (try dsimp only); omega) hP hD hS (lv_sub hl [0, 1, 2, 3] rfl)
set_option maxHeartbeats 4000000 in
set_option maxRecDepth 100000 in
theorem g_X0_tryFrom_4 (l : Launch) (D : va_G) (E : Nat → Nat) (dh : Nat) (da : Nat → Nat) (dlisted : Int32) (dshared : Int32) (dsailing : Int32) (dleastWorst : Int32) (df0 : Nat → Int32) (df1 : Nat → Int32) (df2 : Nat → Int32) (df3 : Nat → Int32) (df4 : Nat → Int32) (p0 : Int32) (p1 : Int32) (sz : Nat) (hi_d : (0 ≤ dlisted.toInt ∧ dlisted.toInt ≤ 9) ∧ (0 ≤ dshared.toInt ∧ dshared.toInt ≤ 9) ∧ (0 ≤ dsailing.toInt ∧ dsailing.toInt ≤ 3)) (g0 : 5 ≤ p0.toInt ∧ p0.toInt ≤ 9) : Met l yX0_tryFrom (wl yX0_tryFrom cX0_tryFrom 4 none) (RM 7 0 0) (mu_P D E [.ref dh, .int p0, .int p1] [(dh, .inr (0, G0 da dlisted dshared dsailing dleastWorst)), ((da 0), .inl (E 0, 9, .inl df0)), ((da 1), .inl (E 0, 9, .inl df1)), ((da 2), .inl (E 0, 9, .inl df2)), ((da 3), .inl (E 0, 3, .inl df3)), ((da 4), .inl (E 0, 3, .inl df4))] sz) (va_Qv (fun (u : (Nat → Int32) × (Nat → Int32) × (Nat → Int32) × (Int32)) => True) (mu_B D (va_A [(dh, .inr (0, G0 da dlisted dshared dsailing dleastWorst)), ((da 0), .inl (E 0, 9, .inl df0)), ((da 1), .inl (E 0, 9, .inl df1)), ((da 2), .inl (E 0, 9, .inl df2)), ((da 3), .inl (E 0, 3, .inl df3)), ((da 4), .inl (E 0, 3, .inl df4))] sz) (fun (u : (Nat → Int32) × (Nat → Int32) × (Nat → Int32) × (Int32)) => [(dh, .inr (0, G0 da dlisted dshared dsailing u.2.2.2)), ((da 0), .inl (E 0, 9, .inl df0)), ((da 1), .inl (E 0, 9, .inl u.1)), ((da 2), .inl (E 0, 9, .inl u.2.1)), ((da 3), .inl (E 0, 3, .inl df3)), ((da 4), .inl (E 0, 3, .inl u.2.2.1))])) (va_A [(dh, .inr (0, G0 da dlisted dshared dsailing dleastWorst)), ((da 0), .inl (E 0, 9, .inl df0)), ((da 1), .inl (E 0, 9, .inl df1)), ((da 2), .inl (E 0, 9, .inl df2)), ((da 3), .inl (E 0, 3, .inl df3)), ((da 4), .inl (E 0, 3, .inl df4))] sz)) 0 0 (va_A [(dh, .inr (0, G0 da dlisted dshared dsailing dleastWorst)), ((da 0), .inl (E 0, 9, .inl df0)), ((da 1), .inl (E 0, 9, .inl df1)), ((da 2), .inl (E 0, 9, .inl df2)), ((da 3), .inl (E 0, 3, .inl df3)), ((da 4), .inl (E 0, 3, .inl df4))] sz) := by
  refine Met.ofW (cc := cX0_tryFrom) (maxL := 4) (ret := none) (by decide) rfl ?_
  intro p e s m args below meth c s₁ B hml hv
  obtain ⟨rfl, hsz, hP, hK, hD0⟩ := hv
  have hx := B.exec; have hb := B.bytes; have hr := B.returns
  have hts := atoms_spec (ws := wl yX0_tryFrom cX0_tryFrom 4 none) B.pre
  have htb : ∀ w ∈ tb, w.before _ s = true := fun w h => hts w (List.mem_cons_of_mem _ h)
  have hown : s.vm.findClass RX0 = some m.cls := findClass_of_methodNamed B.named
  have hlocks := B.notSynchronized
  subst hsz
  have hD := hD0.self (sz := s.heap.size)
  generalize hAe : va_A [(dh, .inr (0, G0 da dlisted dshared dsailing dleastWorst)), ((da 0), .inl (E 0, 9, .inl df0)), ((da 1), .inl (E 0, 9, .inl df1)), ((da 2), .inl (E 0, 9, .inl df2)), ((da 3), .inl (E 0, 3, .inl df3)), ((da 4), .inl (E 0, 3, .inl df4))] s.heap.size = A at hD ⊢
  have hA : ∀ q : Nat, s.heap.size ≤ q → A q := fun q h => by rw [← hAe]; exact Or.inr h
  have hS : va_S A s.heap s.heap [] := va_S.rf
  have hP : va_P D vwCl [(dh, .inr (0, G0 da dlisted dshared dsailing dleastWorst)), ((da 0), .inl (E 0, 9, .inl df0)), ((da 1), .inl (E 0, 9, .inl df1)), ((da 2), .inl (E 0, 9, .inl df2)), ((da 3), .inl (E 0, 3, .inl df3)), ((da 4), .inl (E 0, 3, .inl df4))] s.heap := hP
  have hl := lv_entry ([.ref dh, .int p0, .int p1]) (n := 4) (Nat.le_of_ble_eq_true rfl)
  rw [lg_entry_eq]
  generalize (lg_sl ([.ref dh, .int p0, .int p1]) ++ List.replicate (4 - (lg_sl ([.ref dh, .int p0, .int p1])).length) Slot.unset).toArray = ls at hl ⊢
  have hl : lv_has ls 4 [(0, .ref dh), (1, .int p0), (2, .int p1)] := hl
  have lo_p0 := i_lo p0; have hi_p0 := i_hi p0
  have lo_p1 := i_lo p1; have hi_p1 := i_hi p1
  refine lv_iload_n hx hb dX0_tryFrom_0 rfl (lv_at hl 1 rfl) ?_
  refine lv_aload_n hx hb dX0_tryFrom_1 rfl (lv_at hl 0 rfl) ?_
  refine va_get (D := D) (ci := 0) (v := .int dlisted) (C := RX0) (T := TX0) (N := 9) hx hb htb iX0 hown hK.1 hP 0 rfl rfl 5 (by decide) (htb _ k_196) (fun _ h9 => h9) rfl dX0_tryFrom_2 ?_
  refine lv_icmp_ge (tgt := 14) hx hb dX0_tryFrom_5 (by decide) (fun c_1 => ?_) (fun c_1 => ?_)
  ·
    have ic_1 : dlisted.toInt ≤ p0.toInt := by first | exact (g_le rfl rfl).mp c_1 | (have h := mt (g_lt rfl rfl).mpr c_1; omega)
    clear c_1
    refine lv_aload_n hx hb dX0_tryFrom_14 rfl (lv_at hl 0 rfl) ?_
    have hPc := hP.sub (ws' := [(dh, .inr (0, G0 da dlisted dshared dsailing dleastWorst)), ((da 0), .inl (E 0, 9, .inl df0)), ((da 1), .inl (E 0, 9, .inl df1)), ((da 2), .inl (E 0, 9, .inl df2)), ((da 3), .inl (E 0, 3, .inl df3))]) [0, 1, 2, 3, 4] rfl
    have hDc := hD.sub (ws' := [(dh, .inr (0, G0 da dlisted dshared dsailing dleastWorst)), ((da 0), .inl (E 0, 9, .inl df0)), ((da 1), .inl (E 0, 9, .inl df1)), ((da 2), .inl (E 0, 9, .inl df2)), ((da 3), .inl (E 0, 3, .inl df3))]) [0, 1, 2, 3, 4] (by decide) rfl
    refine aft_v (runMV (rest := []) (As := []) hx hb hml hown htb hK (g_X0_keepIfBetter l D E dh da dlisted dshared dsailing dleastWorst df0 df1 df2 df3 _ (by (try dsimp only); omega)) ok_X0_keepIfBetter k_909 k_911 ks_35 k_7 k_912 ⟨(Nat.le_of_ble_eq_true rfl), (Nat.le_of_ble_eq_true rfl)⟩ ⟨(Nat.le_of_ble_eq_true rfl), (Nat.le_of_ble_eq_true rfl)⟩ hl.1 (Nat.le_of_ble_eq_true rfl) rfl rfl dX0_tryFrom_15 hPc hDc rfl rfl 0 rfl) hP hD hS hA [0, 1, 2, 3, 4] [5] (wr := [((da 4), .inl (E 0, 3, .inl df4))]) rfl rfl (by decide) (by decide) (fun u_4 H locs hw_3 hP hD hS => ?_)
    clear hPc hDc
    obtain ⟨w_5, w_6⟩ := u_4
    try dsimp only at hw_3
    have hP : va_P D vwCl [((da 4), .inl (E 0, 3, .inl df4)), (dh, .inr (0, G0 da dlisted dshared dsailing w_6)), ((da 0), .inl (E 0, 9, .inl df0)), ((da 1), .inl (E 0, 9, .inl df1)), ((da 2), .inl (E 0, 9, .inl w_5)), ((da 3), .inl (E 0, 3, .inl df3))] H := hP
    have hD := toW hP hD rfl
    have hP9 := hP.sub (ws' := [(dh, .inr (0, G0 da dlisted dshared dsailing w_6)), ((da 0), .inl (E 0, 9, .inl df0)), ((da 1), .inl (E 0, 9, .inl df1)), ((da 2), .inl (E 0, 9, .inl w_5)), ((da 3), .inl (E 0, 3, .inl df3)), ((da 4), .inl (E 0, 3, .inl df4))]) [1, 2, 3, 4, 5, 0] rfl
    have hD9 := hD.sub (ws' := [(dh, .inr (0, G0 da dlisted dshared dsailing w_6)), ((da 0), .inl (E 0, 9, .inl df0)), ((da 1), .inl (E 0, 9, .inl df1)), ((da 2), .inl (E 0, 9, .inl w_5)), ((da 3), .inl (E 0, 3, .inl df3)), ((da 4), .inl (E 0, 3, .inl df4))]) [1, 2, 3, 4, 5, 0] (by decide) rfl
    exact W.vret hx hb hr (fun t ht hW => ⟨⟨(df1, w_5, df4, w_6), rfl, trivial, by rw [ht]; exact hP9, hD9⟩, hS.F ht⟩) hS.2.2 dX0_tryFrom_18
  ·
    have ic_1 : p0.toInt < dlisted.toInt := by first | exact (g_lt rfl rfl).mp c_1 | (have h := mt (g_le rfl rfl).mpr c_1; omega)
    clear c_1
    refine lv_iload_n hx hb dX0_tryFrom_8 rfl (lv_at hl 1 rfl) ?_
    refine lv_bipush (v := 9) hx hb dX0_tryFrom_9 (by decide) ?_
    refine lv_icmp_lt (tgt := 19) hx hb dX0_tryFrom_11 (by decide) (fun c_7 => ?_) (fun c_7 => absurd (by rw [g_lt rfl t_9]; omega) c_7)
    refine lv_iconst (v := 0) hx hb dX0_tryFrom_19 (by decide) ?_
    refine lv_istore_n (lv' := [(3, .int 0), (0, .ref dh), (1, .int p0), (2, .int p1)]) hx hb dX0_tryFrom_20 rfl hl (by decide) rfl (fun ls hl => ?_)
    have loop_8 : ∀ (N_10 : Nat) (L3_21 : Int32) (dleastWorst_21 : Int32) (df1_21 : Nat → Int32) (df2_21 : Nat → Int32) (df4_21 : Nat → Int32) (H : Heap) (locs : List Loc) (ls : Array Slot), 3 - L3_21.toInt < (N_10 : Int) → (0 ≤ L3_21.toInt ∧ L3_21.toInt ≤ 3) → va_P D vwCl [(dh, .inr (0, G0 da dlisted dshared dsailing dleastWorst_21)), ((da 0), .inl (E 0, 9, .inl df0)), ((da 1), .inl (E 0, 9, .inl df1_21)), ((da 2), .inl (E 0, 9, .inl df2_21)), ((da 3), .inl (E 0, 3, .inl df3)), ((da 4), .inl (E 0, 3, .inl df4_21))] H → va_D A [(dh, .inr (0, G0 da dlisted dshared dsailing dleastWorst_21)), ((da 0), .inl (E 0, 9, .inl df0)), ((da 1), .inl (E 0, 9, .inl df1_21)), ((da 2), .inl (E 0, 9, .inl df2_21)), ((da 3), .inl (E 0, 3, .inl df3)), ((da 4), .inl (E 0, 3, .inl df4_21))] → va_S A s.heap H locs → lv_has ls 4 [(3, .int L3_21), (0, .ref dh), (1, .int p0), (2, .int p1)] → W p l e (headSpec (wl yX0_tryFrom cX0_tryFrom 4 none) (RM 7 0 0)).room s m [Value.ref dh, .int p0, .int p1].toArray below meth c H locs 0 0 (MQ below (va_Qv (fun (u : (Nat → Int32) × (Nat → Int32) × (Nat → Int32) × (Int32)) => True) (mu_B D A (fun (u : (Nat → Int32) × (Nat → Int32) × (Nat → Int32) × (Int32)) => [(dh, .inr (0, G0 da dlisted dshared dsailing u.2.2.2)), ((da 0), .inl (E 0, 9, .inl df0)), ((da 1), .inl (E 0, 9, .inl u.1)), ((da 2), .inl (E 0, 9, .inl u.2.1)), ((da 3), .inl (E 0, 3, .inl df3)), ((da 4), .inl (E 0, 3, .inl u.2.2.1))])) A) [Value.ref dh, .int p0, .int p1].toArray s 0 0 A) (F0 m 21 ls []) := by
      intro N_10
      induction N_10 with
      | zero => intro L3_21 dleastWorst_21 df1_21 df2_21 df4_21 H locs ls hm v0_21 _ _ _ _; exfalso; omega
      | succ N_10 ih_9 =>
        intro L3_21 dleastWorst_21 df1_21 df2_21 df4_21 H locs ls hm v0_21 hP hD hS hl
        have lo_L3_21 := i_lo L3_21; have hi_L3_21 := i_hi L3_21
        have lo_dleastWorst_21 := i_lo dleastWorst_21; have hi_dleastWorst_21 := i_hi dleastWorst_21
        refine lv_iload_n hx hb dX0_tryFrom_21 rfl (lv_at hl 0 rfl) ?_
        refine lv_aload_n hx hb dX0_tryFrom_22 rfl (lv_at hl 1 rfl) ?_
        refine va_get (D := D) (ci := 0) (v := .int dsailing) (C := RX0) (T := TX0) (N := 9) hx hb htb iX0 hown hK.1 hP 0 rfl rfl 7 (by decide) (htb _ k_200) (fun _ h9 => h9) rfl dX0_tryFrom_23 ?_
        refine lv_icmp_ge (tgt := 89) hx hb dX0_tryFrom_26 (by decide) (fun c_11 => ?_) (fun c_11 => ?_)
        ·
          have ic_11 : dsailing.toInt ≤ L3_21.toInt := by first | exact (g_le rfl rfl).mp c_11 | (have h := mt (g_lt rfl rfl).mpr c_11; omega)
          clear c_11
          refine lv_iload_n hx hb dX0_tryFrom_89 rfl (lv_at hl 3 rfl) ?_
          refine lv_if_le (tgt := 110) hx hb dX0_tryFrom_90 (by decide) (fun c_12 => ?_) (fun c_12 => ?_)
          ·
            have ic_12 : p1.toInt ≤ 0 := by first | exact (g_le rfl t_0).mp c_12 | (have h := mt (g_lt t_0 rfl).mpr c_12; omega)
            clear c_12
            have hP9 := hP.sub (ws' := [(dh, .inr (0, G0 da dlisted dshared dsailing dleastWorst_21)), ((da 0), .inl (E 0, 9, .inl df0)), ((da 1), .inl (E 0, 9, .inl df1_21)), ((da 2), .inl (E 0, 9, .inl df2_21)), ((da 3), .inl (E 0, 3, .inl df3)), ((da 4), .inl (E 0, 3, .inl df4_21))]) [0, 1, 2, 3, 4, 5] rfl
            have hD9 := hD.sub (ws' := [(dh, .inr (0, G0 da dlisted dshared dsailing dleastWorst_21)), ((da 0), .inl (E 0, 9, .inl df0)), ((da 1), .inl (E 0, 9, .inl df1_21)), ((da 2), .inl (E 0, 9, .inl df2_21)), ((da 3), .inl (E 0, 3, .inl df3)), ((da 4), .inl (E 0, 3, .inl df4_21))]) [0, 1, 2, 3, 4, 5] (by decide) rfl
            exact W.vret hx hb hr (fun t ht hW => ⟨⟨(df1_21, df2_21, df4_21, dleastWorst_21), rfl, trivial, by rw [ht]; exact hP9, hD9⟩, hS.F ht⟩) hS.2.2 dX0_tryFrom_110
          ·
            have ic_12 : 0 < p1.toInt := by first | exact (g_lt t_0 rfl).mp c_12 | (have h := mt (g_le rfl t_0).mpr c_12; omega)
            clear c_12
            refine lv_aload_n hx hb dX0_tryFrom_93 rfl (lv_at hl 1 rfl) ?_
            refine va_get (D := D) (ci := 0) (v := .ref (da 1)) (C := RX0) (T := TX0) (N := 9) hx hb htb iX0 hown hK.1 hP 0 rfl rfl 1 (by decide) (htb _ k_191) (fun _ h9 => h9) rfl dX0_tryFrom_94 ?_
            refine lv_iload_n hx hb dX0_tryFrom_97 rfl (lv_at hl 2 rfl) ?_
            refine lv_iconst (v := (-1)) hx hb dX0_tryFrom_98 (by decide) ?_
            refine va_iast hx hb hK.1 hP hD hS 2 0 rfl rfl (g_in rfl (by omega) (by omega)) dX0_tryFrom_99 (fun H locs hP hD hS => ?_)
            have hP : va_P D vwCl [(dh, .inr (0, G0 da dlisted dshared dsailing dleastWorst_21)), ((da 0), .inl (E 0, 9, .inl df0)), ((da 1), .inl (E 0, 9, .inl (upd df1_21 (p0 : Int32).toNatClampNeg (-1)))), ((da 2), .inl (E 0, 9, .inl df2_21)), ((da 3), .inl (E 0, 3, .inl df3)), ((da 4), .inl (E 0, 3, .inl df4_21))] H := hP
            have hD := toW hP hD rfl
            refine lv_aload_n hx hb dX0_tryFrom_100 rfl (lv_at hl 1 rfl) ?_
            refine lv_iload_n hx hb dX0_tryFrom_101 rfl (lv_at hl 2 rfl) ?_
            refine lv_iconst (v := 1) hx hb dX0_tryFrom_102 (by decide) ?_
            refine lv_iadd hx hb dX0_tryFrom_103 ?_
            refine lv_topi (fun z_13 ez_13 => ?_)
            have jz_13 : z_13.toInt = p0.toInt + 1 := by rw [ez_13]; exact g_add rfl t_1 (by omega) (by omega)
            refine lv_iload_n hx hb dX0_tryFrom_104 rfl (lv_at hl 3 rfl) ?_
            refine lv_iconst (v := 1) hx hb dX0_tryFrom_105 (by decide) ?_
            refine lv_isub hx hb dX0_tryFrom_106 ?_
            refine lv_topi (fun z_14 ez_14 => ?_)
            have jz_14 : z_14.toInt = p1.toInt - 1 := by rw [ez_14]; exact g_sub rfl t_1 (by omega) (by omega)
            have hPc := hP.sub (ws' := [(dh, .inr (0, G0 da dlisted dshared dsailing dleastWorst_21)), ((da 0), .inl (E 0, 9, .inl df0)), ((da 1), .inl (E 0, 9, .inl (upd df1_21 (p0 : Int32).toNatClampNeg (-1)))), ((da 2), .inl (E 0, 9, .inl df2_21)), ((da 3), .inl (E 0, 3, .inl df3)), ((da 4), .inl (E 0, 3, .inl df4_21))]) [0, 1, 2, 3, 4, 5] rfl
            have hDc := hD.sub (ws' := [(dh, .inr (0, G0 da dlisted dshared dsailing dleastWorst_21)), ((da 0), .inl (E 0, 9, .inl df0)), ((da 1), .inl (E 0, 9, .inl (upd df1_21 (p0 : Int32).toNatClampNeg (-1)))), ((da 2), .inl (E 0, 9, .inl df2_21)), ((da 3), .inl (E 0, 3, .inl df3)), ((da 4), .inl (E 0, 3, .inl df4_21))]) [0, 1, 2, 3, 4, 5] (by decide) rfl
            refine aft_v (runMV (rest := []) (As := [.int z_13, .int z_14]) hx hb hml hown htb hK (g_X0_tryFrom_3 l D E dh da dlisted dshared dsailing dleastWorst_21 df0 (upd df1_21 (p0 : Int32).toNatClampNeg (-1)) df2_21 df3 df4_21 z_13 z_14 _ (by (try dsimp only); omega) (by (try dsimp only); omega)) ok_X0_tryFrom k_905 k_907 ks_34 k_7 k_908 ⟨(Nat.le_of_ble_eq_true rfl), (Nat.le_of_ble_eq_true rfl)⟩ ⟨(Nat.le_of_ble_eq_true rfl), (Nat.le_of_ble_eq_true rfl)⟩ hl.1 (Nat.le_of_ble_eq_true rfl) rfl rfl dX0_tryFrom_107 hPc hDc rfl rfl 0 rfl) hP hD hS hA [0, 1, 2, 3, 4, 5] [] (wr := ([] : va_W)) rfl rfl (by decide) (by decide) (fun u_17 H locs hw_16 hP hD hS => ?_)
            clear hPc hDc
            obtain ⟨w_18, w_19, w_20, w_21⟩ := u_17
            try dsimp only at hw_16
            have hP : va_P D vwCl [(dh, .inr (0, G0 da dlisted dshared dsailing w_21)), ((da 0), .inl (E 0, 9, .inl df0)), ((da 1), .inl (E 0, 9, .inl w_18)), ((da 2), .inl (E 0, 9, .inl w_19)), ((da 3), .inl (E 0, 3, .inl df3)), ((da 4), .inl (E 0, 3, .inl w_20))] H := hP
            have hD := toW hP hD rfl
            have hP9 := hP.sub (ws' := [(dh, .inr (0, G0 da dlisted dshared dsailing w_21)), ((da 0), .inl (E 0, 9, .inl df0)), ((da 1), .inl (E 0, 9, .inl w_18)), ((da 2), .inl (E 0, 9, .inl w_19)), ((da 3), .inl (E 0, 3, .inl df3)), ((da 4), .inl (E 0, 3, .inl w_20))]) [0, 1, 2, 3, 4, 5] rfl
            have hD9 := hD.sub (ws' := [(dh, .inr (0, G0 da dlisted dshared dsailing w_21)), ((da 0), .inl (E 0, 9, .inl df0)), ((da 1), .inl (E 0, 9, .inl w_18)), ((da 2), .inl (E 0, 9, .inl w_19)), ((da 3), .inl (E 0, 3, .inl df3)), ((da 4), .inl (E 0, 3, .inl w_20))]) [0, 1, 2, 3, 4, 5] (by decide) rfl
            exact W.vret hx hb hr (fun t ht hW => ⟨⟨(w_18, w_19, w_20, w_21), rfl, trivial, by rw [ht]; exact hP9, hD9⟩, hS.F ht⟩) hS.2.2 dX0_tryFrom_110
        ·
          have ic_11 : L3_21.toInt < dsailing.toInt := by first | exact (g_lt rfl rfl).mp c_11 | (have h := mt (g_le rfl rfl).mpr c_11; omega)
          clear c_11
          refine lv_iload_n hx hb dX0_tryFrom_29 rfl (lv_at hl 0 rfl) ?_
          refine lv_aload_n hx hb dX0_tryFrom_30 rfl (lv_at hl 1 rfl) ?_
          refine va_get (D := D) (ci := 0) (v := .ref (da 4)) (C := RX0) (T := TX0) (N := 9) hx hb htb iX0 hown hK.1 hP 0 rfl rfl 4 (by decide) (htb _ k_195) (fun _ h9 => h9) rfl dX0_tryFrom_31 ?_
          refine va_alen hx hb hK.1 hP 5 0 rfl rfl (v := 3) (show Int32.ofNat 3 = 3 by decide) dX0_tryFrom_34 ?_
          refine lv_icmp_ge (tgt := 89) hx hb dX0_tryFrom_35 (by decide) (fun c_22 => absurd c_22 (by rw [g_le t_3 rfl]; omega)) (fun c_22 => ?_)
          refine lv_aload_n hx hb dX0_tryFrom_38 rfl (lv_at hl 1 rfl) ?_
          refine va_get (D := D) (ci := 0) (v := .ref (da 4)) (C := RX0) (T := TX0) (N := 9) hx hb htb iX0 hown hK.1 hP 0 rfl rfl 4 (by decide) (htb _ k_195) (fun _ h9 => h9) rfl dX0_tryFrom_39 ?_
          refine lv_iload_n hx hb dX0_tryFrom_42 rfl (lv_at hl 0 rfl) ?_
          refine va_iald hx hb hK.1 hP 5 0 rfl rfl (g_in rfl (by omega) (by omega)) dX0_tryFrom_43 ?_
          refine lv_topi (fun z_23 ez_23 => ?_)
          have kz_23 := congrArg Int32.toInt ez_23
          refine lv_iconst (v := 3) hx hb dX0_tryFrom_44 (by decide) ?_
          refine lv_icmp_ge (tgt := 83) hx hb dX0_tryFrom_45 (by decide) (fun c_24 => ?_) (fun c_24 => ?_)
          ·
            have ic_24 : 3 ≤ z_23.toInt := by first | exact (g_le t_3 rfl).mp c_24 | (have h := mt (g_lt rfl t_3).mpr c_24; omega)
            clear c_24
            obtain ⟨z_25, ez_25⟩ : ∃ y : Int32, y = L3_21 + 1 := ⟨_, rfl⟩
            have jz_25 : z_25.toInt = L3_21.toInt + 1 := by rw [ez_25]; exact g_add rfl t_1 (by omega) (by omega)
            refine lv_iinc (v := z_25) (lv' := [(3, .int z_25), (0, .ref dh), (1, .int p0), (2, .int p1)]) hx hb dX0_tryFrom_83 hl (k := 0) rfl (by rw [ez_25]; rfl) (by decide) rfl (fun ls hl => ?_)
            refine lv_goto (tgt := 21) hx hb dX0_tryFrom_86 (by decide) ?_
            exact ih_9 z_25 dleastWorst_21 df1_21 df2_21 df4_21 _ _ _ (by (try dsimp only); omega) (by (try dsimp only); omega) hP hD hS (lv_sub hl [0, 1, 2, 3] rfl)
          ·
            have ic_24 : z_23.toInt < 3 := by first | exact (g_lt rfl t_3).mp c_24 | (have h := mt (g_le t_3 rfl).mpr c_24; omega)
            clear c_24
            refine lv_aload_n hx hb dX0_tryFrom_48 rfl (lv_at hl 1 rfl) ?_
            refine va_get (D := D) (ci := 0) (v := .ref (da 1)) (C := RX0) (T := TX0) (N := 9) hx hb htb iX0 hown hK.1 hP 0 rfl rfl 1 (by decide) (htb _ k_191) (fun _ h9 => h9) rfl dX0_tryFrom_49 ?_
            refine lv_iload_n hx hb dX0_tryFrom_52 rfl (lv_at hl 2 rfl) ?_
            refine lv_iload_n hx hb dX0_tryFrom_53 rfl (lv_at hl 0 rfl) ?_
            refine va_iast hx hb hK.1 hP hD hS 2 0 rfl rfl (g_in rfl (by omega) (by omega)) dX0_tryFrom_54 (fun H locs hP hD hS => ?_)
            have hP : va_P D vwCl [(dh, .inr (0, G0 da dlisted dshared dsailing dleastWorst_21)), ((da 0), .inl (E 0, 9, .inl df0)), ((da 1), .inl (E 0, 9, .inl (upd df1_21 (p0 : Int32).toNatClampNeg L3_21))), ((da 2), .inl (E 0, 9, .inl df2_21)), ((da 3), .inl (E 0, 3, .inl df3)), ((da 4), .inl (E 0, 3, .inl df4_21))] H := hP
            have hD := toW hP hD rfl
            refine lv_aload_n hx hb dX0_tryFrom_55 rfl (lv_at hl 1 rfl) ?_
            refine va_get (D := D) (ci := 0) (v := .ref (da 4)) (C := RX0) (T := TX0) (N := 9) hx hb htb iX0 hown hK.1 hP 0 rfl rfl 4 (by decide) (htb _ k_195) (fun _ h9 => h9) rfl dX0_tryFrom_56 ?_
            refine lv_iload_n hx hb dX0_tryFrom_59 rfl (lv_at hl 0 rfl) ?_
            refine lv_dup2_11 hx hb dX0_tryFrom_60 rfl rfl ?_
            refine va_iald hx hb hK.1 hP 5 0 rfl rfl (g_in rfl (by omega) (by omega)) dX0_tryFrom_61 ?_
            refine lv_topi (fun z_26 ez_26 => ?_)
            have kz_26 := congrArg Int32.toInt ez_26
            refine lv_iconst (v := 1) hx hb dX0_tryFrom_62 (by decide) ?_
            refine lv_iadd hx hb dX0_tryFrom_63 ?_
            refine lv_topi (fun z_27 ez_27 => ?_)
            refine va_iast hx hb hK.1 hP hD hS 5 0 rfl rfl (g_in rfl (by omega) (by omega)) dX0_tryFrom_64 (fun H locs hP hD hS => ?_)
            have hP : va_P D vwCl [(dh, .inr (0, G0 da dlisted dshared dsailing dleastWorst_21)), ((da 0), .inl (E 0, 9, .inl df0)), ((da 1), .inl (E 0, 9, .inl (upd df1_21 (p0 : Int32).toNatClampNeg L3_21))), ((da 2), .inl (E 0, 9, .inl df2_21)), ((da 3), .inl (E 0, 3, .inl df3)), ((da 4), .inl (E 0, 3, .inl (upd df4_21 (L3_21 : Int32).toNatClampNeg z_27)))] H := hP
            have hD := toW hP hD rfl
            refine lv_aload_n hx hb dX0_tryFrom_65 rfl (lv_at hl 1 rfl) ?_
            refine lv_iload_n hx hb dX0_tryFrom_66 rfl (lv_at hl 2 rfl) ?_
            refine lv_iconst (v := 1) hx hb dX0_tryFrom_67 (by decide) ?_
            refine lv_iadd hx hb dX0_tryFrom_68 ?_
            refine lv_topi (fun z_28 ez_28 => ?_)
            have jz_28 : z_28.toInt = p0.toInt + 1 := by rw [ez_28]; exact g_add rfl t_1 (by omega) (by omega)
            refine lv_iload_n hx hb dX0_tryFrom_69 rfl (lv_at hl 3 rfl) ?_
            have hPc := hP.sub (ws' := [(dh, .inr (0, G0 da dlisted dshared dsailing dleastWorst_21)), ((da 0), .inl (E 0, 9, .inl df0)), ((da 1), .inl (E 0, 9, .inl (upd df1_21 (p0 : Int32).toNatClampNeg L3_21))), ((da 2), .inl (E 0, 9, .inl df2_21)), ((da 3), .inl (E 0, 3, .inl df3)), ((da 4), .inl (E 0, 3, .inl (upd df4_21 (L3_21 : Int32).toNatClampNeg z_27)))]) [0, 1, 2, 3, 4, 5] rfl
            have hDc := hD.sub (ws' := [(dh, .inr (0, G0 da dlisted dshared dsailing dleastWorst_21)), ((da 0), .inl (E 0, 9, .inl df0)), ((da 1), .inl (E 0, 9, .inl (upd df1_21 (p0 : Int32).toNatClampNeg L3_21))), ((da 2), .inl (E 0, 9, .inl df2_21)), ((da 3), .inl (E 0, 3, .inl df3)), ((da 4), .inl (E 0, 3, .inl (upd df4_21 (L3_21 : Int32).toNatClampNeg z_27)))]) [0, 1, 2, 3, 4, 5] (by decide) rfl
            refine aft_v (runMV (rest := []) (As := [.int z_28, .int p1]) hx hb hml hown htb hK (g_X0_tryFrom_3 l D E dh da dlisted dshared dsailing dleastWorst_21 df0 (upd df1_21 (p0 : Int32).toNatClampNeg L3_21) df2_21 df3 (upd df4_21 (L3_21 : Int32).toNatClampNeg z_27) z_28 p1 _ (by (try dsimp only); omega) (by (try dsimp only); omega)) ok_X0_tryFrom k_905 k_907 ks_34 k_7 k_908 ⟨(Nat.le_of_ble_eq_true rfl), (Nat.le_of_ble_eq_true rfl)⟩ ⟨(Nat.le_of_ble_eq_true rfl), (Nat.le_of_ble_eq_true rfl)⟩ hl.1 (Nat.le_of_ble_eq_true rfl) rfl rfl dX0_tryFrom_70 hPc hDc rfl rfl 0 rfl) hP hD hS hA [0, 1, 2, 3, 4, 5] [] (wr := ([] : va_W)) rfl rfl (by decide) (by decide) (fun u_31 H locs hw_30 hP hD hS => ?_)
            clear hPc hDc
            obtain ⟨w_32, w_33, w_34, w_35⟩ := u_31
            try dsimp only at hw_30
            have hP : va_P D vwCl [(dh, .inr (0, G0 da dlisted dshared dsailing w_35)), ((da 0), .inl (E 0, 9, .inl df0)), ((da 1), .inl (E 0, 9, .inl w_32)), ((da 2), .inl (E 0, 9, .inl w_33)), ((da 3), .inl (E 0, 3, .inl df3)), ((da 4), .inl (E 0, 3, .inl w_34))] H := hP
            have hD := toW hP hD rfl
            refine lv_aload_n hx hb dX0_tryFrom_73 rfl (lv_at hl 1 rfl) ?_
            refine va_get (D := D) (ci := 0) (v := .ref (da 4)) (C := RX0) (T := TX0) (N := 9) hx hb htb iX0 hown hK.1 hP 0 rfl rfl 4 (by decide) (htb _ k_195) (fun _ h9 => h9) rfl dX0_tryFrom_74 ?_
            refine lv_iload_n hx hb dX0_tryFrom_77 rfl (lv_at hl 0 rfl) ?_
            refine lv_dup2_11 hx hb dX0_tryFrom_78 rfl rfl ?_
            refine va_iald hx hb hK.1 hP 5 0 rfl rfl (g_in rfl (by omega) (by omega)) dX0_tryFrom_79 ?_
            refine lv_topi (fun z_36 ez_36 => ?_)
            have kz_36 := congrArg Int32.toInt ez_36
            refine lv_iconst (v := 1) hx hb dX0_tryFrom_80 (by decide) ?_
            refine lv_isub hx hb dX0_tryFrom_81 ?_
            refine lv_topi (fun z_37 ez_37 => ?_)
            refine va_iast hx hb hK.1 hP hD hS 5 0 rfl rfl (g_in rfl (by omega) (by omega)) dX0_tryFrom_82 (fun H locs hP hD hS => ?_)
            have hP : va_P D vwCl [(dh, .inr (0, G0 da dlisted dshared dsailing w_35)), ((da 0), .inl (E 0, 9, .inl df0)), ((da 1), .inl (E 0, 9, .inl w_32)), ((da 2), .inl (E 0, 9, .inl w_33)), ((da 3), .inl (E 0, 3, .inl df3)), ((da 4), .inl (E 0, 3, .inl (upd w_34 (L3_21 : Int32).toNatClampNeg z_37)))] H := hP
            have hD := toW hP hD rfl
            obtain ⟨z_38, ez_38⟩ : ∃ y : Int32, y = L3_21 + 1 := ⟨_, rfl⟩
            have jz_38 : z_38.toInt = L3_21.toInt + 1 := by rw [ez_38]; exact g_add rfl t_1 (by omega) (by omega)
            refine lv_iinc (v := z_38) (lv' := [(3, .int z_38), (0, .ref dh), (1, .int p0), (2, .int p1)]) hx hb dX0_tryFrom_83 hl (k := 0) rfl (by rw [ez_38]; rfl) (by decide) rfl (fun ls hl => ?_)
            refine lv_goto (tgt := 21) hx hb dX0_tryFrom_86 (by decide) ?_
            exact ih_9 z_38 w_35 w_32 w_33 (upd w_34 (L3_21 : Int32).toNatClampNeg z_37) _ _ _ (by (try dsimp only); omega) (by (try dsimp only); omega) hP hD hS (lv_sub hl [0, 1, 2, 3] rfl)
    exact loop_8 4 0 dleastWorst df1 df2 df4 _ _ _ (by have h0 := t_0; (try dsimp only); omega) (by have h0 := t_0; (try dsimp only); omega) hP hD hS (lv_sub hl [0, 1, 2, 3] rfl)
set_option maxHeartbeats 4000000 in
set_option maxRecDepth 100000 in
theorem g_X0_tryFrom_5 (l : Launch) (D : va_G) (E : Nat → Nat) (dh : Nat) (da : Nat → Nat) (dlisted : Int32) (dshared : Int32) (dsailing : Int32) (dleastWorst : Int32) (df0 : Nat → Int32) (df1 : Nat → Int32) (df2 : Nat → Int32) (df3 : Nat → Int32) (df4 : Nat → Int32) (p0 : Int32) (p1 : Int32) (sz : Nat) (hi_d : (0 ≤ dlisted.toInt ∧ dlisted.toInt ≤ 9) ∧ (0 ≤ dshared.toInt ∧ dshared.toInt ≤ 9) ∧ (0 ≤ dsailing.toInt ∧ dsailing.toInt ≤ 3)) (g0 : 4 ≤ p0.toInt ∧ p0.toInt ≤ 9) : Met l yX0_tryFrom (wl yX0_tryFrom cX0_tryFrom 4 none) (RM 8 0 0) (mu_P D E [.ref dh, .int p0, .int p1] [(dh, .inr (0, G0 da dlisted dshared dsailing dleastWorst)), ((da 0), .inl (E 0, 9, .inl df0)), ((da 1), .inl (E 0, 9, .inl df1)), ((da 2), .inl (E 0, 9, .inl df2)), ((da 3), .inl (E 0, 3, .inl df3)), ((da 4), .inl (E 0, 3, .inl df4))] sz) (va_Qv (fun (u : (Nat → Int32) × (Nat → Int32) × (Nat → Int32) × (Int32)) => True) (mu_B D (va_A [(dh, .inr (0, G0 da dlisted dshared dsailing dleastWorst)), ((da 0), .inl (E 0, 9, .inl df0)), ((da 1), .inl (E 0, 9, .inl df1)), ((da 2), .inl (E 0, 9, .inl df2)), ((da 3), .inl (E 0, 3, .inl df3)), ((da 4), .inl (E 0, 3, .inl df4))] sz) (fun (u : (Nat → Int32) × (Nat → Int32) × (Nat → Int32) × (Int32)) => [(dh, .inr (0, G0 da dlisted dshared dsailing u.2.2.2)), ((da 0), .inl (E 0, 9, .inl df0)), ((da 1), .inl (E 0, 9, .inl u.1)), ((da 2), .inl (E 0, 9, .inl u.2.1)), ((da 3), .inl (E 0, 3, .inl df3)), ((da 4), .inl (E 0, 3, .inl u.2.2.1))])) (va_A [(dh, .inr (0, G0 da dlisted dshared dsailing dleastWorst)), ((da 0), .inl (E 0, 9, .inl df0)), ((da 1), .inl (E 0, 9, .inl df1)), ((da 2), .inl (E 0, 9, .inl df2)), ((da 3), .inl (E 0, 3, .inl df3)), ((da 4), .inl (E 0, 3, .inl df4))] sz)) 0 0 (va_A [(dh, .inr (0, G0 da dlisted dshared dsailing dleastWorst)), ((da 0), .inl (E 0, 9, .inl df0)), ((da 1), .inl (E 0, 9, .inl df1)), ((da 2), .inl (E 0, 9, .inl df2)), ((da 3), .inl (E 0, 3, .inl df3)), ((da 4), .inl (E 0, 3, .inl df4))] sz) := by
  refine Met.ofW (cc := cX0_tryFrom) (maxL := 4) (ret := none) (by decide) rfl ?_
  intro p e s m args below meth c s₁ B hml hv
  obtain ⟨rfl, hsz, hP, hK, hD0⟩ := hv
  have hx := B.exec; have hb := B.bytes; have hr := B.returns
  have hts := atoms_spec (ws := wl yX0_tryFrom cX0_tryFrom 4 none) B.pre
  have htb : ∀ w ∈ tb, w.before _ s = true := fun w h => hts w (List.mem_cons_of_mem _ h)
  have hown : s.vm.findClass RX0 = some m.cls := findClass_of_methodNamed B.named
  have hlocks := B.notSynchronized
  subst hsz
  have hD := hD0.self (sz := s.heap.size)
  generalize hAe : va_A [(dh, .inr (0, G0 da dlisted dshared dsailing dleastWorst)), ((da 0), .inl (E 0, 9, .inl df0)), ((da 1), .inl (E 0, 9, .inl df1)), ((da 2), .inl (E 0, 9, .inl df2)), ((da 3), .inl (E 0, 3, .inl df3)), ((da 4), .inl (E 0, 3, .inl df4))] s.heap.size = A at hD ⊢
  have hA : ∀ q : Nat, s.heap.size ≤ q → A q := fun q h => by rw [← hAe]; exact Or.inr h
  have hS : va_S A s.heap s.heap [] := va_S.rf
  have hP : va_P D vwCl [(dh, .inr (0, G0 da dlisted dshared dsailing dleastWorst)), ((da 0), .inl (E 0, 9, .inl df0)), ((da 1), .inl (E 0, 9, .inl df1)), ((da 2), .inl (E 0, 9, .inl df2)), ((da 3), .inl (E 0, 3, .inl df3)), ((da 4), .inl (E 0, 3, .inl df4))] s.heap := hP
  have hl := lv_entry ([.ref dh, .int p0, .int p1]) (n := 4) (Nat.le_of_ble_eq_true rfl)
  rw [lg_entry_eq]
  generalize (lg_sl ([.ref dh, .int p0, .int p1]) ++ List.replicate (4 - (lg_sl ([.ref dh, .int p0, .int p1])).length) Slot.unset).toArray = ls at hl ⊢
  have hl : lv_has ls 4 [(0, .ref dh), (1, .int p0), (2, .int p1)] := hl
  have lo_p0 := i_lo p0; have hi_p0 := i_hi p0
  have lo_p1 := i_lo p1; have hi_p1 := i_hi p1
  refine lv_iload_n hx hb dX0_tryFrom_0 rfl (lv_at hl 1 rfl) ?_
  refine lv_aload_n hx hb dX0_tryFrom_1 rfl (lv_at hl 0 rfl) ?_
  refine va_get (D := D) (ci := 0) (v := .int dlisted) (C := RX0) (T := TX0) (N := 9) hx hb htb iX0 hown hK.1 hP 0 rfl rfl 5 (by decide) (htb _ k_196) (fun _ h9 => h9) rfl dX0_tryFrom_2 ?_
  refine lv_icmp_ge (tgt := 14) hx hb dX0_tryFrom_5 (by decide) (fun c_1 => ?_) (fun c_1 => ?_)
  ·
    have ic_1 : dlisted.toInt ≤ p0.toInt := by first | exact (g_le rfl rfl).mp c_1 | (have h := mt (g_lt rfl rfl).mpr c_1; omega)
    clear c_1
    refine lv_aload_n hx hb dX0_tryFrom_14 rfl (lv_at hl 0 rfl) ?_
    have hPc := hP.sub (ws' := [(dh, .inr (0, G0 da dlisted dshared dsailing dleastWorst)), ((da 0), .inl (E 0, 9, .inl df0)), ((da 1), .inl (E 0, 9, .inl df1)), ((da 2), .inl (E 0, 9, .inl df2)), ((da 3), .inl (E 0, 3, .inl df3))]) [0, 1, 2, 3, 4] rfl
    have hDc := hD.sub (ws' := [(dh, .inr (0, G0 da dlisted dshared dsailing dleastWorst)), ((da 0), .inl (E 0, 9, .inl df0)), ((da 1), .inl (E 0, 9, .inl df1)), ((da 2), .inl (E 0, 9, .inl df2)), ((da 3), .inl (E 0, 3, .inl df3))]) [0, 1, 2, 3, 4] (by decide) rfl
    refine aft_v (runMV (rest := []) (As := []) hx hb hml hown htb hK (g_X0_keepIfBetter l D E dh da dlisted dshared dsailing dleastWorst df0 df1 df2 df3 _ (by (try dsimp only); omega)) ok_X0_keepIfBetter k_909 k_911 ks_35 k_7 k_912 ⟨(Nat.le_of_ble_eq_true rfl), (Nat.le_of_ble_eq_true rfl)⟩ ⟨(Nat.le_of_ble_eq_true rfl), (Nat.le_of_ble_eq_true rfl)⟩ hl.1 (Nat.le_of_ble_eq_true rfl) rfl rfl dX0_tryFrom_15 hPc hDc rfl rfl 0 rfl) hP hD hS hA [0, 1, 2, 3, 4] [5] (wr := [((da 4), .inl (E 0, 3, .inl df4))]) rfl rfl (by decide) (by decide) (fun u_4 H locs hw_3 hP hD hS => ?_)
    clear hPc hDc
    obtain ⟨w_5, w_6⟩ := u_4
    try dsimp only at hw_3
    have hP : va_P D vwCl [((da 4), .inl (E 0, 3, .inl df4)), (dh, .inr (0, G0 da dlisted dshared dsailing w_6)), ((da 0), .inl (E 0, 9, .inl df0)), ((da 1), .inl (E 0, 9, .inl df1)), ((da 2), .inl (E 0, 9, .inl w_5)), ((da 3), .inl (E 0, 3, .inl df3))] H := hP
    have hD := toW hP hD rfl
    have hP9 := hP.sub (ws' := [(dh, .inr (0, G0 da dlisted dshared dsailing w_6)), ((da 0), .inl (E 0, 9, .inl df0)), ((da 1), .inl (E 0, 9, .inl df1)), ((da 2), .inl (E 0, 9, .inl w_5)), ((da 3), .inl (E 0, 3, .inl df3)), ((da 4), .inl (E 0, 3, .inl df4))]) [1, 2, 3, 4, 5, 0] rfl
    have hD9 := hD.sub (ws' := [(dh, .inr (0, G0 da dlisted dshared dsailing w_6)), ((da 0), .inl (E 0, 9, .inl df0)), ((da 1), .inl (E 0, 9, .inl df1)), ((da 2), .inl (E 0, 9, .inl w_5)), ((da 3), .inl (E 0, 3, .inl df3)), ((da 4), .inl (E 0, 3, .inl df4))]) [1, 2, 3, 4, 5, 0] (by decide) rfl
    exact W.vret hx hb hr (fun t ht hW => ⟨⟨(df1, w_5, df4, w_6), rfl, trivial, by rw [ht]; exact hP9, hD9⟩, hS.F ht⟩) hS.2.2 dX0_tryFrom_18
  ·
    have ic_1 : p0.toInt < dlisted.toInt := by first | exact (g_lt rfl rfl).mp c_1 | (have h := mt (g_le rfl rfl).mpr c_1; omega)
    clear c_1
    refine lv_iload_n hx hb dX0_tryFrom_8 rfl (lv_at hl 1 rfl) ?_
    refine lv_bipush (v := 9) hx hb dX0_tryFrom_9 (by decide) ?_
    refine lv_icmp_lt (tgt := 19) hx hb dX0_tryFrom_11 (by decide) (fun c_7 => ?_) (fun c_7 => absurd (by rw [g_lt rfl t_9]; omega) c_7)
    refine lv_iconst (v := 0) hx hb dX0_tryFrom_19 (by decide) ?_
    refine lv_istore_n (lv' := [(3, .int 0), (0, .ref dh), (1, .int p0), (2, .int p1)]) hx hb dX0_tryFrom_20 rfl hl (by decide) rfl (fun ls hl => ?_)
    have loop_8 : ∀ (N_10 : Nat) (L3_21 : Int32) (dleastWorst_21 : Int32) (df1_21 : Nat → Int32) (df2_21 : Nat → Int32) (df4_21 : Nat → Int32) (H : Heap) (locs : List Loc) (ls : Array Slot), 3 - L3_21.toInt < (N_10 : Int) → (0 ≤ L3_21.toInt ∧ L3_21.toInt ≤ 3) → va_P D vwCl [(dh, .inr (0, G0 da dlisted dshared dsailing dleastWorst_21)), ((da 0), .inl (E 0, 9, .inl df0)), ((da 1), .inl (E 0, 9, .inl df1_21)), ((da 2), .inl (E 0, 9, .inl df2_21)), ((da 3), .inl (E 0, 3, .inl df3)), ((da 4), .inl (E 0, 3, .inl df4_21))] H → va_D A [(dh, .inr (0, G0 da dlisted dshared dsailing dleastWorst_21)), ((da 0), .inl (E 0, 9, .inl df0)), ((da 1), .inl (E 0, 9, .inl df1_21)), ((da 2), .inl (E 0, 9, .inl df2_21)), ((da 3), .inl (E 0, 3, .inl df3)), ((da 4), .inl (E 0, 3, .inl df4_21))] → va_S A s.heap H locs → lv_has ls 4 [(3, .int L3_21), (0, .ref dh), (1, .int p0), (2, .int p1)] → W p l e (headSpec (wl yX0_tryFrom cX0_tryFrom 4 none) (RM 8 0 0)).room s m [Value.ref dh, .int p0, .int p1].toArray below meth c H locs 0 0 (MQ below (va_Qv (fun (u : (Nat → Int32) × (Nat → Int32) × (Nat → Int32) × (Int32)) => True) (mu_B D A (fun (u : (Nat → Int32) × (Nat → Int32) × (Nat → Int32) × (Int32)) => [(dh, .inr (0, G0 da dlisted dshared dsailing u.2.2.2)), ((da 0), .inl (E 0, 9, .inl df0)), ((da 1), .inl (E 0, 9, .inl u.1)), ((da 2), .inl (E 0, 9, .inl u.2.1)), ((da 3), .inl (E 0, 3, .inl df3)), ((da 4), .inl (E 0, 3, .inl u.2.2.1))])) A) [Value.ref dh, .int p0, .int p1].toArray s 0 0 A) (F0 m 21 ls []) := by
      intro N_10
      induction N_10 with
      | zero => intro L3_21 dleastWorst_21 df1_21 df2_21 df4_21 H locs ls hm v0_21 _ _ _ _; exfalso; omega
      | succ N_10 ih_9 =>
        intro L3_21 dleastWorst_21 df1_21 df2_21 df4_21 H locs ls hm v0_21 hP hD hS hl
        have lo_L3_21 := i_lo L3_21; have hi_L3_21 := i_hi L3_21
        have lo_dleastWorst_21 := i_lo dleastWorst_21; have hi_dleastWorst_21 := i_hi dleastWorst_21
        refine lv_iload_n hx hb dX0_tryFrom_21 rfl (lv_at hl 0 rfl) ?_
        refine lv_aload_n hx hb dX0_tryFrom_22 rfl (lv_at hl 1 rfl) ?_
        refine va_get (D := D) (ci := 0) (v := .int dsailing) (C := RX0) (T := TX0) (N := 9) hx hb htb iX0 hown hK.1 hP 0 rfl rfl 7 (by decide) (htb _ k_200) (fun _ h9 => h9) rfl dX0_tryFrom_23 ?_
        refine lv_icmp_ge (tgt := 89) hx hb dX0_tryFrom_26 (by decide) (fun c_11 => ?_) (fun c_11 => ?_)
        ·
          have ic_11 : dsailing.toInt ≤ L3_21.toInt := by first | exact (g_le rfl rfl).mp c_11 | (have h := mt (g_lt rfl rfl).mpr c_11; omega)
          clear c_11
          refine lv_iload_n hx hb dX0_tryFrom_89 rfl (lv_at hl 3 rfl) ?_
          refine lv_if_le (tgt := 110) hx hb dX0_tryFrom_90 (by decide) (fun c_12 => ?_) (fun c_12 => ?_)
          ·
            have ic_12 : p1.toInt ≤ 0 := by first | exact (g_le rfl t_0).mp c_12 | (have h := mt (g_lt t_0 rfl).mpr c_12; omega)
            clear c_12
            have hP9 := hP.sub (ws' := [(dh, .inr (0, G0 da dlisted dshared dsailing dleastWorst_21)), ((da 0), .inl (E 0, 9, .inl df0)), ((da 1), .inl (E 0, 9, .inl df1_21)), ((da 2), .inl (E 0, 9, .inl df2_21)), ((da 3), .inl (E 0, 3, .inl df3)), ((da 4), .inl (E 0, 3, .inl df4_21))]) [0, 1, 2, 3, 4, 5] rfl
            have hD9 := hD.sub (ws' := [(dh, .inr (0, G0 da dlisted dshared dsailing dleastWorst_21)), ((da 0), .inl (E 0, 9, .inl df0)), ((da 1), .inl (E 0, 9, .inl df1_21)), ((da 2), .inl (E 0, 9, .inl df2_21)), ((da 3), .inl (E 0, 3, .inl df3)), ((da 4), .inl (E 0, 3, .inl df4_21))]) [0, 1, 2, 3, 4, 5] (by decide) rfl
            exact W.vret hx hb hr (fun t ht hW => ⟨⟨(df1_21, df2_21, df4_21, dleastWorst_21), rfl, trivial, by rw [ht]; exact hP9, hD9⟩, hS.F ht⟩) hS.2.2 dX0_tryFrom_110
          ·
            have ic_12 : 0 < p1.toInt := by first | exact (g_lt t_0 rfl).mp c_12 | (have h := mt (g_le rfl t_0).mpr c_12; omega)
            clear c_12
            refine lv_aload_n hx hb dX0_tryFrom_93 rfl (lv_at hl 1 rfl) ?_
            refine va_get (D := D) (ci := 0) (v := .ref (da 1)) (C := RX0) (T := TX0) (N := 9) hx hb htb iX0 hown hK.1 hP 0 rfl rfl 1 (by decide) (htb _ k_191) (fun _ h9 => h9) rfl dX0_tryFrom_94 ?_
            refine lv_iload_n hx hb dX0_tryFrom_97 rfl (lv_at hl 2 rfl) ?_
            refine lv_iconst (v := (-1)) hx hb dX0_tryFrom_98 (by decide) ?_
            refine va_iast hx hb hK.1 hP hD hS 2 0 rfl rfl (g_in rfl (by omega) (by omega)) dX0_tryFrom_99 (fun H locs hP hD hS => ?_)
            have hP : va_P D vwCl [(dh, .inr (0, G0 da dlisted dshared dsailing dleastWorst_21)), ((da 0), .inl (E 0, 9, .inl df0)), ((da 1), .inl (E 0, 9, .inl (upd df1_21 (p0 : Int32).toNatClampNeg (-1)))), ((da 2), .inl (E 0, 9, .inl df2_21)), ((da 3), .inl (E 0, 3, .inl df3)), ((da 4), .inl (E 0, 3, .inl df4_21))] H := hP
            have hD := toW hP hD rfl
            refine lv_aload_n hx hb dX0_tryFrom_100 rfl (lv_at hl 1 rfl) ?_
            refine lv_iload_n hx hb dX0_tryFrom_101 rfl (lv_at hl 2 rfl) ?_
            refine lv_iconst (v := 1) hx hb dX0_tryFrom_102 (by decide) ?_
            refine lv_iadd hx hb dX0_tryFrom_103 ?_
            refine lv_topi (fun z_13 ez_13 => ?_)
            have jz_13 : z_13.toInt = p0.toInt + 1 := by rw [ez_13]; exact g_add rfl t_1 (by omega) (by omega)
            refine lv_iload_n hx hb dX0_tryFrom_104 rfl (lv_at hl 3 rfl) ?_
            refine lv_iconst (v := 1) hx hb dX0_tryFrom_105 (by decide) ?_
            refine lv_isub hx hb dX0_tryFrom_106 ?_
            refine lv_topi (fun z_14 ez_14 => ?_)
            have jz_14 : z_14.toInt = p1.toInt - 1 := by rw [ez_14]; exact g_sub rfl t_1 (by omega) (by omega)
            have hPc := hP.sub (ws' := [(dh, .inr (0, G0 da dlisted dshared dsailing dleastWorst_21)), ((da 0), .inl (E 0, 9, .inl df0)), ((da 1), .inl (E 0, 9, .inl (upd df1_21 (p0 : Int32).toNatClampNeg (-1)))), ((da 2), .inl (E 0, 9, .inl df2_21)), ((da 3), .inl (E 0, 3, .inl df3)), ((da 4), .inl (E 0, 3, .inl df4_21))]) [0, 1, 2, 3, 4, 5] rfl
            have hDc := hD.sub (ws' := [(dh, .inr (0, G0 da dlisted dshared dsailing dleastWorst_21)), ((da 0), .inl (E 0, 9, .inl df0)), ((da 1), .inl (E 0, 9, .inl (upd df1_21 (p0 : Int32).toNatClampNeg (-1)))), ((da 2), .inl (E 0, 9, .inl df2_21)), ((da 3), .inl (E 0, 3, .inl df3)), ((da 4), .inl (E 0, 3, .inl df4_21))]) [0, 1, 2, 3, 4, 5] (by decide) rfl
            refine aft_v (runMV (rest := []) (As := [.int z_13, .int z_14]) hx hb hml hown htb hK (g_X0_tryFrom_4 l D E dh da dlisted dshared dsailing dleastWorst_21 df0 (upd df1_21 (p0 : Int32).toNatClampNeg (-1)) df2_21 df3 df4_21 z_13 z_14 _ (by (try dsimp only); omega) (by (try dsimp only); omega)) ok_X0_tryFrom k_905 k_907 ks_34 k_7 k_908 ⟨(Nat.le_of_ble_eq_true rfl), (Nat.le_of_ble_eq_true rfl)⟩ ⟨(Nat.le_of_ble_eq_true rfl), (Nat.le_of_ble_eq_true rfl)⟩ hl.1 (Nat.le_of_ble_eq_true rfl) rfl rfl dX0_tryFrom_107 hPc hDc rfl rfl 0 rfl) hP hD hS hA [0, 1, 2, 3, 4, 5] [] (wr := ([] : va_W)) rfl rfl (by decide) (by decide) (fun u_17 H locs hw_16 hP hD hS => ?_)
            clear hPc hDc
            obtain ⟨w_18, w_19, w_20, w_21⟩ := u_17
            try dsimp only at hw_16
            have hP : va_P D vwCl [(dh, .inr (0, G0 da dlisted dshared dsailing w_21)), ((da 0), .inl (E 0, 9, .inl df0)), ((da 1), .inl (E 0, 9, .inl w_18)), ((da 2), .inl (E 0, 9, .inl w_19)), ((da 3), .inl (E 0, 3, .inl df3)), ((da 4), .inl (E 0, 3, .inl w_20))] H := hP
            have hD := toW hP hD rfl
            have hP9 := hP.sub (ws' := [(dh, .inr (0, G0 da dlisted dshared dsailing w_21)), ((da 0), .inl (E 0, 9, .inl df0)), ((da 1), .inl (E 0, 9, .inl w_18)), ((da 2), .inl (E 0, 9, .inl w_19)), ((da 3), .inl (E 0, 3, .inl df3)), ((da 4), .inl (E 0, 3, .inl w_20))]) [0, 1, 2, 3, 4, 5] rfl
            have hD9 := hD.sub (ws' := [(dh, .inr (0, G0 da dlisted dshared dsailing w_21)), ((da 0), .inl (E 0, 9, .inl df0)), ((da 1), .inl (E 0, 9, .inl w_18)), ((da 2), .inl (E 0, 9, .inl w_19)), ((da 3), .inl (E 0, 3, .inl df3)), ((da 4), .inl (E 0, 3, .inl w_20))]) [0, 1, 2, 3, 4, 5] (by decide) rfl
            exact W.vret hx hb hr (fun t ht hW => ⟨⟨(w_18, w_19, w_20, w_21), rfl, trivial, by rw [ht]; exact hP9, hD9⟩, hS.F ht⟩) hS.2.2 dX0_tryFrom_110
        ·
          have ic_11 : L3_21.toInt < dsailing.toInt := by first | exact (g_lt rfl rfl).mp c_11 | (have h := mt (g_le rfl rfl).mpr c_11; omega)
          clear c_11
          refine lv_iload_n hx hb dX0_tryFrom_29 rfl (lv_at hl 0 rfl) ?_
          refine lv_aload_n hx hb dX0_tryFrom_30 rfl (lv_at hl 1 rfl) ?_
          refine va_get (D := D) (ci := 0) (v := .ref (da 4)) (C := RX0) (T := TX0) (N := 9) hx hb htb iX0 hown hK.1 hP 0 rfl rfl 4 (by decide) (htb _ k_195) (fun _ h9 => h9) rfl dX0_tryFrom_31 ?_
          refine va_alen hx hb hK.1 hP 5 0 rfl rfl (v := 3) (show Int32.ofNat 3 = 3 by decide) dX0_tryFrom_34 ?_
          refine lv_icmp_ge (tgt := 89) hx hb dX0_tryFrom_35 (by decide) (fun c_22 => absurd c_22 (by rw [g_le t_3 rfl]; omega)) (fun c_22 => ?_)
          refine lv_aload_n hx hb dX0_tryFrom_38 rfl (lv_at hl 1 rfl) ?_
          refine va_get (D := D) (ci := 0) (v := .ref (da 4)) (C := RX0) (T := TX0) (N := 9) hx hb htb iX0 hown hK.1 hP 0 rfl rfl 4 (by decide) (htb _ k_195) (fun _ h9 => h9) rfl dX0_tryFrom_39 ?_
          refine lv_iload_n hx hb dX0_tryFrom_42 rfl (lv_at hl 0 rfl) ?_
          refine va_iald hx hb hK.1 hP 5 0 rfl rfl (g_in rfl (by omega) (by omega)) dX0_tryFrom_43 ?_
          refine lv_topi (fun z_23 ez_23 => ?_)
          have kz_23 := congrArg Int32.toInt ez_23
          refine lv_iconst (v := 3) hx hb dX0_tryFrom_44 (by decide) ?_
          refine lv_icmp_ge (tgt := 83) hx hb dX0_tryFrom_45 (by decide) (fun c_24 => ?_) (fun c_24 => ?_)
          ·
            have ic_24 : 3 ≤ z_23.toInt := by first | exact (g_le t_3 rfl).mp c_24 | (have h := mt (g_lt rfl t_3).mpr c_24; omega)
            clear c_24
            obtain ⟨z_25, ez_25⟩ : ∃ y : Int32, y = L3_21 + 1 := ⟨_, rfl⟩
            have jz_25 : z_25.toInt = L3_21.toInt + 1 := by rw [ez_25]; exact g_add rfl t_1 (by omega) (by omega)
            refine lv_iinc (v := z_25) (lv' := [(3, .int z_25), (0, .ref dh), (1, .int p0), (2, .int p1)]) hx hb dX0_tryFrom_83 hl (k := 0) rfl (by rw [ez_25]; rfl) (by decide) rfl (fun ls hl => ?_)
            refine lv_goto (tgt := 21) hx hb dX0_tryFrom_86 (by decide) ?_
            exact ih_9 z_25 dleastWorst_21 df1_21 df2_21 df4_21 _ _ _ (by (try dsimp only); omega) (by (try dsimp only); omega) hP hD hS (lv_sub hl [0, 1, 2, 3] rfl)
          ·
            have ic_24 : z_23.toInt < 3 := by first | exact (g_lt rfl t_3).mp c_24 | (have h := mt (g_le t_3 rfl).mpr c_24; omega)
            clear c_24
            refine lv_aload_n hx hb dX0_tryFrom_48 rfl (lv_at hl 1 rfl) ?_
            refine va_get (D := D) (ci := 0) (v := .ref (da 1)) (C := RX0) (T := TX0) (N := 9) hx hb htb iX0 hown hK.1 hP 0 rfl rfl 1 (by decide) (htb _ k_191) (fun _ h9 => h9) rfl dX0_tryFrom_49 ?_
            refine lv_iload_n hx hb dX0_tryFrom_52 rfl (lv_at hl 2 rfl) ?_
            refine lv_iload_n hx hb dX0_tryFrom_53 rfl (lv_at hl 0 rfl) ?_
            refine va_iast hx hb hK.1 hP hD hS 2 0 rfl rfl (g_in rfl (by omega) (by omega)) dX0_tryFrom_54 (fun H locs hP hD hS => ?_)
            have hP : va_P D vwCl [(dh, .inr (0, G0 da dlisted dshared dsailing dleastWorst_21)), ((da 0), .inl (E 0, 9, .inl df0)), ((da 1), .inl (E 0, 9, .inl (upd df1_21 (p0 : Int32).toNatClampNeg L3_21))), ((da 2), .inl (E 0, 9, .inl df2_21)), ((da 3), .inl (E 0, 3, .inl df3)), ((da 4), .inl (E 0, 3, .inl df4_21))] H := hP
            have hD := toW hP hD rfl
            refine lv_aload_n hx hb dX0_tryFrom_55 rfl (lv_at hl 1 rfl) ?_
            refine va_get (D := D) (ci := 0) (v := .ref (da 4)) (C := RX0) (T := TX0) (N := 9) hx hb htb iX0 hown hK.1 hP 0 rfl rfl 4 (by decide) (htb _ k_195) (fun _ h9 => h9) rfl dX0_tryFrom_56 ?_
            refine lv_iload_n hx hb dX0_tryFrom_59 rfl (lv_at hl 0 rfl) ?_
            refine lv_dup2_11 hx hb dX0_tryFrom_60 rfl rfl ?_
            refine va_iald hx hb hK.1 hP 5 0 rfl rfl (g_in rfl (by omega) (by omega)) dX0_tryFrom_61 ?_
            refine lv_topi (fun z_26 ez_26 => ?_)
            have kz_26 := congrArg Int32.toInt ez_26
            refine lv_iconst (v := 1) hx hb dX0_tryFrom_62 (by decide) ?_
            refine lv_iadd hx hb dX0_tryFrom_63 ?_
            refine lv_topi (fun z_27 ez_27 => ?_)
            refine va_iast hx hb hK.1 hP hD hS 5 0 rfl rfl (g_in rfl (by omega) (by omega)) dX0_tryFrom_64 (fun H locs hP hD hS => ?_)
            have hP : va_P D vwCl [(dh, .inr (0, G0 da dlisted dshared dsailing dleastWorst_21)), ((da 0), .inl (E 0, 9, .inl df0)), ((da 1), .inl (E 0, 9, .inl (upd df1_21 (p0 : Int32).toNatClampNeg L3_21))), ((da 2), .inl (E 0, 9, .inl df2_21)), ((da 3), .inl (E 0, 3, .inl df3)), ((da 4), .inl (E 0, 3, .inl (upd df4_21 (L3_21 : Int32).toNatClampNeg z_27)))] H := hP
            have hD := toW hP hD rfl
            refine lv_aload_n hx hb dX0_tryFrom_65 rfl (lv_at hl 1 rfl) ?_
            refine lv_iload_n hx hb dX0_tryFrom_66 rfl (lv_at hl 2 rfl) ?_
            refine lv_iconst (v := 1) hx hb dX0_tryFrom_67 (by decide) ?_
            refine lv_iadd hx hb dX0_tryFrom_68 ?_
            refine lv_topi (fun z_28 ez_28 => ?_)
            have jz_28 : z_28.toInt = p0.toInt + 1 := by rw [ez_28]; exact g_add rfl t_1 (by omega) (by omega)
            refine lv_iload_n hx hb dX0_tryFrom_69 rfl (lv_at hl 3 rfl) ?_
            have hPc := hP.sub (ws' := [(dh, .inr (0, G0 da dlisted dshared dsailing dleastWorst_21)), ((da 0), .inl (E 0, 9, .inl df0)), ((da 1), .inl (E 0, 9, .inl (upd df1_21 (p0 : Int32).toNatClampNeg L3_21))), ((da 2), .inl (E 0, 9, .inl df2_21)), ((da 3), .inl (E 0, 3, .inl df3)), ((da 4), .inl (E 0, 3, .inl (upd df4_21 (L3_21 : Int32).toNatClampNeg z_27)))]) [0, 1, 2, 3, 4, 5] rfl
            have hDc := hD.sub (ws' := [(dh, .inr (0, G0 da dlisted dshared dsailing dleastWorst_21)), ((da 0), .inl (E 0, 9, .inl df0)), ((da 1), .inl (E 0, 9, .inl (upd df1_21 (p0 : Int32).toNatClampNeg L3_21))), ((da 2), .inl (E 0, 9, .inl df2_21)), ((da 3), .inl (E 0, 3, .inl df3)), ((da 4), .inl (E 0, 3, .inl (upd df4_21 (L3_21 : Int32).toNatClampNeg z_27)))]) [0, 1, 2, 3, 4, 5] (by decide) rfl
            refine aft_v (runMV (rest := []) (As := [.int z_28, .int p1]) hx hb hml hown htb hK (g_X0_tryFrom_4 l D E dh da dlisted dshared dsailing dleastWorst_21 df0 (upd df1_21 (p0 : Int32).toNatClampNeg L3_21) df2_21 df3 (upd df4_21 (L3_21 : Int32).toNatClampNeg z_27) z_28 p1 _ (by (try dsimp only); omega) (by (try dsimp only); omega)) ok_X0_tryFrom k_905 k_907 ks_34 k_7 k_908 ⟨(Nat.le_of_ble_eq_true rfl), (Nat.le_of_ble_eq_true rfl)⟩ ⟨(Nat.le_of_ble_eq_true rfl), (Nat.le_of_ble_eq_true rfl)⟩ hl.1 (Nat.le_of_ble_eq_true rfl) rfl rfl dX0_tryFrom_70 hPc hDc rfl rfl 0 rfl) hP hD hS hA [0, 1, 2, 3, 4, 5] [] (wr := ([] : va_W)) rfl rfl (by decide) (by decide) (fun u_31 H locs hw_30 hP hD hS => ?_)
            clear hPc hDc
            obtain ⟨w_32, w_33, w_34, w_35⟩ := u_31
            try dsimp only at hw_30
            have hP : va_P D vwCl [(dh, .inr (0, G0 da dlisted dshared dsailing w_35)), ((da 0), .inl (E 0, 9, .inl df0)), ((da 1), .inl (E 0, 9, .inl w_32)), ((da 2), .inl (E 0, 9, .inl w_33)), ((da 3), .inl (E 0, 3, .inl df3)), ((da 4), .inl (E 0, 3, .inl w_34))] H := hP
            have hD := toW hP hD rfl
            refine lv_aload_n hx hb dX0_tryFrom_73 rfl (lv_at hl 1 rfl) ?_
            refine va_get (D := D) (ci := 0) (v := .ref (da 4)) (C := RX0) (T := TX0) (N := 9) hx hb htb iX0 hown hK.1 hP 0 rfl rfl 4 (by decide) (htb _ k_195) (fun _ h9 => h9) rfl dX0_tryFrom_74 ?_
            refine lv_iload_n hx hb dX0_tryFrom_77 rfl (lv_at hl 0 rfl) ?_
            refine lv_dup2_11 hx hb dX0_tryFrom_78 rfl rfl ?_
            refine va_iald hx hb hK.1 hP 5 0 rfl rfl (g_in rfl (by omega) (by omega)) dX0_tryFrom_79 ?_
            refine lv_topi (fun z_36 ez_36 => ?_)
            have kz_36 := congrArg Int32.toInt ez_36
            refine lv_iconst (v := 1) hx hb dX0_tryFrom_80 (by decide) ?_
            refine lv_isub hx hb dX0_tryFrom_81 ?_
            refine lv_topi (fun z_37 ez_37 => ?_)
            refine va_iast hx hb hK.1 hP hD hS 5 0 rfl rfl (g_in rfl (by omega) (by omega)) dX0_tryFrom_82 (fun H locs hP hD hS => ?_)
            have hP : va_P D vwCl [(dh, .inr (0, G0 da dlisted dshared dsailing w_35)), ((da 0), .inl (E 0, 9, .inl df0)), ((da 1), .inl (E 0, 9, .inl w_32)), ((da 2), .inl (E 0, 9, .inl w_33)), ((da 3), .inl (E 0, 3, .inl df3)), ((da 4), .inl (E 0, 3, .inl (upd w_34 (L3_21 : Int32).toNatClampNeg z_37)))] H := hP
            have hD := toW hP hD rfl
            obtain ⟨z_38, ez_38⟩ : ∃ y : Int32, y = L3_21 + 1 := ⟨_, rfl⟩
            have jz_38 : z_38.toInt = L3_21.toInt + 1 := by rw [ez_38]; exact g_add rfl t_1 (by omega) (by omega)
            refine lv_iinc (v := z_38) (lv' := [(3, .int z_38), (0, .ref dh), (1, .int p0), (2, .int p1)]) hx hb dX0_tryFrom_83 hl (k := 0) rfl (by rw [ez_38]; rfl) (by decide) rfl (fun ls hl => ?_)
            refine lv_goto (tgt := 21) hx hb dX0_tryFrom_86 (by decide) ?_
            exact ih_9 z_38 w_35 w_32 w_33 (upd w_34 (L3_21 : Int32).toNatClampNeg z_37) _ _ _ (by (try dsimp only); omega) (by (try dsimp only); omega) hP hD hS (lv_sub hl [0, 1, 2, 3] rfl)
    exact loop_8 4 0 dleastWorst df1 df2 df4 _ _ _ (by have h0 := t_0; (try dsimp only); omega) (by have h0 := t_0; (try dsimp only); omega) hP hD hS (lv_sub hl [0, 1, 2, 3] rfl)
set_option maxHeartbeats 4000000 in
set_option maxRecDepth 100000 in
theorem g_X0_tryFrom_6 (l : Launch) (D : va_G) (E : Nat → Nat) (dh : Nat) (da : Nat → Nat) (dlisted : Int32) (dshared : Int32) (dsailing : Int32) (dleastWorst : Int32) (df0 : Nat → Int32) (df1 : Nat → Int32) (df2 : Nat → Int32) (df3 : Nat → Int32) (df4 : Nat → Int32) (p0 : Int32) (p1 : Int32) (sz : Nat) (hi_d : (0 ≤ dlisted.toInt ∧ dlisted.toInt ≤ 9) ∧ (0 ≤ dshared.toInt ∧ dshared.toInt ≤ 9) ∧ (0 ≤ dsailing.toInt ∧ dsailing.toInt ≤ 3)) (g0 : 3 ≤ p0.toInt ∧ p0.toInt ≤ 9) : Met l yX0_tryFrom (wl yX0_tryFrom cX0_tryFrom 4 none) (RM 9 0 0) (mu_P D E [.ref dh, .int p0, .int p1] [(dh, .inr (0, G0 da dlisted dshared dsailing dleastWorst)), ((da 0), .inl (E 0, 9, .inl df0)), ((da 1), .inl (E 0, 9, .inl df1)), ((da 2), .inl (E 0, 9, .inl df2)), ((da 3), .inl (E 0, 3, .inl df3)), ((da 4), .inl (E 0, 3, .inl df4))] sz) (va_Qv (fun (u : (Nat → Int32) × (Nat → Int32) × (Nat → Int32) × (Int32)) => True) (mu_B D (va_A [(dh, .inr (0, G0 da dlisted dshared dsailing dleastWorst)), ((da 0), .inl (E 0, 9, .inl df0)), ((da 1), .inl (E 0, 9, .inl df1)), ((da 2), .inl (E 0, 9, .inl df2)), ((da 3), .inl (E 0, 3, .inl df3)), ((da 4), .inl (E 0, 3, .inl df4))] sz) (fun (u : (Nat → Int32) × (Nat → Int32) × (Nat → Int32) × (Int32)) => [(dh, .inr (0, G0 da dlisted dshared dsailing u.2.2.2)), ((da 0), .inl (E 0, 9, .inl df0)), ((da 1), .inl (E 0, 9, .inl u.1)), ((da 2), .inl (E 0, 9, .inl u.2.1)), ((da 3), .inl (E 0, 3, .inl df3)), ((da 4), .inl (E 0, 3, .inl u.2.2.1))])) (va_A [(dh, .inr (0, G0 da dlisted dshared dsailing dleastWorst)), ((da 0), .inl (E 0, 9, .inl df0)), ((da 1), .inl (E 0, 9, .inl df1)), ((da 2), .inl (E 0, 9, .inl df2)), ((da 3), .inl (E 0, 3, .inl df3)), ((da 4), .inl (E 0, 3, .inl df4))] sz)) 0 0 (va_A [(dh, .inr (0, G0 da dlisted dshared dsailing dleastWorst)), ((da 0), .inl (E 0, 9, .inl df0)), ((da 1), .inl (E 0, 9, .inl df1)), ((da 2), .inl (E 0, 9, .inl df2)), ((da 3), .inl (E 0, 3, .inl df3)), ((da 4), .inl (E 0, 3, .inl df4))] sz) := by
  refine Met.ofW (cc := cX0_tryFrom) (maxL := 4) (ret := none) (by decide) rfl ?_
  intro p e s m args below meth c s₁ B hml hv
  obtain ⟨rfl, hsz, hP, hK, hD0⟩ := hv
  have hx := B.exec; have hb := B.bytes; have hr := B.returns
  have hts := atoms_spec (ws := wl yX0_tryFrom cX0_tryFrom 4 none) B.pre
  have htb : ∀ w ∈ tb, w.before _ s = true := fun w h => hts w (List.mem_cons_of_mem _ h)
  have hown : s.vm.findClass RX0 = some m.cls := findClass_of_methodNamed B.named
  have hlocks := B.notSynchronized
  subst hsz
  have hD := hD0.self (sz := s.heap.size)
  generalize hAe : va_A [(dh, .inr (0, G0 da dlisted dshared dsailing dleastWorst)), ((da 0), .inl (E 0, 9, .inl df0)), ((da 1), .inl (E 0, 9, .inl df1)), ((da 2), .inl (E 0, 9, .inl df2)), ((da 3), .inl (E 0, 3, .inl df3)), ((da 4), .inl (E 0, 3, .inl df4))] s.heap.size = A at hD ⊢
  have hA : ∀ q : Nat, s.heap.size ≤ q → A q := fun q h => by rw [← hAe]; exact Or.inr h
  have hS : va_S A s.heap s.heap [] := va_S.rf
  have hP : va_P D vwCl [(dh, .inr (0, G0 da dlisted dshared dsailing dleastWorst)), ((da 0), .inl (E 0, 9, .inl df0)), ((da 1), .inl (E 0, 9, .inl df1)), ((da 2), .inl (E 0, 9, .inl df2)), ((da 3), .inl (E 0, 3, .inl df3)), ((da 4), .inl (E 0, 3, .inl df4))] s.heap := hP
  have hl := lv_entry ([.ref dh, .int p0, .int p1]) (n := 4) (Nat.le_of_ble_eq_true rfl)
  rw [lg_entry_eq]
  generalize (lg_sl ([.ref dh, .int p0, .int p1]) ++ List.replicate (4 - (lg_sl ([.ref dh, .int p0, .int p1])).length) Slot.unset).toArray = ls at hl ⊢
  have hl : lv_has ls 4 [(0, .ref dh), (1, .int p0), (2, .int p1)] := hl
  have lo_p0 := i_lo p0; have hi_p0 := i_hi p0
  have lo_p1 := i_lo p1; have hi_p1 := i_hi p1
  refine lv_iload_n hx hb dX0_tryFrom_0 rfl (lv_at hl 1 rfl) ?_
  refine lv_aload_n hx hb dX0_tryFrom_1 rfl (lv_at hl 0 rfl) ?_
  refine va_get (D := D) (ci := 0) (v := .int dlisted) (C := RX0) (T := TX0) (N := 9) hx hb htb iX0 hown hK.1 hP 0 rfl rfl 5 (by decide) (htb _ k_196) (fun _ h9 => h9) rfl dX0_tryFrom_2 ?_
  refine lv_icmp_ge (tgt := 14) hx hb dX0_tryFrom_5 (by decide) (fun c_1 => ?_) (fun c_1 => ?_)
  ·
    have ic_1 : dlisted.toInt ≤ p0.toInt := by first | exact (g_le rfl rfl).mp c_1 | (have h := mt (g_lt rfl rfl).mpr c_1; omega)
    clear c_1
    refine lv_aload_n hx hb dX0_tryFrom_14 rfl (lv_at hl 0 rfl) ?_
    have hPc := hP.sub (ws' := [(dh, .inr (0, G0 da dlisted dshared dsailing dleastWorst)), ((da 0), .inl (E 0, 9, .inl df0)), ((da 1), .inl (E 0, 9, .inl df1)), ((da 2), .inl (E 0, 9, .inl df2)), ((da 3), .inl (E 0, 3, .inl df3))]) [0, 1, 2, 3, 4] rfl
    have hDc := hD.sub (ws' := [(dh, .inr (0, G0 da dlisted dshared dsailing dleastWorst)), ((da 0), .inl (E 0, 9, .inl df0)), ((da 1), .inl (E 0, 9, .inl df1)), ((da 2), .inl (E 0, 9, .inl df2)), ((da 3), .inl (E 0, 3, .inl df3))]) [0, 1, 2, 3, 4] (by decide) rfl
    refine aft_v (runMV (rest := []) (As := []) hx hb hml hown htb hK (g_X0_keepIfBetter l D E dh da dlisted dshared dsailing dleastWorst df0 df1 df2 df3 _ (by (try dsimp only); omega)) ok_X0_keepIfBetter k_909 k_911 ks_35 k_7 k_912 ⟨(Nat.le_of_ble_eq_true rfl), (Nat.le_of_ble_eq_true rfl)⟩ ⟨(Nat.le_of_ble_eq_true rfl), (Nat.le_of_ble_eq_true rfl)⟩ hl.1 (Nat.le_of_ble_eq_true rfl) rfl rfl dX0_tryFrom_15 hPc hDc rfl rfl 0 rfl) hP hD hS hA [0, 1, 2, 3, 4] [5] (wr := [((da 4), .inl (E 0, 3, .inl df4))]) rfl rfl (by decide) (by decide) (fun u_4 H locs hw_3 hP hD hS => ?_)
    clear hPc hDc
    obtain ⟨w_5, w_6⟩ := u_4
    try dsimp only at hw_3
    have hP : va_P D vwCl [((da 4), .inl (E 0, 3, .inl df4)), (dh, .inr (0, G0 da dlisted dshared dsailing w_6)), ((da 0), .inl (E 0, 9, .inl df0)), ((da 1), .inl (E 0, 9, .inl df1)), ((da 2), .inl (E 0, 9, .inl w_5)), ((da 3), .inl (E 0, 3, .inl df3))] H := hP
    have hD := toW hP hD rfl
    have hP9 := hP.sub (ws' := [(dh, .inr (0, G0 da dlisted dshared dsailing w_6)), ((da 0), .inl (E 0, 9, .inl df0)), ((da 1), .inl (E 0, 9, .inl df1)), ((da 2), .inl (E 0, 9, .inl w_5)), ((da 3), .inl (E 0, 3, .inl df3)), ((da 4), .inl (E 0, 3, .inl df4))]) [1, 2, 3, 4, 5, 0] rfl
    have hD9 := hD.sub (ws' := [(dh, .inr (0, G0 da dlisted dshared dsailing w_6)), ((da 0), .inl (E 0, 9, .inl df0)), ((da 1), .inl (E 0, 9, .inl df1)), ((da 2), .inl (E 0, 9, .inl w_5)), ((da 3), .inl (E 0, 3, .inl df3)), ((da 4), .inl (E 0, 3, .inl df4))]) [1, 2, 3, 4, 5, 0] (by decide) rfl
    exact W.vret hx hb hr (fun t ht hW => ⟨⟨(df1, w_5, df4, w_6), rfl, trivial, by rw [ht]; exact hP9, hD9⟩, hS.F ht⟩) hS.2.2 dX0_tryFrom_18
  ·
    have ic_1 : p0.toInt < dlisted.toInt := by first | exact (g_lt rfl rfl).mp c_1 | (have h := mt (g_le rfl rfl).mpr c_1; omega)
    clear c_1
    refine lv_iload_n hx hb dX0_tryFrom_8 rfl (lv_at hl 1 rfl) ?_
    refine lv_bipush (v := 9) hx hb dX0_tryFrom_9 (by decide) ?_
    refine lv_icmp_lt (tgt := 19) hx hb dX0_tryFrom_11 (by decide) (fun c_7 => ?_) (fun c_7 => absurd (by rw [g_lt rfl t_9]; omega) c_7)
    refine lv_iconst (v := 0) hx hb dX0_tryFrom_19 (by decide) ?_
    refine lv_istore_n (lv' := [(3, .int 0), (0, .ref dh), (1, .int p0), (2, .int p1)]) hx hb dX0_tryFrom_20 rfl hl (by decide) rfl (fun ls hl => ?_)
    have loop_8 : ∀ (N_10 : Nat) (L3_21 : Int32) (dleastWorst_21 : Int32) (df1_21 : Nat → Int32) (df2_21 : Nat → Int32) (df4_21 : Nat → Int32) (H : Heap) (locs : List Loc) (ls : Array Slot), 3 - L3_21.toInt < (N_10 : Int) → (0 ≤ L3_21.toInt ∧ L3_21.toInt ≤ 3) → va_P D vwCl [(dh, .inr (0, G0 da dlisted dshared dsailing dleastWorst_21)), ((da 0), .inl (E 0, 9, .inl df0)), ((da 1), .inl (E 0, 9, .inl df1_21)), ((da 2), .inl (E 0, 9, .inl df2_21)), ((da 3), .inl (E 0, 3, .inl df3)), ((da 4), .inl (E 0, 3, .inl df4_21))] H → va_D A [(dh, .inr (0, G0 da dlisted dshared dsailing dleastWorst_21)), ((da 0), .inl (E 0, 9, .inl df0)), ((da 1), .inl (E 0, 9, .inl df1_21)), ((da 2), .inl (E 0, 9, .inl df2_21)), ((da 3), .inl (E 0, 3, .inl df3)), ((da 4), .inl (E 0, 3, .inl df4_21))] → va_S A s.heap H locs → lv_has ls 4 [(3, .int L3_21), (0, .ref dh), (1, .int p0), (2, .int p1)] → W p l e (headSpec (wl yX0_tryFrom cX0_tryFrom 4 none) (RM 9 0 0)).room s m [Value.ref dh, .int p0, .int p1].toArray below meth c H locs 0 0 (MQ below (va_Qv (fun (u : (Nat → Int32) × (Nat → Int32) × (Nat → Int32) × (Int32)) => True) (mu_B D A (fun (u : (Nat → Int32) × (Nat → Int32) × (Nat → Int32) × (Int32)) => [(dh, .inr (0, G0 da dlisted dshared dsailing u.2.2.2)), ((da 0), .inl (E 0, 9, .inl df0)), ((da 1), .inl (E 0, 9, .inl u.1)), ((da 2), .inl (E 0, 9, .inl u.2.1)), ((da 3), .inl (E 0, 3, .inl df3)), ((da 4), .inl (E 0, 3, .inl u.2.2.1))])) A) [Value.ref dh, .int p0, .int p1].toArray s 0 0 A) (F0 m 21 ls []) := by
      intro N_10
      induction N_10 with
      | zero => intro L3_21 dleastWorst_21 df1_21 df2_21 df4_21 H locs ls hm v0_21 _ _ _ _; exfalso; omega
      | succ N_10 ih_9 =>
        intro L3_21 dleastWorst_21 df1_21 df2_21 df4_21 H locs ls hm v0_21 hP hD hS hl
        have lo_L3_21 := i_lo L3_21; have hi_L3_21 := i_hi L3_21
        have lo_dleastWorst_21 := i_lo dleastWorst_21; have hi_dleastWorst_21 := i_hi dleastWorst_21
        refine lv_iload_n hx hb dX0_tryFrom_21 rfl (lv_at hl 0 rfl) ?_
        refine lv_aload_n hx hb dX0_tryFrom_22 rfl (lv_at hl 1 rfl) ?_
        refine va_get (D := D) (ci := 0) (v := .int dsailing) (C := RX0) (T := TX0) (N := 9) hx hb htb iX0 hown hK.1 hP 0 rfl rfl 7 (by decide) (htb _ k_200) (fun _ h9 => h9) rfl dX0_tryFrom_23 ?_
        refine lv_icmp_ge (tgt := 89) hx hb dX0_tryFrom_26 (by decide) (fun c_11 => ?_) (fun c_11 => ?_)
        ·
          have ic_11 : dsailing.toInt ≤ L3_21.toInt := by first | exact (g_le rfl rfl).mp c_11 | (have h := mt (g_lt rfl rfl).mpr c_11; omega)
          clear c_11
          refine lv_iload_n hx hb dX0_tryFrom_89 rfl (lv_at hl 3 rfl) ?_
          refine lv_if_le (tgt := 110) hx hb dX0_tryFrom_90 (by decide) (fun c_12 => ?_) (fun c_12 => ?_)
          ·
            have ic_12 : p1.toInt ≤ 0 := by first | exact (g_le rfl t_0).mp c_12 | (have h := mt (g_lt t_0 rfl).mpr c_12; omega)
            clear c_12
            have hP9 := hP.sub (ws' := [(dh, .inr (0, G0 da dlisted dshared dsailing dleastWorst_21)), ((da 0), .inl (E 0, 9, .inl df0)), ((da 1), .inl (E 0, 9, .inl df1_21)), ((da 2), .inl (E 0, 9, .inl df2_21)), ((da 3), .inl (E 0, 3, .inl df3)), ((da 4), .inl (E 0, 3, .inl df4_21))]) [0, 1, 2, 3, 4, 5] rfl
            have hD9 := hD.sub (ws' := [(dh, .inr (0, G0 da dlisted dshared dsailing dleastWorst_21)), ((da 0), .inl (E 0, 9, .inl df0)), ((da 1), .inl (E 0, 9, .inl df1_21)), ((da 2), .inl (E 0, 9, .inl df2_21)), ((da 3), .inl (E 0, 3, .inl df3)), ((da 4), .inl (E 0, 3, .inl df4_21))]) [0, 1, 2, 3, 4, 5] (by decide) rfl
            exact W.vret hx hb hr (fun t ht hW => ⟨⟨(df1_21, df2_21, df4_21, dleastWorst_21), rfl, trivial, by rw [ht]; exact hP9, hD9⟩, hS.F ht⟩) hS.2.2 dX0_tryFrom_110
          ·
            have ic_12 : 0 < p1.toInt := by first | exact (g_lt t_0 rfl).mp c_12 | (have h := mt (g_le rfl t_0).mpr c_12; omega)
            clear c_12
            refine lv_aload_n hx hb dX0_tryFrom_93 rfl (lv_at hl 1 rfl) ?_
            refine va_get (D := D) (ci := 0) (v := .ref (da 1)) (C := RX0) (T := TX0) (N := 9) hx hb htb iX0 hown hK.1 hP 0 rfl rfl 1 (by decide) (htb _ k_191) (fun _ h9 => h9) rfl dX0_tryFrom_94 ?_
            refine lv_iload_n hx hb dX0_tryFrom_97 rfl (lv_at hl 2 rfl) ?_
            refine lv_iconst (v := (-1)) hx hb dX0_tryFrom_98 (by decide) ?_
            refine va_iast hx hb hK.1 hP hD hS 2 0 rfl rfl (g_in rfl (by omega) (by omega)) dX0_tryFrom_99 (fun H locs hP hD hS => ?_)
            have hP : va_P D vwCl [(dh, .inr (0, G0 da dlisted dshared dsailing dleastWorst_21)), ((da 0), .inl (E 0, 9, .inl df0)), ((da 1), .inl (E 0, 9, .inl (upd df1_21 (p0 : Int32).toNatClampNeg (-1)))), ((da 2), .inl (E 0, 9, .inl df2_21)), ((da 3), .inl (E 0, 3, .inl df3)), ((da 4), .inl (E 0, 3, .inl df4_21))] H := hP
            have hD := toW hP hD rfl
            refine lv_aload_n hx hb dX0_tryFrom_100 rfl (lv_at hl 1 rfl) ?_
            refine lv_iload_n hx hb dX0_tryFrom_101 rfl (lv_at hl 2 rfl) ?_
            refine lv_iconst (v := 1) hx hb dX0_tryFrom_102 (by decide) ?_
            refine lv_iadd hx hb dX0_tryFrom_103 ?_
            refine lv_topi (fun z_13 ez_13 => ?_)
            have jz_13 : z_13.toInt = p0.toInt + 1 := by rw [ez_13]; exact g_add rfl t_1 (by omega) (by omega)
            refine lv_iload_n hx hb dX0_tryFrom_104 rfl (lv_at hl 3 rfl) ?_
            refine lv_iconst (v := 1) hx hb dX0_tryFrom_105 (by decide) ?_
            refine lv_isub hx hb dX0_tryFrom_106 ?_
            refine lv_topi (fun z_14 ez_14 => ?_)
            have jz_14 : z_14.toInt = p1.toInt - 1 := by rw [ez_14]; exact g_sub rfl t_1 (by omega) (by omega)
            have hPc := hP.sub (ws' := [(dh, .inr (0, G0 da dlisted dshared dsailing dleastWorst_21)), ((da 0), .inl (E 0, 9, .inl df0)), ((da 1), .inl (E 0, 9, .inl (upd df1_21 (p0 : Int32).toNatClampNeg (-1)))), ((da 2), .inl (E 0, 9, .inl df2_21)), ((da 3), .inl (E 0, 3, .inl df3)), ((da 4), .inl (E 0, 3, .inl df4_21))]) [0, 1, 2, 3, 4, 5] rfl
            have hDc := hD.sub (ws' := [(dh, .inr (0, G0 da dlisted dshared dsailing dleastWorst_21)), ((da 0), .inl (E 0, 9, .inl df0)), ((da 1), .inl (E 0, 9, .inl (upd df1_21 (p0 : Int32).toNatClampNeg (-1)))), ((da 2), .inl (E 0, 9, .inl df2_21)), ((da 3), .inl (E 0, 3, .inl df3)), ((da 4), .inl (E 0, 3, .inl df4_21))]) [0, 1, 2, 3, 4, 5] (by decide) rfl
            refine aft_v (runMV (rest := []) (As := [.int z_13, .int z_14]) hx hb hml hown htb hK (g_X0_tryFrom_5 l D E dh da dlisted dshared dsailing dleastWorst_21 df0 (upd df1_21 (p0 : Int32).toNatClampNeg (-1)) df2_21 df3 df4_21 z_13 z_14 _ (by (try dsimp only); omega) (by (try dsimp only); omega)) ok_X0_tryFrom k_905 k_907 ks_34 k_7 k_908 ⟨(Nat.le_of_ble_eq_true rfl), (Nat.le_of_ble_eq_true rfl)⟩ ⟨(Nat.le_of_ble_eq_true rfl), (Nat.le_of_ble_eq_true rfl)⟩ hl.1 (Nat.le_of_ble_eq_true rfl) rfl rfl dX0_tryFrom_107 hPc hDc rfl rfl 0 rfl) hP hD hS hA [0, 1, 2, 3, 4, 5] [] (wr := ([] : va_W)) rfl rfl (by decide) (by decide) (fun u_17 H locs hw_16 hP hD hS => ?_)
            clear hPc hDc
            obtain ⟨w_18, w_19, w_20, w_21⟩ := u_17
            try dsimp only at hw_16
            have hP : va_P D vwCl [(dh, .inr (0, G0 da dlisted dshared dsailing w_21)), ((da 0), .inl (E 0, 9, .inl df0)), ((da 1), .inl (E 0, 9, .inl w_18)), ((da 2), .inl (E 0, 9, .inl w_19)), ((da 3), .inl (E 0, 3, .inl df3)), ((da 4), .inl (E 0, 3, .inl w_20))] H := hP
            have hD := toW hP hD rfl
            have hP9 := hP.sub (ws' := [(dh, .inr (0, G0 da dlisted dshared dsailing w_21)), ((da 0), .inl (E 0, 9, .inl df0)), ((da 1), .inl (E 0, 9, .inl w_18)), ((da 2), .inl (E 0, 9, .inl w_19)), ((da 3), .inl (E 0, 3, .inl df3)), ((da 4), .inl (E 0, 3, .inl w_20))]) [0, 1, 2, 3, 4, 5] rfl
            have hD9 := hD.sub (ws' := [(dh, .inr (0, G0 da dlisted dshared dsailing w_21)), ((da 0), .inl (E 0, 9, .inl df0)), ((da 1), .inl (E 0, 9, .inl w_18)), ((da 2), .inl (E 0, 9, .inl w_19)), ((da 3), .inl (E 0, 3, .inl df3)), ((da 4), .inl (E 0, 3, .inl w_20))]) [0, 1, 2, 3, 4, 5] (by decide) rfl
            exact W.vret hx hb hr (fun t ht hW => ⟨⟨(w_18, w_19, w_20, w_21), rfl, trivial, by rw [ht]; exact hP9, hD9⟩, hS.F ht⟩) hS.2.2 dX0_tryFrom_110
        ·
          have ic_11 : L3_21.toInt < dsailing.toInt := by first | exact (g_lt rfl rfl).mp c_11 | (have h := mt (g_le rfl rfl).mpr c_11; omega)
          clear c_11
          refine lv_iload_n hx hb dX0_tryFrom_29 rfl (lv_at hl 0 rfl) ?_
          refine lv_aload_n hx hb dX0_tryFrom_30 rfl (lv_at hl 1 rfl) ?_
          refine va_get (D := D) (ci := 0) (v := .ref (da 4)) (C := RX0) (T := TX0) (N := 9) hx hb htb iX0 hown hK.1 hP 0 rfl rfl 4 (by decide) (htb _ k_195) (fun _ h9 => h9) rfl dX0_tryFrom_31 ?_
          refine va_alen hx hb hK.1 hP 5 0 rfl rfl (v := 3) (show Int32.ofNat 3 = 3 by decide) dX0_tryFrom_34 ?_
          refine lv_icmp_ge (tgt := 89) hx hb dX0_tryFrom_35 (by decide) (fun c_22 => absurd c_22 (by rw [g_le t_3 rfl]; omega)) (fun c_22 => ?_)
          refine lv_aload_n hx hb dX0_tryFrom_38 rfl (lv_at hl 1 rfl) ?_
          refine va_get (D := D) (ci := 0) (v := .ref (da 4)) (C := RX0) (T := TX0) (N := 9) hx hb htb iX0 hown hK.1 hP 0 rfl rfl 4 (by decide) (htb _ k_195) (fun _ h9 => h9) rfl dX0_tryFrom_39 ?_
          refine lv_iload_n hx hb dX0_tryFrom_42 rfl (lv_at hl 0 rfl) ?_
          refine va_iald hx hb hK.1 hP 5 0 rfl rfl (g_in rfl (by omega) (by omega)) dX0_tryFrom_43 ?_
          refine lv_topi (fun z_23 ez_23 => ?_)
          have kz_23 := congrArg Int32.toInt ez_23
          refine lv_iconst (v := 3) hx hb dX0_tryFrom_44 (by decide) ?_
          refine lv_icmp_ge (tgt := 83) hx hb dX0_tryFrom_45 (by decide) (fun c_24 => ?_) (fun c_24 => ?_)
          ·
            have ic_24 : 3 ≤ z_23.toInt := by first | exact (g_le t_3 rfl).mp c_24 | (have h := mt (g_lt rfl t_3).mpr c_24; omega)
            clear c_24
            obtain ⟨z_25, ez_25⟩ : ∃ y : Int32, y = L3_21 + 1 := ⟨_, rfl⟩
            have jz_25 : z_25.toInt = L3_21.toInt + 1 := by rw [ez_25]; exact g_add rfl t_1 (by omega) (by omega)
            refine lv_iinc (v := z_25) (lv' := [(3, .int z_25), (0, .ref dh), (1, .int p0), (2, .int p1)]) hx hb dX0_tryFrom_83 hl (k := 0) rfl (by rw [ez_25]; rfl) (by decide) rfl (fun ls hl => ?_)
            refine lv_goto (tgt := 21) hx hb dX0_tryFrom_86 (by decide) ?_
            exact ih_9 z_25 dleastWorst_21 df1_21 df2_21 df4_21 _ _ _ (by (try dsimp only); omega) (by (try dsimp only); omega) hP hD hS (lv_sub hl [0, 1, 2, 3] rfl)
          ·
            have ic_24 : z_23.toInt < 3 := by first | exact (g_lt rfl t_3).mp c_24 | (have h := mt (g_le t_3 rfl).mpr c_24; omega)
            clear c_24
            refine lv_aload_n hx hb dX0_tryFrom_48 rfl (lv_at hl 1 rfl) ?_
            refine va_get (D := D) (ci := 0) (v := .ref (da 1)) (C := RX0) (T := TX0) (N := 9) hx hb htb iX0 hown hK.1 hP 0 rfl rfl 1 (by decide) (htb _ k_191) (fun _ h9 => h9) rfl dX0_tryFrom_49 ?_
            refine lv_iload_n hx hb dX0_tryFrom_52 rfl (lv_at hl 2 rfl) ?_
            refine lv_iload_n hx hb dX0_tryFrom_53 rfl (lv_at hl 0 rfl) ?_
            refine va_iast hx hb hK.1 hP hD hS 2 0 rfl rfl (g_in rfl (by omega) (by omega)) dX0_tryFrom_54 (fun H locs hP hD hS => ?_)
            have hP : va_P D vwCl [(dh, .inr (0, G0 da dlisted dshared dsailing dleastWorst_21)), ((da 0), .inl (E 0, 9, .inl df0)), ((da 1), .inl (E 0, 9, .inl (upd df1_21 (p0 : Int32).toNatClampNeg L3_21))), ((da 2), .inl (E 0, 9, .inl df2_21)), ((da 3), .inl (E 0, 3, .inl df3)), ((da 4), .inl (E 0, 3, .inl df4_21))] H := hP
            have hD := toW hP hD rfl
            refine lv_aload_n hx hb dX0_tryFrom_55 rfl (lv_at hl 1 rfl) ?_
            refine va_get (D := D) (ci := 0) (v := .ref (da 4)) (C := RX0) (T := TX0) (N := 9) hx hb htb iX0 hown hK.1 hP 0 rfl rfl 4 (by decide) (htb _ k_195) (fun _ h9 => h9) rfl dX0_tryFrom_56 ?_
            refine lv_iload_n hx hb dX0_tryFrom_59 rfl (lv_at hl 0 rfl) ?_
            refine lv_dup2_11 hx hb dX0_tryFrom_60 rfl rfl ?_
            refine va_iald hx hb hK.1 hP 5 0 rfl rfl (g_in rfl (by omega) (by omega)) dX0_tryFrom_61 ?_
            refine lv_topi (fun z_26 ez_26 => ?_)
            have kz_26 := congrArg Int32.toInt ez_26
            refine lv_iconst (v := 1) hx hb dX0_tryFrom_62 (by decide) ?_
            refine lv_iadd hx hb dX0_tryFrom_63 ?_
            refine lv_topi (fun z_27 ez_27 => ?_)
            refine va_iast hx hb hK.1 hP hD hS 5 0 rfl rfl (g_in rfl (by omega) (by omega)) dX0_tryFrom_64 (fun H locs hP hD hS => ?_)
            have hP : va_P D vwCl [(dh, .inr (0, G0 da dlisted dshared dsailing dleastWorst_21)), ((da 0), .inl (E 0, 9, .inl df0)), ((da 1), .inl (E 0, 9, .inl (upd df1_21 (p0 : Int32).toNatClampNeg L3_21))), ((da 2), .inl (E 0, 9, .inl df2_21)), ((da 3), .inl (E 0, 3, .inl df3)), ((da 4), .inl (E 0, 3, .inl (upd df4_21 (L3_21 : Int32).toNatClampNeg z_27)))] H := hP
            have hD := toW hP hD rfl
            refine lv_aload_n hx hb dX0_tryFrom_65 rfl (lv_at hl 1 rfl) ?_
            refine lv_iload_n hx hb dX0_tryFrom_66 rfl (lv_at hl 2 rfl) ?_
            refine lv_iconst (v := 1) hx hb dX0_tryFrom_67 (by decide) ?_
            refine lv_iadd hx hb dX0_tryFrom_68 ?_
            refine lv_topi (fun z_28 ez_28 => ?_)
            have jz_28 : z_28.toInt = p0.toInt + 1 := by rw [ez_28]; exact g_add rfl t_1 (by omega) (by omega)
            refine lv_iload_n hx hb dX0_tryFrom_69 rfl (lv_at hl 3 rfl) ?_
            have hPc := hP.sub (ws' := [(dh, .inr (0, G0 da dlisted dshared dsailing dleastWorst_21)), ((da 0), .inl (E 0, 9, .inl df0)), ((da 1), .inl (E 0, 9, .inl (upd df1_21 (p0 : Int32).toNatClampNeg L3_21))), ((da 2), .inl (E 0, 9, .inl df2_21)), ((da 3), .inl (E 0, 3, .inl df3)), ((da 4), .inl (E 0, 3, .inl (upd df4_21 (L3_21 : Int32).toNatClampNeg z_27)))]) [0, 1, 2, 3, 4, 5] rfl
            have hDc := hD.sub (ws' := [(dh, .inr (0, G0 da dlisted dshared dsailing dleastWorst_21)), ((da 0), .inl (E 0, 9, .inl df0)), ((da 1), .inl (E 0, 9, .inl (upd df1_21 (p0 : Int32).toNatClampNeg L3_21))), ((da 2), .inl (E 0, 9, .inl df2_21)), ((da 3), .inl (E 0, 3, .inl df3)), ((da 4), .inl (E 0, 3, .inl (upd df4_21 (L3_21 : Int32).toNatClampNeg z_27)))]) [0, 1, 2, 3, 4, 5] (by decide) rfl
            refine aft_v (runMV (rest := []) (As := [.int z_28, .int p1]) hx hb hml hown htb hK (g_X0_tryFrom_5 l D E dh da dlisted dshared dsailing dleastWorst_21 df0 (upd df1_21 (p0 : Int32).toNatClampNeg L3_21) df2_21 df3 (upd df4_21 (L3_21 : Int32).toNatClampNeg z_27) z_28 p1 _ (by (try dsimp only); omega) (by (try dsimp only); omega)) ok_X0_tryFrom k_905 k_907 ks_34 k_7 k_908 ⟨(Nat.le_of_ble_eq_true rfl), (Nat.le_of_ble_eq_true rfl)⟩ ⟨(Nat.le_of_ble_eq_true rfl), (Nat.le_of_ble_eq_true rfl)⟩ hl.1 (Nat.le_of_ble_eq_true rfl) rfl rfl dX0_tryFrom_70 hPc hDc rfl rfl 0 rfl) hP hD hS hA [0, 1, 2, 3, 4, 5] [] (wr := ([] : va_W)) rfl rfl (by decide) (by decide) (fun u_31 H locs hw_30 hP hD hS => ?_)
            clear hPc hDc
            obtain ⟨w_32, w_33, w_34, w_35⟩ := u_31
            try dsimp only at hw_30
            have hP : va_P D vwCl [(dh, .inr (0, G0 da dlisted dshared dsailing w_35)), ((da 0), .inl (E 0, 9, .inl df0)), ((da 1), .inl (E 0, 9, .inl w_32)), ((da 2), .inl (E 0, 9, .inl w_33)), ((da 3), .inl (E 0, 3, .inl df3)), ((da 4), .inl (E 0, 3, .inl w_34))] H := hP
            have hD := toW hP hD rfl
            refine lv_aload_n hx hb dX0_tryFrom_73 rfl (lv_at hl 1 rfl) ?_
            refine va_get (D := D) (ci := 0) (v := .ref (da 4)) (C := RX0) (T := TX0) (N := 9) hx hb htb iX0 hown hK.1 hP 0 rfl rfl 4 (by decide) (htb _ k_195) (fun _ h9 => h9) rfl dX0_tryFrom_74 ?_
            refine lv_iload_n hx hb dX0_tryFrom_77 rfl (lv_at hl 0 rfl) ?_
            refine lv_dup2_11 hx hb dX0_tryFrom_78 rfl rfl ?_
            refine va_iald hx hb hK.1 hP 5 0 rfl rfl (g_in rfl (by omega) (by omega)) dX0_tryFrom_79 ?_
            refine lv_topi (fun z_36 ez_36 => ?_)
            have kz_36 := congrArg Int32.toInt ez_36
            refine lv_iconst (v := 1) hx hb dX0_tryFrom_80 (by decide) ?_
            refine lv_isub hx hb dX0_tryFrom_81 ?_
            refine lv_topi (fun z_37 ez_37 => ?_)
            refine va_iast hx hb hK.1 hP hD hS 5 0 rfl rfl (g_in rfl (by omega) (by omega)) dX0_tryFrom_82 (fun H locs hP hD hS => ?_)
            have hP : va_P D vwCl [(dh, .inr (0, G0 da dlisted dshared dsailing w_35)), ((da 0), .inl (E 0, 9, .inl df0)), ((da 1), .inl (E 0, 9, .inl w_32)), ((da 2), .inl (E 0, 9, .inl w_33)), ((da 3), .inl (E 0, 3, .inl df3)), ((da 4), .inl (E 0, 3, .inl (upd w_34 (L3_21 : Int32).toNatClampNeg z_37)))] H := hP
            have hD := toW hP hD rfl
            obtain ⟨z_38, ez_38⟩ : ∃ y : Int32, y = L3_21 + 1 := ⟨_, rfl⟩
            have jz_38 : z_38.toInt = L3_21.toInt + 1 := by rw [ez_38]; exact g_add rfl t_1 (by omega) (by omega)
            refine lv_iinc (v := z_38) (lv' := [(3, .int z_38), (0, .ref dh), (1, .int p0), (2, .int p1)]) hx hb dX0_tryFrom_83 hl (k := 0) rfl (by rw [ez_38]; rfl) (by decide) rfl (fun ls hl => ?_)
            refine lv_goto (tgt := 21) hx hb dX0_tryFrom_86 (by decide) ?_
            exact ih_9 z_38 w_35 w_32 w_33 (upd w_34 (L3_21 : Int32).toNatClampNeg z_37) _ _ _ (by (try dsimp only); omega) (by (try dsimp only); omega) hP hD hS (lv_sub hl [0, 1, 2, 3] rfl)
    exact loop_8 4 0 dleastWorst df1 df2 df4 _ _ _ (by have h0 := t_0; (try dsimp only); omega) (by have h0 := t_0; (try dsimp only); omega) hP hD hS (lv_sub hl [0, 1, 2, 3] rfl)
set_option maxHeartbeats 4000000 in
set_option maxRecDepth 100000 in
theorem g_X0_tryFrom_7 (l : Launch) (D : va_G) (E : Nat → Nat) (dh : Nat) (da : Nat → Nat) (dlisted : Int32) (dshared : Int32) (dsailing : Int32) (dleastWorst : Int32) (df0 : Nat → Int32) (df1 : Nat → Int32) (df2 : Nat → Int32) (df3 : Nat → Int32) (df4 : Nat → Int32) (p0 : Int32) (p1 : Int32) (sz : Nat) (hi_d : (0 ≤ dlisted.toInt ∧ dlisted.toInt ≤ 9) ∧ (0 ≤ dshared.toInt ∧ dshared.toInt ≤ 9) ∧ (0 ≤ dsailing.toInt ∧ dsailing.toInt ≤ 3)) (g0 : 2 ≤ p0.toInt ∧ p0.toInt ≤ 9) : Met l yX0_tryFrom (wl yX0_tryFrom cX0_tryFrom 4 none) (RM 10 0 0) (mu_P D E [.ref dh, .int p0, .int p1] [(dh, .inr (0, G0 da dlisted dshared dsailing dleastWorst)), ((da 0), .inl (E 0, 9, .inl df0)), ((da 1), .inl (E 0, 9, .inl df1)), ((da 2), .inl (E 0, 9, .inl df2)), ((da 3), .inl (E 0, 3, .inl df3)), ((da 4), .inl (E 0, 3, .inl df4))] sz) (va_Qv (fun (u : (Nat → Int32) × (Nat → Int32) × (Nat → Int32) × (Int32)) => True) (mu_B D (va_A [(dh, .inr (0, G0 da dlisted dshared dsailing dleastWorst)), ((da 0), .inl (E 0, 9, .inl df0)), ((da 1), .inl (E 0, 9, .inl df1)), ((da 2), .inl (E 0, 9, .inl df2)), ((da 3), .inl (E 0, 3, .inl df3)), ((da 4), .inl (E 0, 3, .inl df4))] sz) (fun (u : (Nat → Int32) × (Nat → Int32) × (Nat → Int32) × (Int32)) => [(dh, .inr (0, G0 da dlisted dshared dsailing u.2.2.2)), ((da 0), .inl (E 0, 9, .inl df0)), ((da 1), .inl (E 0, 9, .inl u.1)), ((da 2), .inl (E 0, 9, .inl u.2.1)), ((da 3), .inl (E 0, 3, .inl df3)), ((da 4), .inl (E 0, 3, .inl u.2.2.1))])) (va_A [(dh, .inr (0, G0 da dlisted dshared dsailing dleastWorst)), ((da 0), .inl (E 0, 9, .inl df0)), ((da 1), .inl (E 0, 9, .inl df1)), ((da 2), .inl (E 0, 9, .inl df2)), ((da 3), .inl (E 0, 3, .inl df3)), ((da 4), .inl (E 0, 3, .inl df4))] sz)) 0 0 (va_A [(dh, .inr (0, G0 da dlisted dshared dsailing dleastWorst)), ((da 0), .inl (E 0, 9, .inl df0)), ((da 1), .inl (E 0, 9, .inl df1)), ((da 2), .inl (E 0, 9, .inl df2)), ((da 3), .inl (E 0, 3, .inl df3)), ((da 4), .inl (E 0, 3, .inl df4))] sz) := by
  refine Met.ofW (cc := cX0_tryFrom) (maxL := 4) (ret := none) (by decide) rfl ?_
  intro p e s m args below meth c s₁ B hml hv
  obtain ⟨rfl, hsz, hP, hK, hD0⟩ := hv
  have hx := B.exec; have hb := B.bytes; have hr := B.returns
  have hts := atoms_spec (ws := wl yX0_tryFrom cX0_tryFrom 4 none) B.pre
  have htb : ∀ w ∈ tb, w.before _ s = true := fun w h => hts w (List.mem_cons_of_mem _ h)
  have hown : s.vm.findClass RX0 = some m.cls := findClass_of_methodNamed B.named
  have hlocks := B.notSynchronized
  subst hsz
  have hD := hD0.self (sz := s.heap.size)
  generalize hAe : va_A [(dh, .inr (0, G0 da dlisted dshared dsailing dleastWorst)), ((da 0), .inl (E 0, 9, .inl df0)), ((da 1), .inl (E 0, 9, .inl df1)), ((da 2), .inl (E 0, 9, .inl df2)), ((da 3), .inl (E 0, 3, .inl df3)), ((da 4), .inl (E 0, 3, .inl df4))] s.heap.size = A at hD ⊢
  have hA : ∀ q : Nat, s.heap.size ≤ q → A q := fun q h => by rw [← hAe]; exact Or.inr h
  have hS : va_S A s.heap s.heap [] := va_S.rf
  have hP : va_P D vwCl [(dh, .inr (0, G0 da dlisted dshared dsailing dleastWorst)), ((da 0), .inl (E 0, 9, .inl df0)), ((da 1), .inl (E 0, 9, .inl df1)), ((da 2), .inl (E 0, 9, .inl df2)), ((da 3), .inl (E 0, 3, .inl df3)), ((da 4), .inl (E 0, 3, .inl df4))] s.heap := hP
  have hl := lv_entry ([.ref dh, .int p0, .int p1]) (n := 4) (Nat.le_of_ble_eq_true rfl)
  rw [lg_entry_eq]
  generalize (lg_sl ([.ref dh, .int p0, .int p1]) ++ List.replicate (4 - (lg_sl ([.ref dh, .int p0, .int p1])).length) Slot.unset).toArray = ls at hl ⊢
  have hl : lv_has ls 4 [(0, .ref dh), (1, .int p0), (2, .int p1)] := hl
  have lo_p0 := i_lo p0; have hi_p0 := i_hi p0
  have lo_p1 := i_lo p1; have hi_p1 := i_hi p1
  refine lv_iload_n hx hb dX0_tryFrom_0 rfl (lv_at hl 1 rfl) ?_
  refine lv_aload_n hx hb dX0_tryFrom_1 rfl (lv_at hl 0 rfl) ?_
  refine va_get (D := D) (ci := 0) (v := .int dlisted) (C := RX0) (T := TX0) (N := 9) hx hb htb iX0 hown hK.1 hP 0 rfl rfl 5 (by decide) (htb _ k_196) (fun _ h9 => h9) rfl dX0_tryFrom_2 ?_
  refine lv_icmp_ge (tgt := 14) hx hb dX0_tryFrom_5 (by decide) (fun c_1 => ?_) (fun c_1 => ?_)
  ·
    have ic_1 : dlisted.toInt ≤ p0.toInt := by first | exact (g_le rfl rfl).mp c_1 | (have h := mt (g_lt rfl rfl).mpr c_1; omega)
    clear c_1
    refine lv_aload_n hx hb dX0_tryFrom_14 rfl (lv_at hl 0 rfl) ?_
    have hPc := hP.sub (ws' := [(dh, .inr (0, G0 da dlisted dshared dsailing dleastWorst)), ((da 0), .inl (E 0, 9, .inl df0)), ((da 1), .inl (E 0, 9, .inl df1)), ((da 2), .inl (E 0, 9, .inl df2)), ((da 3), .inl (E 0, 3, .inl df3))]) [0, 1, 2, 3, 4] rfl
    have hDc := hD.sub (ws' := [(dh, .inr (0, G0 da dlisted dshared dsailing dleastWorst)), ((da 0), .inl (E 0, 9, .inl df0)), ((da 1), .inl (E 0, 9, .inl df1)), ((da 2), .inl (E 0, 9, .inl df2)), ((da 3), .inl (E 0, 3, .inl df3))]) [0, 1, 2, 3, 4] (by decide) rfl
    refine aft_v (runMV (rest := []) (As := []) hx hb hml hown htb hK (g_X0_keepIfBetter l D E dh da dlisted dshared dsailing dleastWorst df0 df1 df2 df3 _ (by (try dsimp only); omega)) ok_X0_keepIfBetter k_909 k_911 ks_35 k_7 k_912 ⟨(Nat.le_of_ble_eq_true rfl), (Nat.le_of_ble_eq_true rfl)⟩ ⟨(Nat.le_of_ble_eq_true rfl), (Nat.le_of_ble_eq_true rfl)⟩ hl.1 (Nat.le_of_ble_eq_true rfl) rfl rfl dX0_tryFrom_15 hPc hDc rfl rfl 0 rfl) hP hD hS hA [0, 1, 2, 3, 4] [5] (wr := [((da 4), .inl (E 0, 3, .inl df4))]) rfl rfl (by decide) (by decide) (fun u_4 H locs hw_3 hP hD hS => ?_)
    clear hPc hDc
    obtain ⟨w_5, w_6⟩ := u_4
    try dsimp only at hw_3
    have hP : va_P D vwCl [((da 4), .inl (E 0, 3, .inl df4)), (dh, .inr (0, G0 da dlisted dshared dsailing w_6)), ((da 0), .inl (E 0, 9, .inl df0)), ((da 1), .inl (E 0, 9, .inl df1)), ((da 2), .inl (E 0, 9, .inl w_5)), ((da 3), .inl (E 0, 3, .inl df3))] H := hP
    have hD := toW hP hD rfl
    have hP9 := hP.sub (ws' := [(dh, .inr (0, G0 da dlisted dshared dsailing w_6)), ((da 0), .inl (E 0, 9, .inl df0)), ((da 1), .inl (E 0, 9, .inl df1)), ((da 2), .inl (E 0, 9, .inl w_5)), ((da 3), .inl (E 0, 3, .inl df3)), ((da 4), .inl (E 0, 3, .inl df4))]) [1, 2, 3, 4, 5, 0] rfl
    have hD9 := hD.sub (ws' := [(dh, .inr (0, G0 da dlisted dshared dsailing w_6)), ((da 0), .inl (E 0, 9, .inl df0)), ((da 1), .inl (E 0, 9, .inl df1)), ((da 2), .inl (E 0, 9, .inl w_5)), ((da 3), .inl (E 0, 3, .inl df3)), ((da 4), .inl (E 0, 3, .inl df4))]) [1, 2, 3, 4, 5, 0] (by decide) rfl
    exact W.vret hx hb hr (fun t ht hW => ⟨⟨(df1, w_5, df4, w_6), rfl, trivial, by rw [ht]; exact hP9, hD9⟩, hS.F ht⟩) hS.2.2 dX0_tryFrom_18
  ·
    have ic_1 : p0.toInt < dlisted.toInt := by first | exact (g_lt rfl rfl).mp c_1 | (have h := mt (g_le rfl rfl).mpr c_1; omega)
    clear c_1
    refine lv_iload_n hx hb dX0_tryFrom_8 rfl (lv_at hl 1 rfl) ?_
    refine lv_bipush (v := 9) hx hb dX0_tryFrom_9 (by decide) ?_
    refine lv_icmp_lt (tgt := 19) hx hb dX0_tryFrom_11 (by decide) (fun c_7 => ?_) (fun c_7 => absurd (by rw [g_lt rfl t_9]; omega) c_7)
    refine lv_iconst (v := 0) hx hb dX0_tryFrom_19 (by decide) ?_
    refine lv_istore_n (lv' := [(3, .int 0), (0, .ref dh), (1, .int p0), (2, .int p1)]) hx hb dX0_tryFrom_20 rfl hl (by decide) rfl (fun ls hl => ?_)
    have loop_8 : ∀ (N_10 : Nat) (L3_21 : Int32) (dleastWorst_21 : Int32) (df1_21 : Nat → Int32) (df2_21 : Nat → Int32) (df4_21 : Nat → Int32) (H : Heap) (locs : List Loc) (ls : Array Slot), 3 - L3_21.toInt < (N_10 : Int) → (0 ≤ L3_21.toInt ∧ L3_21.toInt ≤ 3) → va_P D vwCl [(dh, .inr (0, G0 da dlisted dshared dsailing dleastWorst_21)), ((da 0), .inl (E 0, 9, .inl df0)), ((da 1), .inl (E 0, 9, .inl df1_21)), ((da 2), .inl (E 0, 9, .inl df2_21)), ((da 3), .inl (E 0, 3, .inl df3)), ((da 4), .inl (E 0, 3, .inl df4_21))] H → va_D A [(dh, .inr (0, G0 da dlisted dshared dsailing dleastWorst_21)), ((da 0), .inl (E 0, 9, .inl df0)), ((da 1), .inl (E 0, 9, .inl df1_21)), ((da 2), .inl (E 0, 9, .inl df2_21)), ((da 3), .inl (E 0, 3, .inl df3)), ((da 4), .inl (E 0, 3, .inl df4_21))] → va_S A s.heap H locs → lv_has ls 4 [(3, .int L3_21), (0, .ref dh), (1, .int p0), (2, .int p1)] → W p l e (headSpec (wl yX0_tryFrom cX0_tryFrom 4 none) (RM 10 0 0)).room s m [Value.ref dh, .int p0, .int p1].toArray below meth c H locs 0 0 (MQ below (va_Qv (fun (u : (Nat → Int32) × (Nat → Int32) × (Nat → Int32) × (Int32)) => True) (mu_B D A (fun (u : (Nat → Int32) × (Nat → Int32) × (Nat → Int32) × (Int32)) => [(dh, .inr (0, G0 da dlisted dshared dsailing u.2.2.2)), ((da 0), .inl (E 0, 9, .inl df0)), ((da 1), .inl (E 0, 9, .inl u.1)), ((da 2), .inl (E 0, 9, .inl u.2.1)), ((da 3), .inl (E 0, 3, .inl df3)), ((da 4), .inl (E 0, 3, .inl u.2.2.1))])) A) [Value.ref dh, .int p0, .int p1].toArray s 0 0 A) (F0 m 21 ls []) := by
      intro N_10
      induction N_10 with
      | zero => intro L3_21 dleastWorst_21 df1_21 df2_21 df4_21 H locs ls hm v0_21 _ _ _ _; exfalso; omega
      | succ N_10 ih_9 =>
        intro L3_21 dleastWorst_21 df1_21 df2_21 df4_21 H locs ls hm v0_21 hP hD hS hl
        have lo_L3_21 := i_lo L3_21; have hi_L3_21 := i_hi L3_21
        have lo_dleastWorst_21 := i_lo dleastWorst_21; have hi_dleastWorst_21 := i_hi dleastWorst_21
        refine lv_iload_n hx hb dX0_tryFrom_21 rfl (lv_at hl 0 rfl) ?_
        refine lv_aload_n hx hb dX0_tryFrom_22 rfl (lv_at hl 1 rfl) ?_
        refine va_get (D := D) (ci := 0) (v := .int dsailing) (C := RX0) (T := TX0) (N := 9) hx hb htb iX0 hown hK.1 hP 0 rfl rfl 7 (by decide) (htb _ k_200) (fun _ h9 => h9) rfl dX0_tryFrom_23 ?_
        refine lv_icmp_ge (tgt := 89) hx hb dX0_tryFrom_26 (by decide) (fun c_11 => ?_) (fun c_11 => ?_)
        ·
          have ic_11 : dsailing.toInt ≤ L3_21.toInt := by first | exact (g_le rfl rfl).mp c_11 | (have h := mt (g_lt rfl rfl).mpr c_11; omega)
          clear c_11
          refine lv_iload_n hx hb dX0_tryFrom_89 rfl (lv_at hl 3 rfl) ?_
          refine lv_if_le (tgt := 110) hx hb dX0_tryFrom_90 (by decide) (fun c_12 => ?_) (fun c_12 => ?_)
          ·
            have ic_12 : p1.toInt ≤ 0 := by first | exact (g_le rfl t_0).mp c_12 | (have h := mt (g_lt t_0 rfl).mpr c_12; omega)
            clear c_12
            have hP9 := hP.sub (ws' := [(dh, .inr (0, G0 da dlisted dshared dsailing dleastWorst_21)), ((da 0), .inl (E 0, 9, .inl df0)), ((da 1), .inl (E 0, 9, .inl df1_21)), ((da 2), .inl (E 0, 9, .inl df2_21)), ((da 3), .inl (E 0, 3, .inl df3)), ((da 4), .inl (E 0, 3, .inl df4_21))]) [0, 1, 2, 3, 4, 5] rfl
            have hD9 := hD.sub (ws' := [(dh, .inr (0, G0 da dlisted dshared dsailing dleastWorst_21)), ((da 0), .inl (E 0, 9, .inl df0)), ((da 1), .inl (E 0, 9, .inl df1_21)), ((da 2), .inl (E 0, 9, .inl df2_21)), ((da 3), .inl (E 0, 3, .inl df3)), ((da 4), .inl (E 0, 3, .inl df4_21))]) [0, 1, 2, 3, 4, 5] (by decide) rfl
            exact W.vret hx hb hr (fun t ht hW => ⟨⟨(df1_21, df2_21, df4_21, dleastWorst_21), rfl, trivial, by rw [ht]; exact hP9, hD9⟩, hS.F ht⟩) hS.2.2 dX0_tryFrom_110
          ·
            have ic_12 : 0 < p1.toInt := by first | exact (g_lt t_0 rfl).mp c_12 | (have h := mt (g_le rfl t_0).mpr c_12; omega)
            clear c_12
            refine lv_aload_n hx hb dX0_tryFrom_93 rfl (lv_at hl 1 rfl) ?_
            refine va_get (D := D) (ci := 0) (v := .ref (da 1)) (C := RX0) (T := TX0) (N := 9) hx hb htb iX0 hown hK.1 hP 0 rfl rfl 1 (by decide) (htb _ k_191) (fun _ h9 => h9) rfl dX0_tryFrom_94 ?_
            refine lv_iload_n hx hb dX0_tryFrom_97 rfl (lv_at hl 2 rfl) ?_
            refine lv_iconst (v := (-1)) hx hb dX0_tryFrom_98 (by decide) ?_
            refine va_iast hx hb hK.1 hP hD hS 2 0 rfl rfl (g_in rfl (by omega) (by omega)) dX0_tryFrom_99 (fun H locs hP hD hS => ?_)
            have hP : va_P D vwCl [(dh, .inr (0, G0 da dlisted dshared dsailing dleastWorst_21)), ((da 0), .inl (E 0, 9, .inl df0)), ((da 1), .inl (E 0, 9, .inl (upd df1_21 (p0 : Int32).toNatClampNeg (-1)))), ((da 2), .inl (E 0, 9, .inl df2_21)), ((da 3), .inl (E 0, 3, .inl df3)), ((da 4), .inl (E 0, 3, .inl df4_21))] H := hP
            have hD := toW hP hD rfl
            refine lv_aload_n hx hb dX0_tryFrom_100 rfl (lv_at hl 1 rfl) ?_
            refine lv_iload_n hx hb dX0_tryFrom_101 rfl (lv_at hl 2 rfl) ?_
            refine lv_iconst (v := 1) hx hb dX0_tryFrom_102 (by decide) ?_
            refine lv_iadd hx hb dX0_tryFrom_103 ?_
            refine lv_topi (fun z_13 ez_13 => ?_)
            have jz_13 : z_13.toInt = p0.toInt + 1 := by rw [ez_13]; exact g_add rfl t_1 (by omega) (by omega)
            refine lv_iload_n hx hb dX0_tryFrom_104 rfl (lv_at hl 3 rfl) ?_
            refine lv_iconst (v := 1) hx hb dX0_tryFrom_105 (by decide) ?_
            refine lv_isub hx hb dX0_tryFrom_106 ?_
            refine lv_topi (fun z_14 ez_14 => ?_)
            have jz_14 : z_14.toInt = p1.toInt - 1 := by rw [ez_14]; exact g_sub rfl t_1 (by omega) (by omega)
            have hPc := hP.sub (ws' := [(dh, .inr (0, G0 da dlisted dshared dsailing dleastWorst_21)), ((da 0), .inl (E 0, 9, .inl df0)), ((da 1), .inl (E 0, 9, .inl (upd df1_21 (p0 : Int32).toNatClampNeg (-1)))), ((da 2), .inl (E 0, 9, .inl df2_21)), ((da 3), .inl (E 0, 3, .inl df3)), ((da 4), .inl (E 0, 3, .inl df4_21))]) [0, 1, 2, 3, 4, 5] rfl
            have hDc := hD.sub (ws' := [(dh, .inr (0, G0 da dlisted dshared dsailing dleastWorst_21)), ((da 0), .inl (E 0, 9, .inl df0)), ((da 1), .inl (E 0, 9, .inl (upd df1_21 (p0 : Int32).toNatClampNeg (-1)))), ((da 2), .inl (E 0, 9, .inl df2_21)), ((da 3), .inl (E 0, 3, .inl df3)), ((da 4), .inl (E 0, 3, .inl df4_21))]) [0, 1, 2, 3, 4, 5] (by decide) rfl
            refine aft_v (runMV (rest := []) (As := [.int z_13, .int z_14]) hx hb hml hown htb hK (g_X0_tryFrom_6 l D E dh da dlisted dshared dsailing dleastWorst_21 df0 (upd df1_21 (p0 : Int32).toNatClampNeg (-1)) df2_21 df3 df4_21 z_13 z_14 _ (by (try dsimp only); omega) (by (try dsimp only); omega)) ok_X0_tryFrom k_905 k_907 ks_34 k_7 k_908 ⟨(Nat.le_of_ble_eq_true rfl), (Nat.le_of_ble_eq_true rfl)⟩ ⟨(Nat.le_of_ble_eq_true rfl), (Nat.le_of_ble_eq_true rfl)⟩ hl.1 (Nat.le_of_ble_eq_true rfl) rfl rfl dX0_tryFrom_107 hPc hDc rfl rfl 0 rfl) hP hD hS hA [0, 1, 2, 3, 4, 5] [] (wr := ([] : va_W)) rfl rfl (by decide) (by decide) (fun u_17 H locs hw_16 hP hD hS => ?_)
            clear hPc hDc
            obtain ⟨w_18, w_19, w_20, w_21⟩ := u_17
            try dsimp only at hw_16
            have hP : va_P D vwCl [(dh, .inr (0, G0 da dlisted dshared dsailing w_21)), ((da 0), .inl (E 0, 9, .inl df0)), ((da 1), .inl (E 0, 9, .inl w_18)), ((da 2), .inl (E 0, 9, .inl w_19)), ((da 3), .inl (E 0, 3, .inl df3)), ((da 4), .inl (E 0, 3, .inl w_20))] H := hP
            have hD := toW hP hD rfl
            have hP9 := hP.sub (ws' := [(dh, .inr (0, G0 da dlisted dshared dsailing w_21)), ((da 0), .inl (E 0, 9, .inl df0)), ((da 1), .inl (E 0, 9, .inl w_18)), ((da 2), .inl (E 0, 9, .inl w_19)), ((da 3), .inl (E 0, 3, .inl df3)), ((da 4), .inl (E 0, 3, .inl w_20))]) [0, 1, 2, 3, 4, 5] rfl
            have hD9 := hD.sub (ws' := [(dh, .inr (0, G0 da dlisted dshared dsailing w_21)), ((da 0), .inl (E 0, 9, .inl df0)), ((da 1), .inl (E 0, 9, .inl w_18)), ((da 2), .inl (E 0, 9, .inl w_19)), ((da 3), .inl (E 0, 3, .inl df3)), ((da 4), .inl (E 0, 3, .inl w_20))]) [0, 1, 2, 3, 4, 5] (by decide) rfl
            exact W.vret hx hb hr (fun t ht hW => ⟨⟨(w_18, w_19, w_20, w_21), rfl, trivial, by rw [ht]; exact hP9, hD9⟩, hS.F ht⟩) hS.2.2 dX0_tryFrom_110
        ·
          have ic_11 : L3_21.toInt < dsailing.toInt := by first | exact (g_lt rfl rfl).mp c_11 | (have h := mt (g_le rfl rfl).mpr c_11; omega)
          clear c_11
          refine lv_iload_n hx hb dX0_tryFrom_29 rfl (lv_at hl 0 rfl) ?_
          refine lv_aload_n hx hb dX0_tryFrom_30 rfl (lv_at hl 1 rfl) ?_
          refine va_get (D := D) (ci := 0) (v := .ref (da 4)) (C := RX0) (T := TX0) (N := 9) hx hb htb iX0 hown hK.1 hP 0 rfl rfl 4 (by decide) (htb _ k_195) (fun _ h9 => h9) rfl dX0_tryFrom_31 ?_
          refine va_alen hx hb hK.1 hP 5 0 rfl rfl (v := 3) (show Int32.ofNat 3 = 3 by decide) dX0_tryFrom_34 ?_
          refine lv_icmp_ge (tgt := 89) hx hb dX0_tryFrom_35 (by decide) (fun c_22 => absurd c_22 (by rw [g_le t_3 rfl]; omega)) (fun c_22 => ?_)
          refine lv_aload_n hx hb dX0_tryFrom_38 rfl (lv_at hl 1 rfl) ?_
          refine va_get (D := D) (ci := 0) (v := .ref (da 4)) (C := RX0) (T := TX0) (N := 9) hx hb htb iX0 hown hK.1 hP 0 rfl rfl 4 (by decide) (htb _ k_195) (fun _ h9 => h9) rfl dX0_tryFrom_39 ?_
          refine lv_iload_n hx hb dX0_tryFrom_42 rfl (lv_at hl 0 rfl) ?_
          refine va_iald hx hb hK.1 hP 5 0 rfl rfl (g_in rfl (by omega) (by omega)) dX0_tryFrom_43 ?_
          refine lv_topi (fun z_23 ez_23 => ?_)
          have kz_23 := congrArg Int32.toInt ez_23
          refine lv_iconst (v := 3) hx hb dX0_tryFrom_44 (by decide) ?_
          refine lv_icmp_ge (tgt := 83) hx hb dX0_tryFrom_45 (by decide) (fun c_24 => ?_) (fun c_24 => ?_)
          ·
            have ic_24 : 3 ≤ z_23.toInt := by first | exact (g_le t_3 rfl).mp c_24 | (have h := mt (g_lt rfl t_3).mpr c_24; omega)
            clear c_24
            obtain ⟨z_25, ez_25⟩ : ∃ y : Int32, y = L3_21 + 1 := ⟨_, rfl⟩
            have jz_25 : z_25.toInt = L3_21.toInt + 1 := by rw [ez_25]; exact g_add rfl t_1 (by omega) (by omega)
            refine lv_iinc (v := z_25) (lv' := [(3, .int z_25), (0, .ref dh), (1, .int p0), (2, .int p1)]) hx hb dX0_tryFrom_83 hl (k := 0) rfl (by rw [ez_25]; rfl) (by decide) rfl (fun ls hl => ?_)
            refine lv_goto (tgt := 21) hx hb dX0_tryFrom_86 (by decide) ?_
            exact ih_9 z_25 dleastWorst_21 df1_21 df2_21 df4_21 _ _ _ (by (try dsimp only); omega) (by (try dsimp only); omega) hP hD hS (lv_sub hl [0, 1, 2, 3] rfl)
          ·
            have ic_24 : z_23.toInt < 3 := by first | exact (g_lt rfl t_3).mp c_24 | (have h := mt (g_le t_3 rfl).mpr c_24; omega)
            clear c_24
            refine lv_aload_n hx hb dX0_tryFrom_48 rfl (lv_at hl 1 rfl) ?_
            refine va_get (D := D) (ci := 0) (v := .ref (da 1)) (C := RX0) (T := TX0) (N := 9) hx hb htb iX0 hown hK.1 hP 0 rfl rfl 1 (by decide) (htb _ k_191) (fun _ h9 => h9) rfl dX0_tryFrom_49 ?_
            refine lv_iload_n hx hb dX0_tryFrom_52 rfl (lv_at hl 2 rfl) ?_
            refine lv_iload_n hx hb dX0_tryFrom_53 rfl (lv_at hl 0 rfl) ?_
            refine va_iast hx hb hK.1 hP hD hS 2 0 rfl rfl (g_in rfl (by omega) (by omega)) dX0_tryFrom_54 (fun H locs hP hD hS => ?_)
            have hP : va_P D vwCl [(dh, .inr (0, G0 da dlisted dshared dsailing dleastWorst_21)), ((da 0), .inl (E 0, 9, .inl df0)), ((da 1), .inl (E 0, 9, .inl (upd df1_21 (p0 : Int32).toNatClampNeg L3_21))), ((da 2), .inl (E 0, 9, .inl df2_21)), ((da 3), .inl (E 0, 3, .inl df3)), ((da 4), .inl (E 0, 3, .inl df4_21))] H := hP
            have hD := toW hP hD rfl
            refine lv_aload_n hx hb dX0_tryFrom_55 rfl (lv_at hl 1 rfl) ?_
            refine va_get (D := D) (ci := 0) (v := .ref (da 4)) (C := RX0) (T := TX0) (N := 9) hx hb htb iX0 hown hK.1 hP 0 rfl rfl 4 (by decide) (htb _ k_195) (fun _ h9 => h9) rfl dX0_tryFrom_56 ?_
            refine lv_iload_n hx hb dX0_tryFrom_59 rfl (lv_at hl 0 rfl) ?_
            refine lv_dup2_11 hx hb dX0_tryFrom_60 rfl rfl ?_
            refine va_iald hx hb hK.1 hP 5 0 rfl rfl (g_in rfl (by omega) (by omega)) dX0_tryFrom_61 ?_
            refine lv_topi (fun z_26 ez_26 => ?_)
            have kz_26 := congrArg Int32.toInt ez_26
            refine lv_iconst (v := 1) hx hb dX0_tryFrom_62 (by decide) ?_
            refine lv_iadd hx hb dX0_tryFrom_63 ?_
            refine lv_topi (fun z_27 ez_27 => ?_)
            refine va_iast hx hb hK.1 hP hD hS 5 0 rfl rfl (g_in rfl (by omega) (by omega)) dX0_tryFrom_64 (fun H locs hP hD hS => ?_)
            have hP : va_P D vwCl [(dh, .inr (0, G0 da dlisted dshared dsailing dleastWorst_21)), ((da 0), .inl (E 0, 9, .inl df0)), ((da 1), .inl (E 0, 9, .inl (upd df1_21 (p0 : Int32).toNatClampNeg L3_21))), ((da 2), .inl (E 0, 9, .inl df2_21)), ((da 3), .inl (E 0, 3, .inl df3)), ((da 4), .inl (E 0, 3, .inl (upd df4_21 (L3_21 : Int32).toNatClampNeg z_27)))] H := hP
            have hD := toW hP hD rfl
            refine lv_aload_n hx hb dX0_tryFrom_65 rfl (lv_at hl 1 rfl) ?_
            refine lv_iload_n hx hb dX0_tryFrom_66 rfl (lv_at hl 2 rfl) ?_
            refine lv_iconst (v := 1) hx hb dX0_tryFrom_67 (by decide) ?_
            refine lv_iadd hx hb dX0_tryFrom_68 ?_
            refine lv_topi (fun z_28 ez_28 => ?_)
            have jz_28 : z_28.toInt = p0.toInt + 1 := by rw [ez_28]; exact g_add rfl t_1 (by omega) (by omega)
            refine lv_iload_n hx hb dX0_tryFrom_69 rfl (lv_at hl 3 rfl) ?_
            have hPc := hP.sub (ws' := [(dh, .inr (0, G0 da dlisted dshared dsailing dleastWorst_21)), ((da 0), .inl (E 0, 9, .inl df0)), ((da 1), .inl (E 0, 9, .inl (upd df1_21 (p0 : Int32).toNatClampNeg L3_21))), ((da 2), .inl (E 0, 9, .inl df2_21)), ((da 3), .inl (E 0, 3, .inl df3)), ((da 4), .inl (E 0, 3, .inl (upd df4_21 (L3_21 : Int32).toNatClampNeg z_27)))]) [0, 1, 2, 3, 4, 5] rfl
            have hDc := hD.sub (ws' := [(dh, .inr (0, G0 da dlisted dshared dsailing dleastWorst_21)), ((da 0), .inl (E 0, 9, .inl df0)), ((da 1), .inl (E 0, 9, .inl (upd df1_21 (p0 : Int32).toNatClampNeg L3_21))), ((da 2), .inl (E 0, 9, .inl df2_21)), ((da 3), .inl (E 0, 3, .inl df3)), ((da 4), .inl (E 0, 3, .inl (upd df4_21 (L3_21 : Int32).toNatClampNeg z_27)))]) [0, 1, 2, 3, 4, 5] (by decide) rfl
            refine aft_v (runMV (rest := []) (As := [.int z_28, .int p1]) hx hb hml hown htb hK (g_X0_tryFrom_6 l D E dh da dlisted dshared dsailing dleastWorst_21 df0 (upd df1_21 (p0 : Int32).toNatClampNeg L3_21) df2_21 df3 (upd df4_21 (L3_21 : Int32).toNatClampNeg z_27) z_28 p1 _ (by (try dsimp only); omega) (by (try dsimp only); omega)) ok_X0_tryFrom k_905 k_907 ks_34 k_7 k_908 ⟨(Nat.le_of_ble_eq_true rfl), (Nat.le_of_ble_eq_true rfl)⟩ ⟨(Nat.le_of_ble_eq_true rfl), (Nat.le_of_ble_eq_true rfl)⟩ hl.1 (Nat.le_of_ble_eq_true rfl) rfl rfl dX0_tryFrom_70 hPc hDc rfl rfl 0 rfl) hP hD hS hA [0, 1, 2, 3, 4, 5] [] (wr := ([] : va_W)) rfl rfl (by decide) (by decide) (fun u_31 H locs hw_30 hP hD hS => ?_)
            clear hPc hDc
            obtain ⟨w_32, w_33, w_34, w_35⟩ := u_31
            try dsimp only at hw_30
            have hP : va_P D vwCl [(dh, .inr (0, G0 da dlisted dshared dsailing w_35)), ((da 0), .inl (E 0, 9, .inl df0)), ((da 1), .inl (E 0, 9, .inl w_32)), ((da 2), .inl (E 0, 9, .inl w_33)), ((da 3), .inl (E 0, 3, .inl df3)), ((da 4), .inl (E 0, 3, .inl w_34))] H := hP
            have hD := toW hP hD rfl
            refine lv_aload_n hx hb dX0_tryFrom_73 rfl (lv_at hl 1 rfl) ?_
            refine va_get (D := D) (ci := 0) (v := .ref (da 4)) (C := RX0) (T := TX0) (N := 9) hx hb htb iX0 hown hK.1 hP 0 rfl rfl 4 (by decide) (htb _ k_195) (fun _ h9 => h9) rfl dX0_tryFrom_74 ?_
            refine lv_iload_n hx hb dX0_tryFrom_77 rfl (lv_at hl 0 rfl) ?_
            refine lv_dup2_11 hx hb dX0_tryFrom_78 rfl rfl ?_
            refine va_iald hx hb hK.1 hP 5 0 rfl rfl (g_in rfl (by omega) (by omega)) dX0_tryFrom_79 ?_
            refine lv_topi (fun z_36 ez_36 => ?_)
            have kz_36 := congrArg Int32.toInt ez_36
            refine lv_iconst (v := 1) hx hb dX0_tryFrom_80 (by decide) ?_
            refine lv_isub hx hb dX0_tryFrom_81 ?_
            refine lv_topi (fun z_37 ez_37 => ?_)
            refine va_iast hx hb hK.1 hP hD hS 5 0 rfl rfl (g_in rfl (by omega) (by omega)) dX0_tryFrom_82 (fun H locs hP hD hS => ?_)
            have hP : va_P D vwCl [(dh, .inr (0, G0 da dlisted dshared dsailing w_35)), ((da 0), .inl (E 0, 9, .inl df0)), ((da 1), .inl (E 0, 9, .inl w_32)), ((da 2), .inl (E 0, 9, .inl w_33)), ((da 3), .inl (E 0, 3, .inl df3)), ((da 4), .inl (E 0, 3, .inl (upd w_34 (L3_21 : Int32).toNatClampNeg z_37)))] H := hP
            have hD := toW hP hD rfl
            obtain ⟨z_38, ez_38⟩ : ∃ y : Int32, y = L3_21 + 1 := ⟨_, rfl⟩
            have jz_38 : z_38.toInt = L3_21.toInt + 1 := by rw [ez_38]; exact g_add rfl t_1 (by omega) (by omega)
            refine lv_iinc (v := z_38) (lv' := [(3, .int z_38), (0, .ref dh), (1, .int p0), (2, .int p1)]) hx hb dX0_tryFrom_83 hl (k := 0) rfl (by rw [ez_38]; rfl) (by decide) rfl (fun ls hl => ?_)
            refine lv_goto (tgt := 21) hx hb dX0_tryFrom_86 (by decide) ?_
            exact ih_9 z_38 w_35 w_32 w_33 (upd w_34 (L3_21 : Int32).toNatClampNeg z_37) _ _ _ (by (try dsimp only); omega) (by (try dsimp only); omega) hP hD hS (lv_sub hl [0, 1, 2, 3] rfl)
    exact loop_8 4 0 dleastWorst df1 df2 df4 _ _ _ (by have h0 := t_0; (try dsimp only); omega) (by have h0 := t_0; (try dsimp only); omega) hP hD hS (lv_sub hl [0, 1, 2, 3] rfl)
set_option maxHeartbeats 4000000 in
set_option maxRecDepth 100000 in
theorem g_X0_tryFrom_8 (l : Launch) (D : va_G) (E : Nat → Nat) (dh : Nat) (da : Nat → Nat) (dlisted : Int32) (dshared : Int32) (dsailing : Int32) (dleastWorst : Int32) (df0 : Nat → Int32) (df1 : Nat → Int32) (df2 : Nat → Int32) (df3 : Nat → Int32) (df4 : Nat → Int32) (p0 : Int32) (p1 : Int32) (sz : Nat) (hi_d : (0 ≤ dlisted.toInt ∧ dlisted.toInt ≤ 9) ∧ (0 ≤ dshared.toInt ∧ dshared.toInt ≤ 9) ∧ (0 ≤ dsailing.toInt ∧ dsailing.toInt ≤ 3)) (g0 : 1 ≤ p0.toInt ∧ p0.toInt ≤ 9) : Met l yX0_tryFrom (wl yX0_tryFrom cX0_tryFrom 4 none) (RM 11 0 0) (mu_P D E [.ref dh, .int p0, .int p1] [(dh, .inr (0, G0 da dlisted dshared dsailing dleastWorst)), ((da 0), .inl (E 0, 9, .inl df0)), ((da 1), .inl (E 0, 9, .inl df1)), ((da 2), .inl (E 0, 9, .inl df2)), ((da 3), .inl (E 0, 3, .inl df3)), ((da 4), .inl (E 0, 3, .inl df4))] sz) (va_Qv (fun (u : (Nat → Int32) × (Nat → Int32) × (Nat → Int32) × (Int32)) => True) (mu_B D (va_A [(dh, .inr (0, G0 da dlisted dshared dsailing dleastWorst)), ((da 0), .inl (E 0, 9, .inl df0)), ((da 1), .inl (E 0, 9, .inl df1)), ((da 2), .inl (E 0, 9, .inl df2)), ((da 3), .inl (E 0, 3, .inl df3)), ((da 4), .inl (E 0, 3, .inl df4))] sz) (fun (u : (Nat → Int32) × (Nat → Int32) × (Nat → Int32) × (Int32)) => [(dh, .inr (0, G0 da dlisted dshared dsailing u.2.2.2)), ((da 0), .inl (E 0, 9, .inl df0)), ((da 1), .inl (E 0, 9, .inl u.1)), ((da 2), .inl (E 0, 9, .inl u.2.1)), ((da 3), .inl (E 0, 3, .inl df3)), ((da 4), .inl (E 0, 3, .inl u.2.2.1))])) (va_A [(dh, .inr (0, G0 da dlisted dshared dsailing dleastWorst)), ((da 0), .inl (E 0, 9, .inl df0)), ((da 1), .inl (E 0, 9, .inl df1)), ((da 2), .inl (E 0, 9, .inl df2)), ((da 3), .inl (E 0, 3, .inl df3)), ((da 4), .inl (E 0, 3, .inl df4))] sz)) 0 0 (va_A [(dh, .inr (0, G0 da dlisted dshared dsailing dleastWorst)), ((da 0), .inl (E 0, 9, .inl df0)), ((da 1), .inl (E 0, 9, .inl df1)), ((da 2), .inl (E 0, 9, .inl df2)), ((da 3), .inl (E 0, 3, .inl df3)), ((da 4), .inl (E 0, 3, .inl df4))] sz) := by
  refine Met.ofW (cc := cX0_tryFrom) (maxL := 4) (ret := none) (by decide) rfl ?_
  intro p e s m args below meth c s₁ B hml hv
  obtain ⟨rfl, hsz, hP, hK, hD0⟩ := hv
  have hx := B.exec; have hb := B.bytes; have hr := B.returns
  have hts := atoms_spec (ws := wl yX0_tryFrom cX0_tryFrom 4 none) B.pre
  have htb : ∀ w ∈ tb, w.before _ s = true := fun w h => hts w (List.mem_cons_of_mem _ h)
  have hown : s.vm.findClass RX0 = some m.cls := findClass_of_methodNamed B.named
  have hlocks := B.notSynchronized
  subst hsz
  have hD := hD0.self (sz := s.heap.size)
  generalize hAe : va_A [(dh, .inr (0, G0 da dlisted dshared dsailing dleastWorst)), ((da 0), .inl (E 0, 9, .inl df0)), ((da 1), .inl (E 0, 9, .inl df1)), ((da 2), .inl (E 0, 9, .inl df2)), ((da 3), .inl (E 0, 3, .inl df3)), ((da 4), .inl (E 0, 3, .inl df4))] s.heap.size = A at hD ⊢
  have hA : ∀ q : Nat, s.heap.size ≤ q → A q := fun q h => by rw [← hAe]; exact Or.inr h
  have hS : va_S A s.heap s.heap [] := va_S.rf
  have hP : va_P D vwCl [(dh, .inr (0, G0 da dlisted dshared dsailing dleastWorst)), ((da 0), .inl (E 0, 9, .inl df0)), ((da 1), .inl (E 0, 9, .inl df1)), ((da 2), .inl (E 0, 9, .inl df2)), ((da 3), .inl (E 0, 3, .inl df3)), ((da 4), .inl (E 0, 3, .inl df4))] s.heap := hP
  have hl := lv_entry ([.ref dh, .int p0, .int p1]) (n := 4) (Nat.le_of_ble_eq_true rfl)
  rw [lg_entry_eq]
  generalize (lg_sl ([.ref dh, .int p0, .int p1]) ++ List.replicate (4 - (lg_sl ([.ref dh, .int p0, .int p1])).length) Slot.unset).toArray = ls at hl ⊢
  have hl : lv_has ls 4 [(0, .ref dh), (1, .int p0), (2, .int p1)] := hl
  have lo_p0 := i_lo p0; have hi_p0 := i_hi p0
  have lo_p1 := i_lo p1; have hi_p1 := i_hi p1
  refine lv_iload_n hx hb dX0_tryFrom_0 rfl (lv_at hl 1 rfl) ?_
  refine lv_aload_n hx hb dX0_tryFrom_1 rfl (lv_at hl 0 rfl) ?_
  refine va_get (D := D) (ci := 0) (v := .int dlisted) (C := RX0) (T := TX0) (N := 9) hx hb htb iX0 hown hK.1 hP 0 rfl rfl 5 (by decide) (htb _ k_196) (fun _ h9 => h9) rfl dX0_tryFrom_2 ?_
  refine lv_icmp_ge (tgt := 14) hx hb dX0_tryFrom_5 (by decide) (fun c_1 => ?_) (fun c_1 => ?_)
  ·
    have ic_1 : dlisted.toInt ≤ p0.toInt := by first | exact (g_le rfl rfl).mp c_1 | (have h := mt (g_lt rfl rfl).mpr c_1; omega)
    clear c_1
    refine lv_aload_n hx hb dX0_tryFrom_14 rfl (lv_at hl 0 rfl) ?_
    have hPc := hP.sub (ws' := [(dh, .inr (0, G0 da dlisted dshared dsailing dleastWorst)), ((da 0), .inl (E 0, 9, .inl df0)), ((da 1), .inl (E 0, 9, .inl df1)), ((da 2), .inl (E 0, 9, .inl df2)), ((da 3), .inl (E 0, 3, .inl df3))]) [0, 1, 2, 3, 4] rfl
    have hDc := hD.sub (ws' := [(dh, .inr (0, G0 da dlisted dshared dsailing dleastWorst)), ((da 0), .inl (E 0, 9, .inl df0)), ((da 1), .inl (E 0, 9, .inl df1)), ((da 2), .inl (E 0, 9, .inl df2)), ((da 3), .inl (E 0, 3, .inl df3))]) [0, 1, 2, 3, 4] (by decide) rfl
    refine aft_v (runMV (rest := []) (As := []) hx hb hml hown htb hK (g_X0_keepIfBetter l D E dh da dlisted dshared dsailing dleastWorst df0 df1 df2 df3 _ (by (try dsimp only); omega)) ok_X0_keepIfBetter k_909 k_911 ks_35 k_7 k_912 ⟨(Nat.le_of_ble_eq_true rfl), (Nat.le_of_ble_eq_true rfl)⟩ ⟨(Nat.le_of_ble_eq_true rfl), (Nat.le_of_ble_eq_true rfl)⟩ hl.1 (Nat.le_of_ble_eq_true rfl) rfl rfl dX0_tryFrom_15 hPc hDc rfl rfl 0 rfl) hP hD hS hA [0, 1, 2, 3, 4] [5] (wr := [((da 4), .inl (E 0, 3, .inl df4))]) rfl rfl (by decide) (by decide) (fun u_4 H locs hw_3 hP hD hS => ?_)
    clear hPc hDc
    obtain ⟨w_5, w_6⟩ := u_4
    try dsimp only at hw_3
    have hP : va_P D vwCl [((da 4), .inl (E 0, 3, .inl df4)), (dh, .inr (0, G0 da dlisted dshared dsailing w_6)), ((da 0), .inl (E 0, 9, .inl df0)), ((da 1), .inl (E 0, 9, .inl df1)), ((da 2), .inl (E 0, 9, .inl w_5)), ((da 3), .inl (E 0, 3, .inl df3))] H := hP
    have hD := toW hP hD rfl
    have hP9 := hP.sub (ws' := [(dh, .inr (0, G0 da dlisted dshared dsailing w_6)), ((da 0), .inl (E 0, 9, .inl df0)), ((da 1), .inl (E 0, 9, .inl df1)), ((da 2), .inl (E 0, 9, .inl w_5)), ((da 3), .inl (E 0, 3, .inl df3)), ((da 4), .inl (E 0, 3, .inl df4))]) [1, 2, 3, 4, 5, 0] rfl
    have hD9 := hD.sub (ws' := [(dh, .inr (0, G0 da dlisted dshared dsailing w_6)), ((da 0), .inl (E 0, 9, .inl df0)), ((da 1), .inl (E 0, 9, .inl df1)), ((da 2), .inl (E 0, 9, .inl w_5)), ((da 3), .inl (E 0, 3, .inl df3)), ((da 4), .inl (E 0, 3, .inl df4))]) [1, 2, 3, 4, 5, 0] (by decide) rfl
    exact W.vret hx hb hr (fun t ht hW => ⟨⟨(df1, w_5, df4, w_6), rfl, trivial, by rw [ht]; exact hP9, hD9⟩, hS.F ht⟩) hS.2.2 dX0_tryFrom_18
  ·
    have ic_1 : p0.toInt < dlisted.toInt := by first | exact (g_lt rfl rfl).mp c_1 | (have h := mt (g_le rfl rfl).mpr c_1; omega)
    clear c_1
    refine lv_iload_n hx hb dX0_tryFrom_8 rfl (lv_at hl 1 rfl) ?_
    refine lv_bipush (v := 9) hx hb dX0_tryFrom_9 (by decide) ?_
    refine lv_icmp_lt (tgt := 19) hx hb dX0_tryFrom_11 (by decide) (fun c_7 => ?_) (fun c_7 => absurd (by rw [g_lt rfl t_9]; omega) c_7)
    refine lv_iconst (v := 0) hx hb dX0_tryFrom_19 (by decide) ?_
    refine lv_istore_n (lv' := [(3, .int 0), (0, .ref dh), (1, .int p0), (2, .int p1)]) hx hb dX0_tryFrom_20 rfl hl (by decide) rfl (fun ls hl => ?_)
    have loop_8 : ∀ (N_10 : Nat) (L3_21 : Int32) (dleastWorst_21 : Int32) (df1_21 : Nat → Int32) (df2_21 : Nat → Int32) (df4_21 : Nat → Int32) (H : Heap) (locs : List Loc) (ls : Array Slot), 3 - L3_21.toInt < (N_10 : Int) → (0 ≤ L3_21.toInt ∧ L3_21.toInt ≤ 3) → va_P D vwCl [(dh, .inr (0, G0 da dlisted dshared dsailing dleastWorst_21)), ((da 0), .inl (E 0, 9, .inl df0)), ((da 1), .inl (E 0, 9, .inl df1_21)), ((da 2), .inl (E 0, 9, .inl df2_21)), ((da 3), .inl (E 0, 3, .inl df3)), ((da 4), .inl (E 0, 3, .inl df4_21))] H → va_D A [(dh, .inr (0, G0 da dlisted dshared dsailing dleastWorst_21)), ((da 0), .inl (E 0, 9, .inl df0)), ((da 1), .inl (E 0, 9, .inl df1_21)), ((da 2), .inl (E 0, 9, .inl df2_21)), ((da 3), .inl (E 0, 3, .inl df3)), ((da 4), .inl (E 0, 3, .inl df4_21))] → va_S A s.heap H locs → lv_has ls 4 [(3, .int L3_21), (0, .ref dh), (1, .int p0), (2, .int p1)] → W p l e (headSpec (wl yX0_tryFrom cX0_tryFrom 4 none) (RM 11 0 0)).room s m [Value.ref dh, .int p0, .int p1].toArray below meth c H locs 0 0 (MQ below (va_Qv (fun (u : (Nat → Int32) × (Nat → Int32) × (Nat → Int32) × (Int32)) => True) (mu_B D A (fun (u : (Nat → Int32) × (Nat → Int32) × (Nat → Int32) × (Int32)) => [(dh, .inr (0, G0 da dlisted dshared dsailing u.2.2.2)), ((da 0), .inl (E 0, 9, .inl df0)), ((da 1), .inl (E 0, 9, .inl u.1)), ((da 2), .inl (E 0, 9, .inl u.2.1)), ((da 3), .inl (E 0, 3, .inl df3)), ((da 4), .inl (E 0, 3, .inl u.2.2.1))])) A) [Value.ref dh, .int p0, .int p1].toArray s 0 0 A) (F0 m 21 ls []) := by
      intro N_10
      induction N_10 with
      | zero => intro L3_21 dleastWorst_21 df1_21 df2_21 df4_21 H locs ls hm v0_21 _ _ _ _; exfalso; omega
      | succ N_10 ih_9 =>
        intro L3_21 dleastWorst_21 df1_21 df2_21 df4_21 H locs ls hm v0_21 hP hD hS hl
        have lo_L3_21 := i_lo L3_21; have hi_L3_21 := i_hi L3_21
        have lo_dleastWorst_21 := i_lo dleastWorst_21; have hi_dleastWorst_21 := i_hi dleastWorst_21
        refine lv_iload_n hx hb dX0_tryFrom_21 rfl (lv_at hl 0 rfl) ?_
        refine lv_aload_n hx hb dX0_tryFrom_22 rfl (lv_at hl 1 rfl) ?_
        refine va_get (D := D) (ci := 0) (v := .int dsailing) (C := RX0) (T := TX0) (N := 9) hx hb htb iX0 hown hK.1 hP 0 rfl rfl 7 (by decide) (htb _ k_200) (fun _ h9 => h9) rfl dX0_tryFrom_23 ?_
        refine lv_icmp_ge (tgt := 89) hx hb dX0_tryFrom_26 (by decide) (fun c_11 => ?_) (fun c_11 => ?_)
        ·
          have ic_11 : dsailing.toInt ≤ L3_21.toInt := by first | exact (g_le rfl rfl).mp c_11 | (have h := mt (g_lt rfl rfl).mpr c_11; omega)
          clear c_11
          refine lv_iload_n hx hb dX0_tryFrom_89 rfl (lv_at hl 3 rfl) ?_
          refine lv_if_le (tgt := 110) hx hb dX0_tryFrom_90 (by decide) (fun c_12 => ?_) (fun c_12 => ?_)
          ·
            have ic_12 : p1.toInt ≤ 0 := by first | exact (g_le rfl t_0).mp c_12 | (have h := mt (g_lt t_0 rfl).mpr c_12; omega)
            clear c_12
            have hP9 := hP.sub (ws' := [(dh, .inr (0, G0 da dlisted dshared dsailing dleastWorst_21)), ((da 0), .inl (E 0, 9, .inl df0)), ((da 1), .inl (E 0, 9, .inl df1_21)), ((da 2), .inl (E 0, 9, .inl df2_21)), ((da 3), .inl (E 0, 3, .inl df3)), ((da 4), .inl (E 0, 3, .inl df4_21))]) [0, 1, 2, 3, 4, 5] rfl
            have hD9 := hD.sub (ws' := [(dh, .inr (0, G0 da dlisted dshared dsailing dleastWorst_21)), ((da 0), .inl (E 0, 9, .inl df0)), ((da 1), .inl (E 0, 9, .inl df1_21)), ((da 2), .inl (E 0, 9, .inl df2_21)), ((da 3), .inl (E 0, 3, .inl df3)), ((da 4), .inl (E 0, 3, .inl df4_21))]) [0, 1, 2, 3, 4, 5] (by decide) rfl
            exact W.vret hx hb hr (fun t ht hW => ⟨⟨(df1_21, df2_21, df4_21, dleastWorst_21), rfl, trivial, by rw [ht]; exact hP9, hD9⟩, hS.F ht⟩) hS.2.2 dX0_tryFrom_110
          ·
            have ic_12 : 0 < p1.toInt := by first | exact (g_lt t_0 rfl).mp c_12 | (have h := mt (g_le rfl t_0).mpr c_12; omega)
            clear c_12
            refine lv_aload_n hx hb dX0_tryFrom_93 rfl (lv_at hl 1 rfl) ?_
            refine va_get (D := D) (ci := 0) (v := .ref (da 1)) (C := RX0) (T := TX0) (N := 9) hx hb htb iX0 hown hK.1 hP 0 rfl rfl 1 (by decide) (htb _ k_191) (fun _ h9 => h9) rfl dX0_tryFrom_94 ?_
            refine lv_iload_n hx hb dX0_tryFrom_97 rfl (lv_at hl 2 rfl) ?_
            refine lv_iconst (v := (-1)) hx hb dX0_tryFrom_98 (by decide) ?_
            refine va_iast hx hb hK.1 hP hD hS 2 0 rfl rfl (g_in rfl (by omega) (by omega)) dX0_tryFrom_99 (fun H locs hP hD hS => ?_)
            have hP : va_P D vwCl [(dh, .inr (0, G0 da dlisted dshared dsailing dleastWorst_21)), ((da 0), .inl (E 0, 9, .inl df0)), ((da 1), .inl (E 0, 9, .inl (upd df1_21 (p0 : Int32).toNatClampNeg (-1)))), ((da 2), .inl (E 0, 9, .inl df2_21)), ((da 3), .inl (E 0, 3, .inl df3)), ((da 4), .inl (E 0, 3, .inl df4_21))] H := hP
            have hD := toW hP hD rfl
            refine lv_aload_n hx hb dX0_tryFrom_100 rfl (lv_at hl 1 rfl) ?_
            refine lv_iload_n hx hb dX0_tryFrom_101 rfl (lv_at hl 2 rfl) ?_
            refine lv_iconst (v := 1) hx hb dX0_tryFrom_102 (by decide) ?_
            refine lv_iadd hx hb dX0_tryFrom_103 ?_
            refine lv_topi (fun z_13 ez_13 => ?_)
            have jz_13 : z_13.toInt = p0.toInt + 1 := by rw [ez_13]; exact g_add rfl t_1 (by omega) (by omega)
            refine lv_iload_n hx hb dX0_tryFrom_104 rfl (lv_at hl 3 rfl) ?_
            refine lv_iconst (v := 1) hx hb dX0_tryFrom_105 (by decide) ?_
            refine lv_isub hx hb dX0_tryFrom_106 ?_
            refine lv_topi (fun z_14 ez_14 => ?_)
            have jz_14 : z_14.toInt = p1.toInt - 1 := by rw [ez_14]; exact g_sub rfl t_1 (by omega) (by omega)
            have hPc := hP.sub (ws' := [(dh, .inr (0, G0 da dlisted dshared dsailing dleastWorst_21)), ((da 0), .inl (E 0, 9, .inl df0)), ((da 1), .inl (E 0, 9, .inl (upd df1_21 (p0 : Int32).toNatClampNeg (-1)))), ((da 2), .inl (E 0, 9, .inl df2_21)), ((da 3), .inl (E 0, 3, .inl df3)), ((da 4), .inl (E 0, 3, .inl df4_21))]) [0, 1, 2, 3, 4, 5] rfl
            have hDc := hD.sub (ws' := [(dh, .inr (0, G0 da dlisted dshared dsailing dleastWorst_21)), ((da 0), .inl (E 0, 9, .inl df0)), ((da 1), .inl (E 0, 9, .inl (upd df1_21 (p0 : Int32).toNatClampNeg (-1)))), ((da 2), .inl (E 0, 9, .inl df2_21)), ((da 3), .inl (E 0, 3, .inl df3)), ((da 4), .inl (E 0, 3, .inl df4_21))]) [0, 1, 2, 3, 4, 5] (by decide) rfl
            refine aft_v (runMV (rest := []) (As := [.int z_13, .int z_14]) hx hb hml hown htb hK (g_X0_tryFrom_7 l D E dh da dlisted dshared dsailing dleastWorst_21 df0 (upd df1_21 (p0 : Int32).toNatClampNeg (-1)) df2_21 df3 df4_21 z_13 z_14 _ (by (try dsimp only); omega) (by (try dsimp only); omega)) ok_X0_tryFrom k_905 k_907 ks_34 k_7 k_908 ⟨(Nat.le_of_ble_eq_true rfl), (Nat.le_of_ble_eq_true rfl)⟩ ⟨(Nat.le_of_ble_eq_true rfl), (Nat.le_of_ble_eq_true rfl)⟩ hl.1 (Nat.le_of_ble_eq_true rfl) rfl rfl dX0_tryFrom_107 hPc hDc rfl rfl 0 rfl) hP hD hS hA [0, 1, 2, 3, 4, 5] [] (wr := ([] : va_W)) rfl rfl (by decide) (by decide) (fun u_17 H locs hw_16 hP hD hS => ?_)
            clear hPc hDc
            obtain ⟨w_18, w_19, w_20, w_21⟩ := u_17
            try dsimp only at hw_16
            have hP : va_P D vwCl [(dh, .inr (0, G0 da dlisted dshared dsailing w_21)), ((da 0), .inl (E 0, 9, .inl df0)), ((da 1), .inl (E 0, 9, .inl w_18)), ((da 2), .inl (E 0, 9, .inl w_19)), ((da 3), .inl (E 0, 3, .inl df3)), ((da 4), .inl (E 0, 3, .inl w_20))] H := hP
            have hD := toW hP hD rfl
            have hP9 := hP.sub (ws' := [(dh, .inr (0, G0 da dlisted dshared dsailing w_21)), ((da 0), .inl (E 0, 9, .inl df0)), ((da 1), .inl (E 0, 9, .inl w_18)), ((da 2), .inl (E 0, 9, .inl w_19)), ((da 3), .inl (E 0, 3, .inl df3)), ((da 4), .inl (E 0, 3, .inl w_20))]) [0, 1, 2, 3, 4, 5] rfl
            have hD9 := hD.sub (ws' := [(dh, .inr (0, G0 da dlisted dshared dsailing w_21)), ((da 0), .inl (E 0, 9, .inl df0)), ((da 1), .inl (E 0, 9, .inl w_18)), ((da 2), .inl (E 0, 9, .inl w_19)), ((da 3), .inl (E 0, 3, .inl df3)), ((da 4), .inl (E 0, 3, .inl w_20))]) [0, 1, 2, 3, 4, 5] (by decide) rfl
            exact W.vret hx hb hr (fun t ht hW => ⟨⟨(w_18, w_19, w_20, w_21), rfl, trivial, by rw [ht]; exact hP9, hD9⟩, hS.F ht⟩) hS.2.2 dX0_tryFrom_110
        ·
          have ic_11 : L3_21.toInt < dsailing.toInt := by first | exact (g_lt rfl rfl).mp c_11 | (have h := mt (g_le rfl rfl).mpr c_11; omega)
          clear c_11
          refine lv_iload_n hx hb dX0_tryFrom_29 rfl (lv_at hl 0 rfl) ?_
          refine lv_aload_n hx hb dX0_tryFrom_30 rfl (lv_at hl 1 rfl) ?_
          refine va_get (D := D) (ci := 0) (v := .ref (da 4)) (C := RX0) (T := TX0) (N := 9) hx hb htb iX0 hown hK.1 hP 0 rfl rfl 4 (by decide) (htb _ k_195) (fun _ h9 => h9) rfl dX0_tryFrom_31 ?_
          refine va_alen hx hb hK.1 hP 5 0 rfl rfl (v := 3) (show Int32.ofNat 3 = 3 by decide) dX0_tryFrom_34 ?_
          refine lv_icmp_ge (tgt := 89) hx hb dX0_tryFrom_35 (by decide) (fun c_22 => absurd c_22 (by rw [g_le t_3 rfl]; omega)) (fun c_22 => ?_)
          refine lv_aload_n hx hb dX0_tryFrom_38 rfl (lv_at hl 1 rfl) ?_
          refine va_get (D := D) (ci := 0) (v := .ref (da 4)) (C := RX0) (T := TX0) (N := 9) hx hb htb iX0 hown hK.1 hP 0 rfl rfl 4 (by decide) (htb _ k_195) (fun _ h9 => h9) rfl dX0_tryFrom_39 ?_
          refine lv_iload_n hx hb dX0_tryFrom_42 rfl (lv_at hl 0 rfl) ?_
          refine va_iald hx hb hK.1 hP 5 0 rfl rfl (g_in rfl (by omega) (by omega)) dX0_tryFrom_43 ?_
          refine lv_topi (fun z_23 ez_23 => ?_)
          have kz_23 := congrArg Int32.toInt ez_23
          refine lv_iconst (v := 3) hx hb dX0_tryFrom_44 (by decide) ?_
          refine lv_icmp_ge (tgt := 83) hx hb dX0_tryFrom_45 (by decide) (fun c_24 => ?_) (fun c_24 => ?_)
          ·
            have ic_24 : 3 ≤ z_23.toInt := by first | exact (g_le t_3 rfl).mp c_24 | (have h := mt (g_lt rfl t_3).mpr c_24; omega)
            clear c_24
            obtain ⟨z_25, ez_25⟩ : ∃ y : Int32, y = L3_21 + 1 := ⟨_, rfl⟩
            have jz_25 : z_25.toInt = L3_21.toInt + 1 := by rw [ez_25]; exact g_add rfl t_1 (by omega) (by omega)
            refine lv_iinc (v := z_25) (lv' := [(3, .int z_25), (0, .ref dh), (1, .int p0), (2, .int p1)]) hx hb dX0_tryFrom_83 hl (k := 0) rfl (by rw [ez_25]; rfl) (by decide) rfl (fun ls hl => ?_)
            refine lv_goto (tgt := 21) hx hb dX0_tryFrom_86 (by decide) ?_
            exact ih_9 z_25 dleastWorst_21 df1_21 df2_21 df4_21 _ _ _ (by (try dsimp only); omega) (by (try dsimp only); omega) hP hD hS (lv_sub hl [0, 1, 2, 3] rfl)
          ·
            have ic_24 : z_23.toInt < 3 := by first | exact (g_lt rfl t_3).mp c_24 | (have h := mt (g_le t_3 rfl).mpr c_24; omega)
            clear c_24
            refine lv_aload_n hx hb dX0_tryFrom_48 rfl (lv_at hl 1 rfl) ?_
            refine va_get (D := D) (ci := 0) (v := .ref (da 1)) (C := RX0) (T := TX0) (N := 9) hx hb htb iX0 hown hK.1 hP 0 rfl rfl 1 (by decide) (htb _ k_191) (fun _ h9 => h9) rfl dX0_tryFrom_49 ?_
            refine lv_iload_n hx hb dX0_tryFrom_52 rfl (lv_at hl 2 rfl) ?_
            refine lv_iload_n hx hb dX0_tryFrom_53 rfl (lv_at hl 0 rfl) ?_
            refine va_iast hx hb hK.1 hP hD hS 2 0 rfl rfl (g_in rfl (by omega) (by omega)) dX0_tryFrom_54 (fun H locs hP hD hS => ?_)
            have hP : va_P D vwCl [(dh, .inr (0, G0 da dlisted dshared dsailing dleastWorst_21)), ((da 0), .inl (E 0, 9, .inl df0)), ((da 1), .inl (E 0, 9, .inl (upd df1_21 (p0 : Int32).toNatClampNeg L3_21))), ((da 2), .inl (E 0, 9, .inl df2_21)), ((da 3), .inl (E 0, 3, .inl df3)), ((da 4), .inl (E 0, 3, .inl df4_21))] H := hP
            have hD := toW hP hD rfl
            refine lv_aload_n hx hb dX0_tryFrom_55 rfl (lv_at hl 1 rfl) ?_
            refine va_get (D := D) (ci := 0) (v := .ref (da 4)) (C := RX0) (T := TX0) (N := 9) hx hb htb iX0 hown hK.1 hP 0 rfl rfl 4 (by decide) (htb _ k_195) (fun _ h9 => h9) rfl dX0_tryFrom_56 ?_
            refine lv_iload_n hx hb dX0_tryFrom_59 rfl (lv_at hl 0 rfl) ?_
            refine lv_dup2_11 hx hb dX0_tryFrom_60 rfl rfl ?_
            refine va_iald hx hb hK.1 hP 5 0 rfl rfl (g_in rfl (by omega) (by omega)) dX0_tryFrom_61 ?_
            refine lv_topi (fun z_26 ez_26 => ?_)
            have kz_26 := congrArg Int32.toInt ez_26
            refine lv_iconst (v := 1) hx hb dX0_tryFrom_62 (by decide) ?_
            refine lv_iadd hx hb dX0_tryFrom_63 ?_
            refine lv_topi (fun z_27 ez_27 => ?_)
            refine va_iast hx hb hK.1 hP hD hS 5 0 rfl rfl (g_in rfl (by omega) (by omega)) dX0_tryFrom_64 (fun H locs hP hD hS => ?_)
            have hP : va_P D vwCl [(dh, .inr (0, G0 da dlisted dshared dsailing dleastWorst_21)), ((da 0), .inl (E 0, 9, .inl df0)), ((da 1), .inl (E 0, 9, .inl (upd df1_21 (p0 : Int32).toNatClampNeg L3_21))), ((da 2), .inl (E 0, 9, .inl df2_21)), ((da 3), .inl (E 0, 3, .inl df3)), ((da 4), .inl (E 0, 3, .inl (upd df4_21 (L3_21 : Int32).toNatClampNeg z_27)))] H := hP
            have hD := toW hP hD rfl
            refine lv_aload_n hx hb dX0_tryFrom_65 rfl (lv_at hl 1 rfl) ?_
            refine lv_iload_n hx hb dX0_tryFrom_66 rfl (lv_at hl 2 rfl) ?_
            refine lv_iconst (v := 1) hx hb dX0_tryFrom_67 (by decide) ?_
            refine lv_iadd hx hb dX0_tryFrom_68 ?_
            refine lv_topi (fun z_28 ez_28 => ?_)
            have jz_28 : z_28.toInt = p0.toInt + 1 := by rw [ez_28]; exact g_add rfl t_1 (by omega) (by omega)
            refine lv_iload_n hx hb dX0_tryFrom_69 rfl (lv_at hl 3 rfl) ?_
            have hPc := hP.sub (ws' := [(dh, .inr (0, G0 da dlisted dshared dsailing dleastWorst_21)), ((da 0), .inl (E 0, 9, .inl df0)), ((da 1), .inl (E 0, 9, .inl (upd df1_21 (p0 : Int32).toNatClampNeg L3_21))), ((da 2), .inl (E 0, 9, .inl df2_21)), ((da 3), .inl (E 0, 3, .inl df3)), ((da 4), .inl (E 0, 3, .inl (upd df4_21 (L3_21 : Int32).toNatClampNeg z_27)))]) [0, 1, 2, 3, 4, 5] rfl
            have hDc := hD.sub (ws' := [(dh, .inr (0, G0 da dlisted dshared dsailing dleastWorst_21)), ((da 0), .inl (E 0, 9, .inl df0)), ((da 1), .inl (E 0, 9, .inl (upd df1_21 (p0 : Int32).toNatClampNeg L3_21))), ((da 2), .inl (E 0, 9, .inl df2_21)), ((da 3), .inl (E 0, 3, .inl df3)), ((da 4), .inl (E 0, 3, .inl (upd df4_21 (L3_21 : Int32).toNatClampNeg z_27)))]) [0, 1, 2, 3, 4, 5] (by decide) rfl
            refine aft_v (runMV (rest := []) (As := [.int z_28, .int p1]) hx hb hml hown htb hK (g_X0_tryFrom_7 l D E dh da dlisted dshared dsailing dleastWorst_21 df0 (upd df1_21 (p0 : Int32).toNatClampNeg L3_21) df2_21 df3 (upd df4_21 (L3_21 : Int32).toNatClampNeg z_27) z_28 p1 _ (by (try dsimp only); omega) (by (try dsimp only); omega)) ok_X0_tryFrom k_905 k_907 ks_34 k_7 k_908 ⟨(Nat.le_of_ble_eq_true rfl), (Nat.le_of_ble_eq_true rfl)⟩ ⟨(Nat.le_of_ble_eq_true rfl), (Nat.le_of_ble_eq_true rfl)⟩ hl.1 (Nat.le_of_ble_eq_true rfl) rfl rfl dX0_tryFrom_70 hPc hDc rfl rfl 0 rfl) hP hD hS hA [0, 1, 2, 3, 4, 5] [] (wr := ([] : va_W)) rfl rfl (by decide) (by decide) (fun u_31 H locs hw_30 hP hD hS => ?_)
            clear hPc hDc
            obtain ⟨w_32, w_33, w_34, w_35⟩ := u_31
            try dsimp only at hw_30
            have hP : va_P D vwCl [(dh, .inr (0, G0 da dlisted dshared dsailing w_35)), ((da 0), .inl (E 0, 9, .inl df0)), ((da 1), .inl (E 0, 9, .inl w_32)), ((da 2), .inl (E 0, 9, .inl w_33)), ((da 3), .inl (E 0, 3, .inl df3)), ((da 4), .inl (E 0, 3, .inl w_34))] H := hP
            have hD := toW hP hD rfl
            refine lv_aload_n hx hb dX0_tryFrom_73 rfl (lv_at hl 1 rfl) ?_
            refine va_get (D := D) (ci := 0) (v := .ref (da 4)) (C := RX0) (T := TX0) (N := 9) hx hb htb iX0 hown hK.1 hP 0 rfl rfl 4 (by decide) (htb _ k_195) (fun _ h9 => h9) rfl dX0_tryFrom_74 ?_
            refine lv_iload_n hx hb dX0_tryFrom_77 rfl (lv_at hl 0 rfl) ?_
            refine lv_dup2_11 hx hb dX0_tryFrom_78 rfl rfl ?_
            refine va_iald hx hb hK.1 hP 5 0 rfl rfl (g_in rfl (by omega) (by omega)) dX0_tryFrom_79 ?_
            refine lv_topi (fun z_36 ez_36 => ?_)
            have kz_36 := congrArg Int32.toInt ez_36
            refine lv_iconst (v := 1) hx hb dX0_tryFrom_80 (by decide) ?_
            refine lv_isub hx hb dX0_tryFrom_81 ?_
            refine lv_topi (fun z_37 ez_37 => ?_)
            refine va_iast hx hb hK.1 hP hD hS 5 0 rfl rfl (g_in rfl (by omega) (by omega)) dX0_tryFrom_82 (fun H locs hP hD hS => ?_)
            have hP : va_P D vwCl [(dh, .inr (0, G0 da dlisted dshared dsailing w_35)), ((da 0), .inl (E 0, 9, .inl df0)), ((da 1), .inl (E 0, 9, .inl w_32)), ((da 2), .inl (E 0, 9, .inl w_33)), ((da 3), .inl (E 0, 3, .inl df3)), ((da 4), .inl (E 0, 3, .inl (upd w_34 (L3_21 : Int32).toNatClampNeg z_37)))] H := hP
            have hD := toW hP hD rfl
            obtain ⟨z_38, ez_38⟩ : ∃ y : Int32, y = L3_21 + 1 := ⟨_, rfl⟩
            have jz_38 : z_38.toInt = L3_21.toInt + 1 := by rw [ez_38]; exact g_add rfl t_1 (by omega) (by omega)
            refine lv_iinc (v := z_38) (lv' := [(3, .int z_38), (0, .ref dh), (1, .int p0), (2, .int p1)]) hx hb dX0_tryFrom_83 hl (k := 0) rfl (by rw [ez_38]; rfl) (by decide) rfl (fun ls hl => ?_)
            refine lv_goto (tgt := 21) hx hb dX0_tryFrom_86 (by decide) ?_
            exact ih_9 z_38 w_35 w_32 w_33 (upd w_34 (L3_21 : Int32).toNatClampNeg z_37) _ _ _ (by (try dsimp only); omega) (by (try dsimp only); omega) hP hD hS (lv_sub hl [0, 1, 2, 3] rfl)
    exact loop_8 4 0 dleastWorst df1 df2 df4 _ _ _ (by have h0 := t_0; (try dsimp only); omega) (by have h0 := t_0; (try dsimp only); omega) hP hD hS (lv_sub hl [0, 1, 2, 3] rfl)
set_option maxHeartbeats 4000000 in
set_option maxRecDepth 100000 in
theorem g_X0_tryFrom_9 (l : Launch) (D : va_G) (E : Nat → Nat) (dh : Nat) (da : Nat → Nat) (dlisted : Int32) (dshared : Int32) (dsailing : Int32) (dleastWorst : Int32) (df0 : Nat → Int32) (df1 : Nat → Int32) (df2 : Nat → Int32) (df3 : Nat → Int32) (df4 : Nat → Int32) (p0 : Int32) (p1 : Int32) (sz : Nat) (hi_d : (0 ≤ dlisted.toInt ∧ dlisted.toInt ≤ 9) ∧ (0 ≤ dshared.toInt ∧ dshared.toInt ≤ 9) ∧ (0 ≤ dsailing.toInt ∧ dsailing.toInt ≤ 3)) (g0 : 0 ≤ p0.toInt ∧ p0.toInt ≤ 9) : Met l yX0_tryFrom (wl yX0_tryFrom cX0_tryFrom 4 none) (RM 12 0 0) (mu_P D E [.ref dh, .int p0, .int p1] [(dh, .inr (0, G0 da dlisted dshared dsailing dleastWorst)), ((da 0), .inl (E 0, 9, .inl df0)), ((da 1), .inl (E 0, 9, .inl df1)), ((da 2), .inl (E 0, 9, .inl df2)), ((da 3), .inl (E 0, 3, .inl df3)), ((da 4), .inl (E 0, 3, .inl df4))] sz) (va_Qv (fun (u : (Nat → Int32) × (Nat → Int32) × (Nat → Int32) × (Int32)) => True) (mu_B D (va_A [(dh, .inr (0, G0 da dlisted dshared dsailing dleastWorst)), ((da 0), .inl (E 0, 9, .inl df0)), ((da 1), .inl (E 0, 9, .inl df1)), ((da 2), .inl (E 0, 9, .inl df2)), ((da 3), .inl (E 0, 3, .inl df3)), ((da 4), .inl (E 0, 3, .inl df4))] sz) (fun (u : (Nat → Int32) × (Nat → Int32) × (Nat → Int32) × (Int32)) => [(dh, .inr (0, G0 da dlisted dshared dsailing u.2.2.2)), ((da 0), .inl (E 0, 9, .inl df0)), ((da 1), .inl (E 0, 9, .inl u.1)), ((da 2), .inl (E 0, 9, .inl u.2.1)), ((da 3), .inl (E 0, 3, .inl df3)), ((da 4), .inl (E 0, 3, .inl u.2.2.1))])) (va_A [(dh, .inr (0, G0 da dlisted dshared dsailing dleastWorst)), ((da 0), .inl (E 0, 9, .inl df0)), ((da 1), .inl (E 0, 9, .inl df1)), ((da 2), .inl (E 0, 9, .inl df2)), ((da 3), .inl (E 0, 3, .inl df3)), ((da 4), .inl (E 0, 3, .inl df4))] sz)) 0 0 (va_A [(dh, .inr (0, G0 da dlisted dshared dsailing dleastWorst)), ((da 0), .inl (E 0, 9, .inl df0)), ((da 1), .inl (E 0, 9, .inl df1)), ((da 2), .inl (E 0, 9, .inl df2)), ((da 3), .inl (E 0, 3, .inl df3)), ((da 4), .inl (E 0, 3, .inl df4))] sz) := by
  refine Met.ofW (cc := cX0_tryFrom) (maxL := 4) (ret := none) (by decide) rfl ?_
  intro p e s m args below meth c s₁ B hml hv
  obtain ⟨rfl, hsz, hP, hK, hD0⟩ := hv
  have hx := B.exec; have hb := B.bytes; have hr := B.returns
  have hts := atoms_spec (ws := wl yX0_tryFrom cX0_tryFrom 4 none) B.pre
  have htb : ∀ w ∈ tb, w.before _ s = true := fun w h => hts w (List.mem_cons_of_mem _ h)
  have hown : s.vm.findClass RX0 = some m.cls := findClass_of_methodNamed B.named
  have hlocks := B.notSynchronized
  subst hsz
  have hD := hD0.self (sz := s.heap.size)
  generalize hAe : va_A [(dh, .inr (0, G0 da dlisted dshared dsailing dleastWorst)), ((da 0), .inl (E 0, 9, .inl df0)), ((da 1), .inl (E 0, 9, .inl df1)), ((da 2), .inl (E 0, 9, .inl df2)), ((da 3), .inl (E 0, 3, .inl df3)), ((da 4), .inl (E 0, 3, .inl df4))] s.heap.size = A at hD ⊢
  have hA : ∀ q : Nat, s.heap.size ≤ q → A q := fun q h => by rw [← hAe]; exact Or.inr h
  have hS : va_S A s.heap s.heap [] := va_S.rf
  have hP : va_P D vwCl [(dh, .inr (0, G0 da dlisted dshared dsailing dleastWorst)), ((da 0), .inl (E 0, 9, .inl df0)), ((da 1), .inl (E 0, 9, .inl df1)), ((da 2), .inl (E 0, 9, .inl df2)), ((da 3), .inl (E 0, 3, .inl df3)), ((da 4), .inl (E 0, 3, .inl df4))] s.heap := hP
  have hl := lv_entry ([.ref dh, .int p0, .int p1]) (n := 4) (Nat.le_of_ble_eq_true rfl)
  rw [lg_entry_eq]
  generalize (lg_sl ([.ref dh, .int p0, .int p1]) ++ List.replicate (4 - (lg_sl ([.ref dh, .int p0, .int p1])).length) Slot.unset).toArray = ls at hl ⊢
  have hl : lv_has ls 4 [(0, .ref dh), (1, .int p0), (2, .int p1)] := hl
  have lo_p0 := i_lo p0; have hi_p0 := i_hi p0
  have lo_p1 := i_lo p1; have hi_p1 := i_hi p1
  refine lv_iload_n hx hb dX0_tryFrom_0 rfl (lv_at hl 1 rfl) ?_
  refine lv_aload_n hx hb dX0_tryFrom_1 rfl (lv_at hl 0 rfl) ?_
  refine va_get (D := D) (ci := 0) (v := .int dlisted) (C := RX0) (T := TX0) (N := 9) hx hb htb iX0 hown hK.1 hP 0 rfl rfl 5 (by decide) (htb _ k_196) (fun _ h9 => h9) rfl dX0_tryFrom_2 ?_
  refine lv_icmp_ge (tgt := 14) hx hb dX0_tryFrom_5 (by decide) (fun c_1 => ?_) (fun c_1 => ?_)
  ·
    have ic_1 : dlisted.toInt ≤ p0.toInt := by first | exact (g_le rfl rfl).mp c_1 | (have h := mt (g_lt rfl rfl).mpr c_1; omega)
    clear c_1
    refine lv_aload_n hx hb dX0_tryFrom_14 rfl (lv_at hl 0 rfl) ?_
    have hPc := hP.sub (ws' := [(dh, .inr (0, G0 da dlisted dshared dsailing dleastWorst)), ((da 0), .inl (E 0, 9, .inl df0)), ((da 1), .inl (E 0, 9, .inl df1)), ((da 2), .inl (E 0, 9, .inl df2)), ((da 3), .inl (E 0, 3, .inl df3))]) [0, 1, 2, 3, 4] rfl
    have hDc := hD.sub (ws' := [(dh, .inr (0, G0 da dlisted dshared dsailing dleastWorst)), ((da 0), .inl (E 0, 9, .inl df0)), ((da 1), .inl (E 0, 9, .inl df1)), ((da 2), .inl (E 0, 9, .inl df2)), ((da 3), .inl (E 0, 3, .inl df3))]) [0, 1, 2, 3, 4] (by decide) rfl
    refine aft_v (runMV (rest := []) (As := []) hx hb hml hown htb hK (g_X0_keepIfBetter l D E dh da dlisted dshared dsailing dleastWorst df0 df1 df2 df3 _ (by (try dsimp only); omega)) ok_X0_keepIfBetter k_909 k_911 ks_35 k_7 k_912 ⟨(Nat.le_of_ble_eq_true rfl), (Nat.le_of_ble_eq_true rfl)⟩ ⟨(Nat.le_of_ble_eq_true rfl), (Nat.le_of_ble_eq_true rfl)⟩ hl.1 (Nat.le_of_ble_eq_true rfl) rfl rfl dX0_tryFrom_15 hPc hDc rfl rfl 0 rfl) hP hD hS hA [0, 1, 2, 3, 4] [5] (wr := [((da 4), .inl (E 0, 3, .inl df4))]) rfl rfl (by decide) (by decide) (fun u_4 H locs hw_3 hP hD hS => ?_)
    clear hPc hDc
    obtain ⟨w_5, w_6⟩ := u_4
    try dsimp only at hw_3
    have hP : va_P D vwCl [((da 4), .inl (E 0, 3, .inl df4)), (dh, .inr (0, G0 da dlisted dshared dsailing w_6)), ((da 0), .inl (E 0, 9, .inl df0)), ((da 1), .inl (E 0, 9, .inl df1)), ((da 2), .inl (E 0, 9, .inl w_5)), ((da 3), .inl (E 0, 3, .inl df3))] H := hP
    have hD := toW hP hD rfl
    have hP9 := hP.sub (ws' := [(dh, .inr (0, G0 da dlisted dshared dsailing w_6)), ((da 0), .inl (E 0, 9, .inl df0)), ((da 1), .inl (E 0, 9, .inl df1)), ((da 2), .inl (E 0, 9, .inl w_5)), ((da 3), .inl (E 0, 3, .inl df3)), ((da 4), .inl (E 0, 3, .inl df4))]) [1, 2, 3, 4, 5, 0] rfl
    have hD9 := hD.sub (ws' := [(dh, .inr (0, G0 da dlisted dshared dsailing w_6)), ((da 0), .inl (E 0, 9, .inl df0)), ((da 1), .inl (E 0, 9, .inl df1)), ((da 2), .inl (E 0, 9, .inl w_5)), ((da 3), .inl (E 0, 3, .inl df3)), ((da 4), .inl (E 0, 3, .inl df4))]) [1, 2, 3, 4, 5, 0] (by decide) rfl
    exact W.vret hx hb hr (fun t ht hW => ⟨⟨(df1, w_5, df4, w_6), rfl, trivial, by rw [ht]; exact hP9, hD9⟩, hS.F ht⟩) hS.2.2 dX0_tryFrom_18
  ·
    have ic_1 : p0.toInt < dlisted.toInt := by first | exact (g_lt rfl rfl).mp c_1 | (have h := mt (g_le rfl rfl).mpr c_1; omega)
    clear c_1
    refine lv_iload_n hx hb dX0_tryFrom_8 rfl (lv_at hl 1 rfl) ?_
    refine lv_bipush (v := 9) hx hb dX0_tryFrom_9 (by decide) ?_
    refine lv_icmp_lt (tgt := 19) hx hb dX0_tryFrom_11 (by decide) (fun c_7 => ?_) (fun c_7 => absurd (by rw [g_lt rfl t_9]; omega) c_7)
    refine lv_iconst (v := 0) hx hb dX0_tryFrom_19 (by decide) ?_
    refine lv_istore_n (lv' := [(3, .int 0), (0, .ref dh), (1, .int p0), (2, .int p1)]) hx hb dX0_tryFrom_20 rfl hl (by decide) rfl (fun ls hl => ?_)
    have loop_8 : ∀ (N_10 : Nat) (L3_21 : Int32) (dleastWorst_21 : Int32) (df1_21 : Nat → Int32) (df2_21 : Nat → Int32) (df4_21 : Nat → Int32) (H : Heap) (locs : List Loc) (ls : Array Slot), 3 - L3_21.toInt < (N_10 : Int) → (0 ≤ L3_21.toInt ∧ L3_21.toInt ≤ 3) → va_P D vwCl [(dh, .inr (0, G0 da dlisted dshared dsailing dleastWorst_21)), ((da 0), .inl (E 0, 9, .inl df0)), ((da 1), .inl (E 0, 9, .inl df1_21)), ((da 2), .inl (E 0, 9, .inl df2_21)), ((da 3), .inl (E 0, 3, .inl df3)), ((da 4), .inl (E 0, 3, .inl df4_21))] H → va_D A [(dh, .inr (0, G0 da dlisted dshared dsailing dleastWorst_21)), ((da 0), .inl (E 0, 9, .inl df0)), ((da 1), .inl (E 0, 9, .inl df1_21)), ((da 2), .inl (E 0, 9, .inl df2_21)), ((da 3), .inl (E 0, 3, .inl df3)), ((da 4), .inl (E 0, 3, .inl df4_21))] → va_S A s.heap H locs → lv_has ls 4 [(3, .int L3_21), (0, .ref dh), (1, .int p0), (2, .int p1)] → W p l e (headSpec (wl yX0_tryFrom cX0_tryFrom 4 none) (RM 12 0 0)).room s m [Value.ref dh, .int p0, .int p1].toArray below meth c H locs 0 0 (MQ below (va_Qv (fun (u : (Nat → Int32) × (Nat → Int32) × (Nat → Int32) × (Int32)) => True) (mu_B D A (fun (u : (Nat → Int32) × (Nat → Int32) × (Nat → Int32) × (Int32)) => [(dh, .inr (0, G0 da dlisted dshared dsailing u.2.2.2)), ((da 0), .inl (E 0, 9, .inl df0)), ((da 1), .inl (E 0, 9, .inl u.1)), ((da 2), .inl (E 0, 9, .inl u.2.1)), ((da 3), .inl (E 0, 3, .inl df3)), ((da 4), .inl (E 0, 3, .inl u.2.2.1))])) A) [Value.ref dh, .int p0, .int p1].toArray s 0 0 A) (F0 m 21 ls []) := by
      intro N_10
      induction N_10 with
      | zero => intro L3_21 dleastWorst_21 df1_21 df2_21 df4_21 H locs ls hm v0_21 _ _ _ _; exfalso; omega
      | succ N_10 ih_9 =>
        intro L3_21 dleastWorst_21 df1_21 df2_21 df4_21 H locs ls hm v0_21 hP hD hS hl
        have lo_L3_21 := i_lo L3_21; have hi_L3_21 := i_hi L3_21
        have lo_dleastWorst_21 := i_lo dleastWorst_21; have hi_dleastWorst_21 := i_hi dleastWorst_21
        refine lv_iload_n hx hb dX0_tryFrom_21 rfl (lv_at hl 0 rfl) ?_
        refine lv_aload_n hx hb dX0_tryFrom_22 rfl (lv_at hl 1 rfl) ?_
        refine va_get (D := D) (ci := 0) (v := .int dsailing) (C := RX0) (T := TX0) (N := 9) hx hb htb iX0 hown hK.1 hP 0 rfl rfl 7 (by decide) (htb _ k_200) (fun _ h9 => h9) rfl dX0_tryFrom_23 ?_
        refine lv_icmp_ge (tgt := 89) hx hb dX0_tryFrom_26 (by decide) (fun c_11 => ?_) (fun c_11 => ?_)
        ·
          have ic_11 : dsailing.toInt ≤ L3_21.toInt := by first | exact (g_le rfl rfl).mp c_11 | (have h := mt (g_lt rfl rfl).mpr c_11; omega)
          clear c_11
          refine lv_iload_n hx hb dX0_tryFrom_89 rfl (lv_at hl 3 rfl) ?_
          refine lv_if_le (tgt := 110) hx hb dX0_tryFrom_90 (by decide) (fun c_12 => ?_) (fun c_12 => ?_)
          ·
            have ic_12 : p1.toInt ≤ 0 := by first | exact (g_le rfl t_0).mp c_12 | (have h := mt (g_lt t_0 rfl).mpr c_12; omega)
            clear c_12
            have hP9 := hP.sub (ws' := [(dh, .inr (0, G0 da dlisted dshared dsailing dleastWorst_21)), ((da 0), .inl (E 0, 9, .inl df0)), ((da 1), .inl (E 0, 9, .inl df1_21)), ((da 2), .inl (E 0, 9, .inl df2_21)), ((da 3), .inl (E 0, 3, .inl df3)), ((da 4), .inl (E 0, 3, .inl df4_21))]) [0, 1, 2, 3, 4, 5] rfl
            have hD9 := hD.sub (ws' := [(dh, .inr (0, G0 da dlisted dshared dsailing dleastWorst_21)), ((da 0), .inl (E 0, 9, .inl df0)), ((da 1), .inl (E 0, 9, .inl df1_21)), ((da 2), .inl (E 0, 9, .inl df2_21)), ((da 3), .inl (E 0, 3, .inl df3)), ((da 4), .inl (E 0, 3, .inl df4_21))]) [0, 1, 2, 3, 4, 5] (by decide) rfl
            exact W.vret hx hb hr (fun t ht hW => ⟨⟨(df1_21, df2_21, df4_21, dleastWorst_21), rfl, trivial, by rw [ht]; exact hP9, hD9⟩, hS.F ht⟩) hS.2.2 dX0_tryFrom_110
          ·
            have ic_12 : 0 < p1.toInt := by first | exact (g_lt t_0 rfl).mp c_12 | (have h := mt (g_le rfl t_0).mpr c_12; omega)
            clear c_12
            refine lv_aload_n hx hb dX0_tryFrom_93 rfl (lv_at hl 1 rfl) ?_
            refine va_get (D := D) (ci := 0) (v := .ref (da 1)) (C := RX0) (T := TX0) (N := 9) hx hb htb iX0 hown hK.1 hP 0 rfl rfl 1 (by decide) (htb _ k_191) (fun _ h9 => h9) rfl dX0_tryFrom_94 ?_
            refine lv_iload_n hx hb dX0_tryFrom_97 rfl (lv_at hl 2 rfl) ?_
            refine lv_iconst (v := (-1)) hx hb dX0_tryFrom_98 (by decide) ?_
            refine va_iast hx hb hK.1 hP hD hS 2 0 rfl rfl (g_in rfl (by omega) (by omega)) dX0_tryFrom_99 (fun H locs hP hD hS => ?_)
            have hP : va_P D vwCl [(dh, .inr (0, G0 da dlisted dshared dsailing dleastWorst_21)), ((da 0), .inl (E 0, 9, .inl df0)), ((da 1), .inl (E 0, 9, .inl (upd df1_21 (p0 : Int32).toNatClampNeg (-1)))), ((da 2), .inl (E 0, 9, .inl df2_21)), ((da 3), .inl (E 0, 3, .inl df3)), ((da 4), .inl (E 0, 3, .inl df4_21))] H := hP
            have hD := toW hP hD rfl
            refine lv_aload_n hx hb dX0_tryFrom_100 rfl (lv_at hl 1 rfl) ?_
            refine lv_iload_n hx hb dX0_tryFrom_101 rfl (lv_at hl 2 rfl) ?_
            refine lv_iconst (v := 1) hx hb dX0_tryFrom_102 (by decide) ?_
            refine lv_iadd hx hb dX0_tryFrom_103 ?_
            refine lv_topi (fun z_13 ez_13 => ?_)
            have jz_13 : z_13.toInt = p0.toInt + 1 := by rw [ez_13]; exact g_add rfl t_1 (by omega) (by omega)
            refine lv_iload_n hx hb dX0_tryFrom_104 rfl (lv_at hl 3 rfl) ?_
            refine lv_iconst (v := 1) hx hb dX0_tryFrom_105 (by decide) ?_
            refine lv_isub hx hb dX0_tryFrom_106 ?_
            refine lv_topi (fun z_14 ez_14 => ?_)
            have jz_14 : z_14.toInt = p1.toInt - 1 := by rw [ez_14]; exact g_sub rfl t_1 (by omega) (by omega)
            have hPc := hP.sub (ws' := [(dh, .inr (0, G0 da dlisted dshared dsailing dleastWorst_21)), ((da 0), .inl (E 0, 9, .inl df0)), ((da 1), .inl (E 0, 9, .inl (upd df1_21 (p0 : Int32).toNatClampNeg (-1)))), ((da 2), .inl (E 0, 9, .inl df2_21)), ((da 3), .inl (E 0, 3, .inl df3)), ((da 4), .inl (E 0, 3, .inl df4_21))]) [0, 1, 2, 3, 4, 5] rfl
            have hDc := hD.sub (ws' := [(dh, .inr (0, G0 da dlisted dshared dsailing dleastWorst_21)), ((da 0), .inl (E 0, 9, .inl df0)), ((da 1), .inl (E 0, 9, .inl (upd df1_21 (p0 : Int32).toNatClampNeg (-1)))), ((da 2), .inl (E 0, 9, .inl df2_21)), ((da 3), .inl (E 0, 3, .inl df3)), ((da 4), .inl (E 0, 3, .inl df4_21))]) [0, 1, 2, 3, 4, 5] (by decide) rfl
            refine aft_v (runMV (rest := []) (As := [.int z_13, .int z_14]) hx hb hml hown htb hK (g_X0_tryFrom_8 l D E dh da dlisted dshared dsailing dleastWorst_21 df0 (upd df1_21 (p0 : Int32).toNatClampNeg (-1)) df2_21 df3 df4_21 z_13 z_14 _ (by (try dsimp only); omega) (by (try dsimp only); omega)) ok_X0_tryFrom k_905 k_907 ks_34 k_7 k_908 ⟨(Nat.le_of_ble_eq_true rfl), (Nat.le_of_ble_eq_true rfl)⟩ ⟨(Nat.le_of_ble_eq_true rfl), (Nat.le_of_ble_eq_true rfl)⟩ hl.1 (Nat.le_of_ble_eq_true rfl) rfl rfl dX0_tryFrom_107 hPc hDc rfl rfl 0 rfl) hP hD hS hA [0, 1, 2, 3, 4, 5] [] (wr := ([] : va_W)) rfl rfl (by decide) (by decide) (fun u_17 H locs hw_16 hP hD hS => ?_)
            clear hPc hDc
            obtain ⟨w_18, w_19, w_20, w_21⟩ := u_17
            try dsimp only at hw_16
            have hP : va_P D vwCl [(dh, .inr (0, G0 da dlisted dshared dsailing w_21)), ((da 0), .inl (E 0, 9, .inl df0)), ((da 1), .inl (E 0, 9, .inl w_18)), ((da 2), .inl (E 0, 9, .inl w_19)), ((da 3), .inl (E 0, 3, .inl df3)), ((da 4), .inl (E 0, 3, .inl w_20))] H := hP
            have hD := toW hP hD rfl
            have hP9 := hP.sub (ws' := [(dh, .inr (0, G0 da dlisted dshared dsailing w_21)), ((da 0), .inl (E 0, 9, .inl df0)), ((da 1), .inl (E 0, 9, .inl w_18)), ((da 2), .inl (E 0, 9, .inl w_19)), ((da 3), .inl (E 0, 3, .inl df3)), ((da 4), .inl (E 0, 3, .inl w_20))]) [0, 1, 2, 3, 4, 5] rfl
            have hD9 := hD.sub (ws' := [(dh, .inr (0, G0 da dlisted dshared dsailing w_21)), ((da 0), .inl (E 0, 9, .inl df0)), ((da 1), .inl (E 0, 9, .inl w_18)), ((da 2), .inl (E 0, 9, .inl w_19)), ((da 3), .inl (E 0, 3, .inl df3)), ((da 4), .inl (E 0, 3, .inl w_20))]) [0, 1, 2, 3, 4, 5] (by decide) rfl
            exact W.vret hx hb hr (fun t ht hW => ⟨⟨(w_18, w_19, w_20, w_21), rfl, trivial, by rw [ht]; exact hP9, hD9⟩, hS.F ht⟩) hS.2.2 dX0_tryFrom_110
        ·
          have ic_11 : L3_21.toInt < dsailing.toInt := by first | exact (g_lt rfl rfl).mp c_11 | (have h := mt (g_le rfl rfl).mpr c_11; omega)
          clear c_11
          refine lv_iload_n hx hb dX0_tryFrom_29 rfl (lv_at hl 0 rfl) ?_
          refine lv_aload_n hx hb dX0_tryFrom_30 rfl (lv_at hl 1 rfl) ?_
          refine va_get (D := D) (ci := 0) (v := .ref (da 4)) (C := RX0) (T := TX0) (N := 9) hx hb htb iX0 hown hK.1 hP 0 rfl rfl 4 (by decide) (htb _ k_195) (fun _ h9 => h9) rfl dX0_tryFrom_31 ?_
          refine va_alen hx hb hK.1 hP 5 0 rfl rfl (v := 3) (show Int32.ofNat 3 = 3 by decide) dX0_tryFrom_34 ?_
          refine lv_icmp_ge (tgt := 89) hx hb dX0_tryFrom_35 (by decide) (fun c_22 => absurd c_22 (by rw [g_le t_3 rfl]; omega)) (fun c_22 => ?_)
          refine lv_aload_n hx hb dX0_tryFrom_38 rfl (lv_at hl 1 rfl) ?_
          refine va_get (D := D) (ci := 0) (v := .ref (da 4)) (C := RX0) (T := TX0) (N := 9) hx hb htb iX0 hown hK.1 hP 0 rfl rfl 4 (by decide) (htb _ k_195) (fun _ h9 => h9) rfl dX0_tryFrom_39 ?_
          refine lv_iload_n hx hb dX0_tryFrom_42 rfl (lv_at hl 0 rfl) ?_
          refine va_iald hx hb hK.1 hP 5 0 rfl rfl (g_in rfl (by omega) (by omega)) dX0_tryFrom_43 ?_
          refine lv_topi (fun z_23 ez_23 => ?_)
          have kz_23 := congrArg Int32.toInt ez_23
          refine lv_iconst (v := 3) hx hb dX0_tryFrom_44 (by decide) ?_
          refine lv_icmp_ge (tgt := 83) hx hb dX0_tryFrom_45 (by decide) (fun c_24 => ?_) (fun c_24 => ?_)
          ·
            have ic_24 : 3 ≤ z_23.toInt := by first | exact (g_le t_3 rfl).mp c_24 | (have h := mt (g_lt rfl t_3).mpr c_24; omega)
            clear c_24
            obtain ⟨z_25, ez_25⟩ : ∃ y : Int32, y = L3_21 + 1 := ⟨_, rfl⟩
            have jz_25 : z_25.toInt = L3_21.toInt + 1 := by rw [ez_25]; exact g_add rfl t_1 (by omega) (by omega)
            refine lv_iinc (v := z_25) (lv' := [(3, .int z_25), (0, .ref dh), (1, .int p0), (2, .int p1)]) hx hb dX0_tryFrom_83 hl (k := 0) rfl (by rw [ez_25]; rfl) (by decide) rfl (fun ls hl => ?_)
            refine lv_goto (tgt := 21) hx hb dX0_tryFrom_86 (by decide) ?_
            exact ih_9 z_25 dleastWorst_21 df1_21 df2_21 df4_21 _ _ _ (by (try dsimp only); omega) (by (try dsimp only); omega) hP hD hS (lv_sub hl [0, 1, 2, 3] rfl)
          ·
            have ic_24 : z_23.toInt < 3 := by first | exact (g_lt rfl t_3).mp c_24 | (have h := mt (g_le t_3 rfl).mpr c_24; omega)
            clear c_24
            refine lv_aload_n hx hb dX0_tryFrom_48 rfl (lv_at hl 1 rfl) ?_
            refine va_get (D := D) (ci := 0) (v := .ref (da 1)) (C := RX0) (T := TX0) (N := 9) hx hb htb iX0 hown hK.1 hP 0 rfl rfl 1 (by decide) (htb _ k_191) (fun _ h9 => h9) rfl dX0_tryFrom_49 ?_
            refine lv_iload_n hx hb dX0_tryFrom_52 rfl (lv_at hl 2 rfl) ?_
            refine lv_iload_n hx hb dX0_tryFrom_53 rfl (lv_at hl 0 rfl) ?_
            refine va_iast hx hb hK.1 hP hD hS 2 0 rfl rfl (g_in rfl (by omega) (by omega)) dX0_tryFrom_54 (fun H locs hP hD hS => ?_)
            have hP : va_P D vwCl [(dh, .inr (0, G0 da dlisted dshared dsailing dleastWorst_21)), ((da 0), .inl (E 0, 9, .inl df0)), ((da 1), .inl (E 0, 9, .inl (upd df1_21 (p0 : Int32).toNatClampNeg L3_21))), ((da 2), .inl (E 0, 9, .inl df2_21)), ((da 3), .inl (E 0, 3, .inl df3)), ((da 4), .inl (E 0, 3, .inl df4_21))] H := hP
            have hD := toW hP hD rfl
            refine lv_aload_n hx hb dX0_tryFrom_55 rfl (lv_at hl 1 rfl) ?_
            refine va_get (D := D) (ci := 0) (v := .ref (da 4)) (C := RX0) (T := TX0) (N := 9) hx hb htb iX0 hown hK.1 hP 0 rfl rfl 4 (by decide) (htb _ k_195) (fun _ h9 => h9) rfl dX0_tryFrom_56 ?_
            refine lv_iload_n hx hb dX0_tryFrom_59 rfl (lv_at hl 0 rfl) ?_
            refine lv_dup2_11 hx hb dX0_tryFrom_60 rfl rfl ?_
            refine va_iald hx hb hK.1 hP 5 0 rfl rfl (g_in rfl (by omega) (by omega)) dX0_tryFrom_61 ?_
            refine lv_topi (fun z_26 ez_26 => ?_)
            have kz_26 := congrArg Int32.toInt ez_26
            refine lv_iconst (v := 1) hx hb dX0_tryFrom_62 (by decide) ?_
            refine lv_iadd hx hb dX0_tryFrom_63 ?_
            refine lv_topi (fun z_27 ez_27 => ?_)
            refine va_iast hx hb hK.1 hP hD hS 5 0 rfl rfl (g_in rfl (by omega) (by omega)) dX0_tryFrom_64 (fun H locs hP hD hS => ?_)
            have hP : va_P D vwCl [(dh, .inr (0, G0 da dlisted dshared dsailing dleastWorst_21)), ((da 0), .inl (E 0, 9, .inl df0)), ((da 1), .inl (E 0, 9, .inl (upd df1_21 (p0 : Int32).toNatClampNeg L3_21))), ((da 2), .inl (E 0, 9, .inl df2_21)), ((da 3), .inl (E 0, 3, .inl df3)), ((da 4), .inl (E 0, 3, .inl (upd df4_21 (L3_21 : Int32).toNatClampNeg z_27)))] H := hP
            have hD := toW hP hD rfl
            refine lv_aload_n hx hb dX0_tryFrom_65 rfl (lv_at hl 1 rfl) ?_
            refine lv_iload_n hx hb dX0_tryFrom_66 rfl (lv_at hl 2 rfl) ?_
            refine lv_iconst (v := 1) hx hb dX0_tryFrom_67 (by decide) ?_
            refine lv_iadd hx hb dX0_tryFrom_68 ?_
            refine lv_topi (fun z_28 ez_28 => ?_)
            have jz_28 : z_28.toInt = p0.toInt + 1 := by rw [ez_28]; exact g_add rfl t_1 (by omega) (by omega)
            refine lv_iload_n hx hb dX0_tryFrom_69 rfl (lv_at hl 3 rfl) ?_
            have hPc := hP.sub (ws' := [(dh, .inr (0, G0 da dlisted dshared dsailing dleastWorst_21)), ((da 0), .inl (E 0, 9, .inl df0)), ((da 1), .inl (E 0, 9, .inl (upd df1_21 (p0 : Int32).toNatClampNeg L3_21))), ((da 2), .inl (E 0, 9, .inl df2_21)), ((da 3), .inl (E 0, 3, .inl df3)), ((da 4), .inl (E 0, 3, .inl (upd df4_21 (L3_21 : Int32).toNatClampNeg z_27)))]) [0, 1, 2, 3, 4, 5] rfl
            have hDc := hD.sub (ws' := [(dh, .inr (0, G0 da dlisted dshared dsailing dleastWorst_21)), ((da 0), .inl (E 0, 9, .inl df0)), ((da 1), .inl (E 0, 9, .inl (upd df1_21 (p0 : Int32).toNatClampNeg L3_21))), ((da 2), .inl (E 0, 9, .inl df2_21)), ((da 3), .inl (E 0, 3, .inl df3)), ((da 4), .inl (E 0, 3, .inl (upd df4_21 (L3_21 : Int32).toNatClampNeg z_27)))]) [0, 1, 2, 3, 4, 5] (by decide) rfl
            refine aft_v (runMV (rest := []) (As := [.int z_28, .int p1]) hx hb hml hown htb hK (g_X0_tryFrom_8 l D E dh da dlisted dshared dsailing dleastWorst_21 df0 (upd df1_21 (p0 : Int32).toNatClampNeg L3_21) df2_21 df3 (upd df4_21 (L3_21 : Int32).toNatClampNeg z_27) z_28 p1 _ (by (try dsimp only); omega) (by (try dsimp only); omega)) ok_X0_tryFrom k_905 k_907 ks_34 k_7 k_908 ⟨(Nat.le_of_ble_eq_true rfl), (Nat.le_of_ble_eq_true rfl)⟩ ⟨(Nat.le_of_ble_eq_true rfl), (Nat.le_of_ble_eq_true rfl)⟩ hl.1 (Nat.le_of_ble_eq_true rfl) rfl rfl dX0_tryFrom_70 hPc hDc rfl rfl 0 rfl) hP hD hS hA [0, 1, 2, 3, 4, 5] [] (wr := ([] : va_W)) rfl rfl (by decide) (by decide) (fun u_31 H locs hw_30 hP hD hS => ?_)
            clear hPc hDc
            obtain ⟨w_32, w_33, w_34, w_35⟩ := u_31
            try dsimp only at hw_30
            have hP : va_P D vwCl [(dh, .inr (0, G0 da dlisted dshared dsailing w_35)), ((da 0), .inl (E 0, 9, .inl df0)), ((da 1), .inl (E 0, 9, .inl w_32)), ((da 2), .inl (E 0, 9, .inl w_33)), ((da 3), .inl (E 0, 3, .inl df3)), ((da 4), .inl (E 0, 3, .inl w_34))] H := hP
            have hD := toW hP hD rfl
            refine lv_aload_n hx hb dX0_tryFrom_73 rfl (lv_at hl 1 rfl) ?_
            refine va_get (D := D) (ci := 0) (v := .ref (da 4)) (C := RX0) (T := TX0) (N := 9) hx hb htb iX0 hown hK.1 hP 0 rfl rfl 4 (by decide) (htb _ k_195) (fun _ h9 => h9) rfl dX0_tryFrom_74 ?_
            refine lv_iload_n hx hb dX0_tryFrom_77 rfl (lv_at hl 0 rfl) ?_
            refine lv_dup2_11 hx hb dX0_tryFrom_78 rfl rfl ?_
            refine va_iald hx hb hK.1 hP 5 0 rfl rfl (g_in rfl (by omega) (by omega)) dX0_tryFrom_79 ?_
            refine lv_topi (fun z_36 ez_36 => ?_)
            have kz_36 := congrArg Int32.toInt ez_36
            refine lv_iconst (v := 1) hx hb dX0_tryFrom_80 (by decide) ?_
            refine lv_isub hx hb dX0_tryFrom_81 ?_
            refine lv_topi (fun z_37 ez_37 => ?_)
            refine va_iast hx hb hK.1 hP hD hS 5 0 rfl rfl (g_in rfl (by omega) (by omega)) dX0_tryFrom_82 (fun H locs hP hD hS => ?_)
            have hP : va_P D vwCl [(dh, .inr (0, G0 da dlisted dshared dsailing w_35)), ((da 0), .inl (E 0, 9, .inl df0)), ((da 1), .inl (E 0, 9, .inl w_32)), ((da 2), .inl (E 0, 9, .inl w_33)), ((da 3), .inl (E 0, 3, .inl df3)), ((da 4), .inl (E 0, 3, .inl (upd w_34 (L3_21 : Int32).toNatClampNeg z_37)))] H := hP
            have hD := toW hP hD rfl
            obtain ⟨z_38, ez_38⟩ : ∃ y : Int32, y = L3_21 + 1 := ⟨_, rfl⟩
            have jz_38 : z_38.toInt = L3_21.toInt + 1 := by rw [ez_38]; exact g_add rfl t_1 (by omega) (by omega)
            refine lv_iinc (v := z_38) (lv' := [(3, .int z_38), (0, .ref dh), (1, .int p0), (2, .int p1)]) hx hb dX0_tryFrom_83 hl (k := 0) rfl (by rw [ez_38]; rfl) (by decide) rfl (fun ls hl => ?_)
            refine lv_goto (tgt := 21) hx hb dX0_tryFrom_86 (by decide) ?_
            exact ih_9 z_38 w_35 w_32 w_33 (upd w_34 (L3_21 : Int32).toNatClampNeg z_37) _ _ _ (by (try dsimp only); omega) (by (try dsimp only); omega) hP hD hS (lv_sub hl [0, 1, 2, 3] rfl)
    exact loop_8 4 0 dleastWorst df1 df2 df4 _ _ _ (by have h0 := t_0; (try dsimp only); omega) (by have h0 := t_0; (try dsimp only); omega) hP hD hS (lv_sub hl [0, 1, 2, 3] rfl)
set_option maxHeartbeats 4000000 in
set_option maxRecDepth 100000 in
theorem g_X0_shareOut (l : Launch) (D : va_G) (E : Nat → Nat) (dh : Nat) (da : Nat → Nat) (dlisted : Int32) (dshared : Int32) (dsailing : Int32) (dleastWorst : Int32) (df0 : Nat → Int32) (df1 : Nat → Int32) (df2 : Nat → Int32) (df3 : Nat → Int32) (df4 : Nat → Int32) (p0 : Int32) (p1 : Int32) (p2 : Int32) (p3 : Int32) (sz : Nat) (hi_d : (0 ≤ dlisted.toInt ∧ dlisted.toInt ≤ 9) ∧ (0 ≤ dshared.toInt ∧ dshared.toInt ≤ 9) ∧ (0 ≤ dsailing.toInt ∧ dsailing.toInt ≤ 3)) : Met l yX0_shareOut (wl yX0_shareOut cX0_shareOut 6 (some .int)) (RM 13 0 0) (mu_P D E [.ref dh, .int p0, .int p1, .int p2, .int p3] [(dh, .inr (0, G0 da dlisted dshared dsailing dleastWorst)), ((da 0), .inl (E 0, 9, .inl df0)), ((da 1), .inl (E 0, 9, .inl df1)), ((da 2), .inl (E 0, 9, .inl df2)), ((da 3), .inl (E 0, 3, .inl df3)), ((da 4), .inl (E 0, 3, .inl df4))] sz) (va_Qi (fun (r : Int32) (u : (Nat → Int32) × (Nat → Int32) × (Nat → Int32) × (Nat → Int32) × (Int32) × (Int32) × (Int32) × (Int32)) => (0 ≤ u.2.2.2.2.2.1.toInt ∧ u.2.2.2.2.2.1.toInt ≤ 9) ∧ (0 ≤ u.2.2.2.2.2.2.1.toInt ∧ u.2.2.2.2.2.2.1.toInt ≤ 3) ∧ (0 ≤ u.2.2.2.2.2.2.2.toInt ∧ u.2.2.2.2.2.2.2.toInt ≤ 9) ∧ (u.2.2.2.2.2.1.toInt = 0)) (mu_B D (va_A [(dh, .inr (0, G0 da dlisted dshared dsailing dleastWorst)), ((da 0), .inl (E 0, 9, .inl df0)), ((da 1), .inl (E 0, 9, .inl df1)), ((da 2), .inl (E 0, 9, .inl df2)), ((da 3), .inl (E 0, 3, .inl df3)), ((da 4), .inl (E 0, 3, .inl df4))] sz) (fun (u : (Nat → Int32) × (Nat → Int32) × (Nat → Int32) × (Nat → Int32) × (Int32) × (Int32) × (Int32) × (Int32)) => [(dh, .inr (0, G0 da u.2.2.2.2.2.1 u.2.2.2.2.2.2.2 u.2.2.2.2.2.2.1 u.2.2.2.2.1)), ((da 0), .inl (E 0, 9, .inl df0)), ((da 1), .inl (E 0, 9, .inl u.1)), ((da 2), .inl (E 0, 9, .inl u.2.1)), ((da 3), .inl (E 0, 3, .inl u.2.2.1)), ((da 4), .inl (E 0, 3, .inl u.2.2.2.1))])) (va_A [(dh, .inr (0, G0 da dlisted dshared dsailing dleastWorst)), ((da 0), .inl (E 0, 9, .inl df0)), ((da 1), .inl (E 0, 9, .inl df1)), ((da 2), .inl (E 0, 9, .inl df2)), ((da 3), .inl (E 0, 3, .inl df3)), ((da 4), .inl (E 0, 3, .inl df4))] sz)) 0 0 (va_A [(dh, .inr (0, G0 da dlisted dshared dsailing dleastWorst)), ((da 0), .inl (E 0, 9, .inl df0)), ((da 1), .inl (E 0, 9, .inl df1)), ((da 2), .inl (E 0, 9, .inl df2)), ((da 3), .inl (E 0, 3, .inl df3)), ((da 4), .inl (E 0, 3, .inl df4))] sz) := by
  refine Met.ofW (cc := cX0_shareOut) (maxL := 6) (ret := (some .int)) (by decide) rfl ?_
  intro p e s m args below meth c s₁ B hml hv
  obtain ⟨rfl, hsz, hP, hK, hD0⟩ := hv
  have hx := B.exec; have hb := B.bytes; have hr := B.returns
  have hts := atoms_spec (ws := wl yX0_shareOut cX0_shareOut 6 (some .int)) B.pre
  have htb : ∀ w ∈ tb, w.before _ s = true := fun w h => hts w (List.mem_cons_of_mem _ h)
  have hown : s.vm.findClass RX0 = some m.cls := findClass_of_methodNamed B.named
  have hlocks := B.notSynchronized
  subst hsz
  have hD := hD0.self (sz := s.heap.size)
  generalize hAe : va_A [(dh, .inr (0, G0 da dlisted dshared dsailing dleastWorst)), ((da 0), .inl (E 0, 9, .inl df0)), ((da 1), .inl (E 0, 9, .inl df1)), ((da 2), .inl (E 0, 9, .inl df2)), ((da 3), .inl (E 0, 3, .inl df3)), ((da 4), .inl (E 0, 3, .inl df4))] s.heap.size = A at hD ⊢
  have hA : ∀ q : Nat, s.heap.size ≤ q → A q := fun q h => by rw [← hAe]; exact Or.inr h
  have hS : va_S A s.heap s.heap [] := va_S.rf
  have hP : va_P D vwCl [(dh, .inr (0, G0 da dlisted dshared dsailing dleastWorst)), ((da 0), .inl (E 0, 9, .inl df0)), ((da 1), .inl (E 0, 9, .inl df1)), ((da 2), .inl (E 0, 9, .inl df2)), ((da 3), .inl (E 0, 3, .inl df3)), ((da 4), .inl (E 0, 3, .inl df4))] s.heap := hP
  have hl := lv_entry ([.ref dh, .int p0, .int p1, .int p2, .int p3]) (n := 6) (Nat.le_of_ble_eq_true rfl)
  rw [lg_entry_eq]
  generalize (lg_sl ([.ref dh, .int p0, .int p1, .int p2, .int p3]) ++ List.replicate (6 - (lg_sl ([.ref dh, .int p0, .int p1, .int p2, .int p3])).length) Slot.unset).toArray = ls at hl ⊢
  have hl : lv_has ls 6 [(0, .ref dh), (1, .int p0), (2, .int p1), (3, .int p2), (4, .int p3)] := hl
  have lo_p0 := i_lo p0; have hi_p0 := i_hi p0
  have lo_p1 := i_lo p1; have hi_p1 := i_hi p1
  have lo_p2 := i_lo p2; have hi_p2 := i_hi p2
  have lo_p3 := i_lo p3; have hi_p3 := i_hi p3
  refine lv_aload_n hx hb dX0_shareOut_0 rfl (lv_at hl 0 rfl) ?_
  refine lv_iconst (v := 0) hx hb dX0_shareOut_1 (by decide) ?_
  refine lv_iload_n hx hb dX0_shareOut_2 rfl (lv_at hl 1 rfl) ?_
  refine lv_aload_n hx hb dX0_shareOut_3 rfl (lv_at hl 0 rfl) ?_
  refine va_get (D := D) (ci := 0) (v := .ref (da 3)) (C := RX0) (T := TX0) (N := 9) hx hb htb iX0 hown hK.1 hP 0 rfl rfl 3 (by decide) (htb _ k_194) (fun _ h9 => h9) rfl dX0_shareOut_4 ?_
  refine va_alen hx hb hK.1 hP 4 0 rfl rfl (v := 3) (show Int32.ofNat 3 = 3 by decide) dX0_shareOut_7 ?_
  refine va_mmin hx hb (by rw [hml, hl.1]) hown (htb _ k_902) (htb _ k_725) (htb _ k_11) (htb _ k_726) (Nat.le_of_ble_eq_true rfl) (Nat.le_of_ble_eq_true rfl) (Nat.le_of_ble_eq_true rfl) (Nat.le_of_ble_eq_true rfl) dX0_shareOut_8 ?_
  refine lv_topi (fun z_1 ez_1 => ?_)
  have jz_1 := g_min rfl t_3 ez_1
  refine va_mmax hx hb (by rw [hml, hl.1]) hown (htb _ k_903) (htb _ k_732) (htb _ k_11) (htb _ k_733) (Nat.le_of_ble_eq_true rfl) (Nat.le_of_ble_eq_true rfl) (Nat.le_of_ble_eq_true rfl) (Nat.le_of_ble_eq_true rfl) dX0_shareOut_11 ?_
  refine lv_topi (fun z_2 ez_2 => ?_)
  have jz_2 := g_max t_0 rfl ez_2
  refine va_put (D := D) (ci := 0) (v := .int z_2) (ty := .int) (C := RX0) (T := TX0) (N := 9) hx hb htb iX0 tyX0 tyX0_ok nmX0 hown hK.1 hP hD hS 0 rfl rfl 7 (by decide) (htb _ k_200) (fun _ h9 => h9) rfl (by decide +kernel) rfl rfl (Nat.le_of_ble_eq_true rfl) dX0_shareOut_14 (fun H locs hP hD hS => ?_)
  have hP : va_P D vwCl [(dh, .inr (0, G0 da dlisted dshared z_2 dleastWorst)), ((da 0), .inl (E 0, 9, .inl df0)), ((da 1), .inl (E 0, 9, .inl df1)), ((da 2), .inl (E 0, 9, .inl df2)), ((da 3), .inl (E 0, 3, .inl df3)), ((da 4), .inl (E 0, 3, .inl df4))] H := hP
  have hD := toW hP hD rfl
  refine lv_aload_n hx hb dX0_shareOut_17 rfl (lv_at hl 0 rfl) ?_
  refine va_get (D := D) (ci := 0) (v := .ref (da 3)) (C := RX0) (T := TX0) (N := 9) hx hb htb iX0 hown hK.1 hP 0 rfl rfl 3 (by decide) (htb _ k_194) (fun _ h9 => h9) rfl dX0_shareOut_18 ?_
  refine lv_iconst (v := 0) hx hb dX0_shareOut_21 (by decide) ?_
  refine lv_iload_n hx hb dX0_shareOut_22 rfl (lv_at hl 2 rfl) ?_
  refine va_iast hx hb hK.1 hP hD hS 4 0 rfl rfl (g_in t_0 (by decide) (by decide)) dX0_shareOut_23 (fun H locs hP hD hS => ?_)
  have hP : va_P D vwCl [(dh, .inr (0, G0 da dlisted dshared z_2 dleastWorst)), ((da 0), .inl (E 0, 9, .inl df0)), ((da 1), .inl (E 0, 9, .inl df1)), ((da 2), .inl (E 0, 9, .inl df2)), ((da 3), .inl (E 0, 3, .inl (upd df3 (0 : Int32).toNatClampNeg p1))), ((da 4), .inl (E 0, 3, .inl df4))] H := hP
  have hD := toW hP hD rfl
  refine lv_aload_n hx hb dX0_shareOut_24 rfl (lv_at hl 0 rfl) ?_
  refine va_get (D := D) (ci := 0) (v := .ref (da 3)) (C := RX0) (T := TX0) (N := 9) hx hb htb iX0 hown hK.1 hP 0 rfl rfl 3 (by decide) (htb _ k_194) (fun _ h9 => h9) rfl dX0_shareOut_25 ?_
  refine lv_iconst (v := 1) hx hb dX0_shareOut_28 (by decide) ?_
  refine lv_iload_n hx hb dX0_shareOut_29 rfl (lv_at hl 3 rfl) ?_
  refine va_iast hx hb hK.1 hP hD hS 4 0 rfl rfl (g_in t_1 (by decide) (by decide)) dX0_shareOut_30 (fun H locs hP hD hS => ?_)
  have hP : va_P D vwCl [(dh, .inr (0, G0 da dlisted dshared z_2 dleastWorst)), ((da 0), .inl (E 0, 9, .inl df0)), ((da 1), .inl (E 0, 9, .inl df1)), ((da 2), .inl (E 0, 9, .inl df2)), ((da 3), .inl (E 0, 3, .inl (upd (upd df3 (0 : Int32).toNatClampNeg p1) (1 : Int32).toNatClampNeg p2))), ((da 4), .inl (E 0, 3, .inl df4))] H := hP
  have hD := toW hP hD rfl
  generalize (upd (upd df3 (0 : Int32).toNatClampNeg p1) (1 : Int32).toNatClampNeg p2) = g_3 at hP hD
  refine lv_aload_n hx hb dX0_shareOut_31 rfl (lv_at hl 0 rfl) ?_
  refine va_get (D := D) (ci := 0) (v := .ref (da 3)) (C := RX0) (T := TX0) (N := 9) hx hb htb iX0 hown hK.1 hP 0 rfl rfl 3 (by decide) (htb _ k_194) (fun _ h9 => h9) rfl dX0_shareOut_32 ?_
  refine lv_iconst (v := 2) hx hb dX0_shareOut_35 (by decide) ?_
  refine lv_iload hx hb dX0_shareOut_36 (lv_at hl 4 rfl) ?_
  refine va_iast hx hb hK.1 hP hD hS 4 0 rfl rfl (g_in t_2 (by decide) (by decide)) dX0_shareOut_38 (fun H locs hP hD hS => ?_)
  have hP : va_P D vwCl [(dh, .inr (0, G0 da dlisted dshared z_2 dleastWorst)), ((da 0), .inl (E 0, 9, .inl df0)), ((da 1), .inl (E 0, 9, .inl df1)), ((da 2), .inl (E 0, 9, .inl df2)), ((da 3), .inl (E 0, 3, .inl (upd g_3 (2 : Int32).toNatClampNeg p3))), ((da 4), .inl (E 0, 3, .inl df4))] H := hP
  have hD := toW hP hD rfl
  refine lv_aload_n hx hb dX0_shareOut_39 rfl (lv_at hl 0 rfl) ?_
  refine lv_ldc hx hb hown (htb _ k_904) dX0_shareOut_40 ?_
  refine va_put (D := D) (ci := 0) (v := .int 2000000000) (ty := .int) (C := RX0) (T := TX0) (N := 9) hx hb htb iX0 tyX0 tyX0_ok nmX0 hown hK.1 hP hD hS 0 rfl rfl 8 (by decide) (htb _ k_201) (fun _ h9 => h9) rfl (by decide +kernel) rfl rfl (Nat.le_of_ble_eq_true rfl) dX0_shareOut_42 (fun H locs hP hD hS => ?_)
  have hP : va_P D vwCl [(dh, .inr (0, G0 da dlisted dshared z_2 2000000000)), ((da 0), .inl (E 0, 9, .inl df0)), ((da 1), .inl (E 0, 9, .inl df1)), ((da 2), .inl (E 0, 9, .inl df2)), ((da 3), .inl (E 0, 3, .inl (upd g_3 (2 : Int32).toNatClampNeg p3))), ((da 4), .inl (E 0, 3, .inl df4))] H := hP
  have hD := toW hP hD rfl
  refine lv_iconst (v := 0) hx hb dX0_shareOut_45 (by decide) ?_
  refine lv_istore (lv' := [(5, .int 0), (0, .ref dh), (1, .int p0), (2, .int p1), (3, .int p2), (4, .int p3)]) hx hb dX0_shareOut_46 hl (by decide) rfl (fun ls hl => ?_)
  have loop_4 : ∀ (N_6 : Nat) (L5_48 : Int32) (df4_48 : Nat → Int32) (H : Heap) (locs : List Loc) (ls : Array Slot), 3 - L5_48.toInt < (N_6 : Int) → (0 ≤ L5_48.toInt ∧ L5_48.toInt ≤ 3) → va_P D vwCl [(dh, .inr (0, G0 da dlisted dshared z_2 2000000000)), ((da 0), .inl (E 0, 9, .inl df0)), ((da 1), .inl (E 0, 9, .inl df1)), ((da 2), .inl (E 0, 9, .inl df2)), ((da 3), .inl (E 0, 3, .inl (upd g_3 (2 : Int32).toNatClampNeg p3))), ((da 4), .inl (E 0, 3, .inl df4_48))] H → va_D A [(dh, .inr (0, G0 da dlisted dshared z_2 2000000000)), ((da 0), .inl (E 0, 9, .inl df0)), ((da 1), .inl (E 0, 9, .inl df1)), ((da 2), .inl (E 0, 9, .inl df2)), ((da 3), .inl (E 0, 3, .inl (upd g_3 (2 : Int32).toNatClampNeg p3))), ((da 4), .inl (E 0, 3, .inl df4_48))] → va_S A s.heap H locs → lv_has ls 6 [(5, .int L5_48), (0, .ref dh), (1, .int p0), (2, .int p1), (3, .int p2), (4, .int p3)] → W p l e (headSpec (wl yX0_shareOut cX0_shareOut 6 (some .int)) (RM 13 0 0)).room s m [Value.ref dh, .int p0, .int p1, .int p2, .int p3].toArray below meth c H locs 0 0 (MQ below (va_Qi (fun (r : Int32) (u : (Nat → Int32) × (Nat → Int32) × (Nat → Int32) × (Nat → Int32) × (Int32) × (Int32) × (Int32) × (Int32)) => (0 ≤ u.2.2.2.2.2.1.toInt ∧ u.2.2.2.2.2.1.toInt ≤ 9) ∧ (0 ≤ u.2.2.2.2.2.2.1.toInt ∧ u.2.2.2.2.2.2.1.toInt ≤ 3) ∧ (0 ≤ u.2.2.2.2.2.2.2.toInt ∧ u.2.2.2.2.2.2.2.toInt ≤ 9) ∧ (u.2.2.2.2.2.1.toInt = 0)) (mu_B D A (fun (u : (Nat → Int32) × (Nat → Int32) × (Nat → Int32) × (Nat → Int32) × (Int32) × (Int32) × (Int32) × (Int32)) => [(dh, .inr (0, G0 da u.2.2.2.2.2.1 u.2.2.2.2.2.2.2 u.2.2.2.2.2.2.1 u.2.2.2.2.1)), ((da 0), .inl (E 0, 9, .inl df0)), ((da 1), .inl (E 0, 9, .inl u.1)), ((da 2), .inl (E 0, 9, .inl u.2.1)), ((da 3), .inl (E 0, 3, .inl u.2.2.1)), ((da 4), .inl (E 0, 3, .inl u.2.2.2.1))])) A) [Value.ref dh, .int p0, .int p1, .int p2, .int p3].toArray s 0 0 A) (F0 m 48 ls []) := by
    intro N_6
    induction N_6 with
    | zero => intro L5_48 df4_48 H locs ls hm v0_48 _ _ _ _; exfalso; omega
    | succ N_6 ih_5 =>
      intro L5_48 df4_48 H locs ls hm v0_48 hP hD hS hl
      have lo_L5_48 := i_lo L5_48; have hi_L5_48 := i_hi L5_48
      refine lv_iload hx hb dX0_shareOut_48 (lv_at hl 0 rfl) ?_
      refine lv_aload_n hx hb dX0_shareOut_50 rfl (lv_at hl 1 rfl) ?_
      refine va_get (D := D) (ci := 0) (v := .ref (da 4)) (C := RX0) (T := TX0) (N := 9) hx hb htb iX0 hown hK.1 hP 0 rfl rfl 4 (by decide) (htb _ k_195) (fun _ h9 => h9) rfl dX0_shareOut_51 ?_
      refine va_alen hx hb hK.1 hP 5 0 rfl rfl (v := 3) (show Int32.ofNat 3 = 3 by decide) dX0_shareOut_54 ?_
      refine lv_icmp_ge (tgt := 72) hx hb dX0_shareOut_55 (by decide) (fun c_7 => ?_) (fun c_7 => ?_)
      ·
        have ic_7 : 3 ≤ L5_48.toInt := by first | exact (g_le t_3 rfl).mp c_7 | (have h := mt (g_lt rfl t_3).mpr c_7; omega)
        clear c_7
        refine lv_aload_n hx hb dX0_shareOut_72 rfl (lv_at hl 1 rfl) ?_
        refine lv_iconst (v := 0) hx hb dX0_shareOut_73 (by decide) ?_
        refine lv_aload_n hx hb dX0_shareOut_74 rfl (lv_at hl 1 rfl) ?_
        refine va_get (D := D) (ci := 0) (v := .int dlisted) (C := RX0) (T := TX0) (N := 9) hx hb htb iX0 hown hK.1 hP 0 rfl rfl 5 (by decide) (htb _ k_196) (fun _ h9 => h9) rfl dX0_shareOut_75 ?_
        refine lv_iconst (v := 3) hx hb dX0_shareOut_78 (by decide) ?_
        refine lv_aload_n hx hb dX0_shareOut_79 rfl (lv_at hl 1 rfl) ?_
        refine va_get (D := D) (ci := 0) (v := .int z_2) (C := RX0) (T := TX0) (N := 9) hx hb htb iX0 hown hK.1 hP 0 rfl rfl 7 (by decide) (htb _ k_200) (fun _ h9 => h9) rfl dX0_shareOut_80 ?_
        refine lv_imul hx hb dX0_shareOut_83 ?_
        refine lv_topi (fun z_8 ez_8 => ?_)
        have jz_8 : z_8.toInt = 3 * z_2.toInt := by rw [ez_8]; exact g_mul t_3 rfl (by omega) (by omega)
        refine lv_isub hx hb dX0_shareOut_84 ?_
        refine lv_topi (fun z_9 ez_9 => ?_)
        have jz_9 : z_9.toInt = dlisted.toInt - z_8.toInt := by rw [ez_9]; exact g_sub rfl rfl (by omega) (by omega)
        have hPc := hP.sub (ws' := [(dh, .inr (0, G0 da dlisted dshared z_2 2000000000)), ((da 0), .inl (E 0, 9, .inl df0)), ((da 1), .inl (E 0, 9, .inl df1)), ((da 2), .inl (E 0, 9, .inl df2)), ((da 3), .inl (E 0, 3, .inl (upd g_3 (2 : Int32).toNatClampNeg p3))), ((da 4), .inl (E 0, 3, .inl df4_48))]) [0, 1, 2, 3, 4, 5] rfl
        have hDc := hD.sub (ws' := [(dh, .inr (0, G0 da dlisted dshared z_2 2000000000)), ((da 0), .inl (E 0, 9, .inl df0)), ((da 1), .inl (E 0, 9, .inl df1)), ((da 2), .inl (E 0, 9, .inl df2)), ((da 3), .inl (E 0, 3, .inl (upd g_3 (2 : Int32).toNatClampNeg p3))), ((da 4), .inl (E 0, 3, .inl df4_48))]) [0, 1, 2, 3, 4, 5] (by decide) rfl
        refine aft_v (runMV (rest := []) (As := [.int 0, .int z_9]) hx hb hml hown htb hK (g_X0_tryFrom_9 l D E dh da dlisted dshared z_2 2000000000 df0 df1 df2 (upd g_3 (2 : Int32).toNatClampNeg p3) df4_48 0 z_9 _ (by (try dsimp only); omega) (by have h0 := t_0; (try dsimp only); omega)) ok_X0_tryFrom k_905 k_907 ks_34 k_7 k_908 ⟨(Nat.le_of_ble_eq_true rfl), (Nat.le_of_ble_eq_true rfl)⟩ ⟨(Nat.le_of_ble_eq_true rfl), (Nat.le_of_ble_eq_true rfl)⟩ hl.1 (Nat.le_of_ble_eq_true rfl) rfl rfl dX0_shareOut_85 hPc hDc rfl rfl 0 rfl) hP hD hS hA [0, 1, 2, 3, 4, 5] [] (wr := ([] : va_W)) rfl rfl (by decide) (by decide) (fun u_12 H locs hw_11 hP hD hS => ?_)
        clear hPc hDc
        obtain ⟨w_13, w_14, w_15, w_16⟩ := u_12
        try dsimp only at hw_11
        have hP : va_P D vwCl [(dh, .inr (0, G0 da dlisted dshared z_2 w_16)), ((da 0), .inl (E 0, 9, .inl df0)), ((da 1), .inl (E 0, 9, .inl w_13)), ((da 2), .inl (E 0, 9, .inl w_14)), ((da 3), .inl (E 0, 3, .inl (upd g_3 (2 : Int32).toNatClampNeg p3))), ((da 4), .inl (E 0, 3, .inl w_15))] H := hP
        have hD := toW hP hD rfl
        refine lv_aload_n hx hb dX0_shareOut_88 rfl (lv_at hl 1 rfl) ?_
        refine lv_aload_n hx hb dX0_shareOut_89 rfl (lv_at hl 1 rfl) ?_
        refine va_get (D := D) (ci := 0) (v := .int dlisted) (C := RX0) (T := TX0) (N := 9) hx hb htb iX0 hown hK.1 hP 0 rfl rfl 5 (by decide) (htb _ k_196) (fun _ h9 => h9) rfl dX0_shareOut_90 ?_
        refine va_put (D := D) (ci := 0) (v := .int dlisted) (ty := .int) (C := RX0) (T := TX0) (N := 9) hx hb htb iX0 tyX0 tyX0_ok nmX0 hown hK.1 hP hD hS 0 rfl rfl 6 (by decide) (htb _ k_198) (fun _ h9 => h9) rfl (by decide +kernel) rfl rfl (Nat.le_of_ble_eq_true rfl) dX0_shareOut_93 (fun H locs hP hD hS => ?_)
        have hP : va_P D vwCl [(dh, .inr (0, G0 da dlisted dlisted z_2 w_16)), ((da 0), .inl (E 0, 9, .inl df0)), ((da 1), .inl (E 0, 9, .inl w_13)), ((da 2), .inl (E 0, 9, .inl w_14)), ((da 3), .inl (E 0, 3, .inl (upd g_3 (2 : Int32).toNatClampNeg p3))), ((da 4), .inl (E 0, 3, .inl w_15))] H := hP
        have hD := toW hP hD rfl
        refine lv_aload_n hx hb dX0_shareOut_96 rfl (lv_at hl 1 rfl) ?_
        refine lv_iconst (v := 0) hx hb dX0_shareOut_97 (by decide) ?_
        refine va_put (D := D) (ci := 0) (v := .int 0) (ty := .int) (C := RX0) (T := TX0) (N := 9) hx hb htb iX0 tyX0 tyX0_ok nmX0 hown hK.1 hP hD hS 0 rfl rfl 5 (by decide) (htb _ k_196) (fun _ h9 => h9) rfl (by decide +kernel) rfl rfl (Nat.le_of_ble_eq_true rfl) dX0_shareOut_98 (fun H locs hP hD hS => ?_)
        have hP : va_P D vwCl [(dh, .inr (0, G0 da 0 dlisted z_2 w_16)), ((da 0), .inl (E 0, 9, .inl df0)), ((da 1), .inl (E 0, 9, .inl w_13)), ((da 2), .inl (E 0, 9, .inl w_14)), ((da 3), .inl (E 0, 3, .inl (upd g_3 (2 : Int32).toNatClampNeg p3))), ((da 4), .inl (E 0, 3, .inl w_15))] H := hP
        have hD := toW hP hD rfl
        refine lv_aload_n hx hb dX0_shareOut_101 rfl (lv_at hl 1 rfl) ?_
        refine va_get (D := D) (ci := 0) (v := .int w_16) (C := RX0) (T := TX0) (N := 9) hx hb htb iX0 hown hK.1 hP 0 rfl rfl 8 (by decide) (htb _ k_201) (fun _ h9 => h9) rfl dX0_shareOut_102 ?_
        have hP9 := hP.sub (ws' := [(dh, .inr (0, G0 da 0 dlisted z_2 w_16)), ((da 0), .inl (E 0, 9, .inl df0)), ((da 1), .inl (E 0, 9, .inl w_13)), ((da 2), .inl (E 0, 9, .inl w_14)), ((da 3), .inl (E 0, 3, .inl (upd g_3 (2 : Int32).toNatClampNeg p3))), ((da 4), .inl (E 0, 3, .inl w_15))]) [0, 1, 2, 3, 4, 5] rfl
        have hD9 := hD.sub (ws' := [(dh, .inr (0, G0 da 0 dlisted z_2 w_16)), ((da 0), .inl (E 0, 9, .inl df0)), ((da 1), .inl (E 0, 9, .inl w_13)), ((da 2), .inl (E 0, 9, .inl w_14)), ((da 3), .inl (E 0, 3, .inl (upd g_3 (2 : Int32).toNatClampNeg p3))), ((da 4), .inl (E 0, 3, .inl w_15))]) [0, 1, 2, 3, 4, 5] (by decide) rfl
        exact W.iret (v := w_16) hx hb hr (fun t ht hW => ⟨⟨w_16, (w_13, w_14, (upd g_3 (2 : Int32).toNatClampNeg p3), w_15, w_16, (0 : Int32), z_2, dlisted), rfl, ⟨(by have h0 := t_0; (try dsimp only); omega), (by (try dsimp only); omega), (by (try dsimp only); omega), (by have h0 := t_0; (try dsimp only); omega)⟩, by rw [ht]; exact hP9, hD9⟩, hS.F ht⟩) hS.2.2 dX0_shareOut_105
      ·
        have ic_7 : L5_48.toInt < 3 := by first | exact (g_lt rfl t_3).mp c_7 | (have h := mt (g_le t_3 rfl).mpr c_7; omega)
        clear c_7
        refine lv_aload_n hx hb dX0_shareOut_58 rfl (lv_at hl 1 rfl) ?_
        refine va_get (D := D) (ci := 0) (v := .ref (da 4)) (C := RX0) (T := TX0) (N := 9) hx hb htb iX0 hown hK.1 hP 0 rfl rfl 4 (by decide) (htb _ k_195) (fun _ h9 => h9) rfl dX0_shareOut_59 ?_
        refine lv_iload hx hb dX0_shareOut_62 (lv_at hl 0 rfl) ?_
        refine lv_iconst (v := 0) hx hb dX0_shareOut_64 (by decide) ?_
        refine va_iast hx hb hK.1 hP hD hS 5 0 rfl rfl (g_in rfl (by omega) (by omega)) dX0_shareOut_65 (fun H locs hP hD hS => ?_)
        have hP : va_P D vwCl [(dh, .inr (0, G0 da dlisted dshared z_2 2000000000)), ((da 0), .inl (E 0, 9, .inl df0)), ((da 1), .inl (E 0, 9, .inl df1)), ((da 2), .inl (E 0, 9, .inl df2)), ((da 3), .inl (E 0, 3, .inl (upd g_3 (2 : Int32).toNatClampNeg p3))), ((da 4), .inl (E 0, 3, .inl (upd df4_48 (L5_48 : Int32).toNatClampNeg 0)))] H := hP
        have hD := toW hP hD rfl
        obtain ⟨z_17, ez_17⟩ : ∃ y : Int32, y = L5_48 + 1 := ⟨_, rfl⟩
        have jz_17 : z_17.toInt = L5_48.toInt + 1 := by rw [ez_17]; exact g_add rfl t_1 (by omega) (by omega)
        refine lv_iinc (v := z_17) (lv' := [(5, .int z_17), (0, .ref dh), (1, .int p0), (2, .int p1), (3, .int p2), (4, .int p3)]) hx hb dX0_shareOut_66 hl (k := 0) rfl (by rw [ez_17]; rfl) (by decide) rfl (fun ls hl => ?_)
        refine lv_goto (tgt := 48) hx hb dX0_shareOut_69 (by decide) ?_
        exact ih_5 z_17 (upd df4_48 (L5_48 : Int32).toNatClampNeg 0) _ _ _ (by have h0 := t_2000000000; (try dsimp only); omega) (by have h0 := t_2000000000; (try dsimp only); omega) hP hD hS (lv_sub hl [0, 1, 2, 3, 4, 5] rfl)
  exact loop_4 4 0 df4 _ _ _ (by have h0 := t_0; have h1 := t_2000000000; (try dsimp only); omega) (by have h0 := t_0; have h1 := t_2000000000; (try dsimp only); omega) hP hD hS (lv_sub hl [0, 1, 2, 3, 4, 5] rfl)
end
section
set_option maxHeartbeats 4000000 in
set_option maxRecDepth 100000 in
theorem g_X6_isLetter (l : Launch) (D : va_G) (E : Nat → Nat) (p0 : Int32)  : Met l yX6_isLetter (wl yX6_isLetter cX6_isLetter 1 (some .boolean)) (RM 0 0 0) (rd_P D E [.int p0] ([] : va_W)) (rd_Q (fun r => ((r = 1 ∧ (97 ≤ p0.toInt ∧ p0.toInt ≤ 122)) ∨ (r = 0 ∧ ¬ (97 ≤ p0.toInt ∧ p0.toInt ≤ 122))))) 0 0 (fun _ => False) := by
  refine Met.ofW (cc := cX6_isLetter) (maxL := 1) (ret := (some .boolean)) (by decide) rfl ?_
  intro p e s m args below meth c s₁ B hml hv
  obtain ⟨rfl, hP, hK⟩ := hv
  have hx := B.exec; have hb := B.bytes; have hr := B.returns
  have hts := atoms_spec (ws := wl yX6_isLetter cX6_isLetter 1 (some .boolean)) B.pre
  have htb : ∀ w ∈ tb, w.before _ s = true := fun w h => hts w (List.mem_cons_of_mem _ h)
  have hown : s.vm.findClass RX6 = some m.cls := findClass_of_methodNamed B.named
  have hlocks := B.notSynchronized
  have hP : va_P D vwCl ([] : va_W) s.heap := hP
  have hl := lv_entry ([.int p0]) (n := 1) (Nat.le_of_ble_eq_true rfl)
  rw [lg_entry_eq]
  generalize (lg_sl ([.int p0]) ++ List.replicate (1 - (lg_sl ([.int p0])).length) Slot.unset).toArray = ls at hl ⊢
  have hl : lv_has ls 1 [(0, .int p0)] := hl
  have lo_p0 := i_lo p0; have hi_p0 := i_hi p0
  refine lv_iload_n hx hb dX6_isLetter_0 rfl (lv_at hl 0 rfl) ?_
  refine lv_bipush (v := 97) hx hb dX6_isLetter_1 (by decide) ?_
  refine lv_icmp_lt (tgt := 16) hx hb dX6_isLetter_3 (by decide) (fun c_1 => ?_) (fun c_1 => ?_)
  ·
    have ic_1 : p0.toInt < 97 := by first | exact (g_lt rfl t_97).mp c_1 | (have h := mt (g_le t_97 rfl).mpr c_1; omega)
    clear c_1
    refine lv_iconst (v := 0) hx hb dX6_isLetter_16 (by decide) ?_
    exact W.zret (v := 0) hx hb hr rfl (fun t ht hW => ⟨0, rfl, by first | exact Or.inr ⟨rfl, by omega⟩ | (exfalso; omega), ht⟩) (fun q h => by cases h) dX6_isLetter_17
  ·
    have ic_1 : 97 ≤ p0.toInt := by first | exact (g_le t_97 rfl).mp c_1 | (have h := mt (g_lt rfl t_97).mpr c_1; omega)
    clear c_1
    refine lv_iload_n hx hb dX6_isLetter_6 rfl (lv_at hl 0 rfl) ?_
    refine lv_bipush (v := 122) hx hb dX6_isLetter_7 (by decide) ?_
    refine lv_icmp_gt (tgt := 16) hx hb dX6_isLetter_9 (by decide) (fun c_2 => ?_) (fun c_2 => ?_)
    ·
      have ic_2 : 122 < p0.toInt := by first | exact (g_lt t_122 rfl).mp c_2 | (have h := mt (g_le rfl t_122).mpr c_2; omega)
      clear c_2
      refine lv_iconst (v := 0) hx hb dX6_isLetter_16 (by decide) ?_
      exact W.zret (v := 0) hx hb hr rfl (fun t ht hW => ⟨0, rfl, by first | exact Or.inr ⟨rfl, by omega⟩ | (exfalso; omega), ht⟩) (fun q h => by cases h) dX6_isLetter_17
    ·
      have ic_2 : p0.toInt ≤ 122 := by first | exact (g_le rfl t_122).mp c_2 | (have h := mt (g_lt t_122 rfl).mpr c_2; omega)
      clear c_2
      refine lv_iconst (v := 1) hx hb dX6_isLetter_12 (by decide) ?_
      refine lv_goto (tgt := 17) hx hb dX6_isLetter_13 (by decide) ?_
      exact W.zret (v := 1) hx hb hr rfl (fun t ht hW => ⟨1, rfl, by first | exact Or.inl ⟨rfl, by omega⟩ | (exfalso; omega), ht⟩) (fun q h => by cases h) dX6_isLetter_17
set_option maxHeartbeats 4000000 in
set_option maxRecDepth 100000 in
theorem g_X6_isDigit (l : Launch) (D : va_G) (E : Nat → Nat) (p0 : Int32)  : Met l yX6_isDigit (wl yX6_isDigit cX6_isDigit 1 (some .boolean)) (RM 0 0 0) (rd_P D E [.int p0] ([] : va_W)) (rd_Q (fun r => ((r = 1 ∧ (48 ≤ p0.toInt ∧ p0.toInt ≤ 57)) ∨ (r = 0 ∧ ¬ (48 ≤ p0.toInt ∧ p0.toInt ≤ 57))))) 0 0 (fun _ => False) := by
  refine Met.ofW (cc := cX6_isDigit) (maxL := 1) (ret := (some .boolean)) (by decide) rfl ?_
  intro p e s m args below meth c s₁ B hml hv
  obtain ⟨rfl, hP, hK⟩ := hv
  have hx := B.exec; have hb := B.bytes; have hr := B.returns
  have hts := atoms_spec (ws := wl yX6_isDigit cX6_isDigit 1 (some .boolean)) B.pre
  have htb : ∀ w ∈ tb, w.before _ s = true := fun w h => hts w (List.mem_cons_of_mem _ h)
  have hown : s.vm.findClass RX6 = some m.cls := findClass_of_methodNamed B.named
  have hlocks := B.notSynchronized
  have hP : va_P D vwCl ([] : va_W) s.heap := hP
  have hl := lv_entry ([.int p0]) (n := 1) (Nat.le_of_ble_eq_true rfl)
  rw [lg_entry_eq]
  generalize (lg_sl ([.int p0]) ++ List.replicate (1 - (lg_sl ([.int p0])).length) Slot.unset).toArray = ls at hl ⊢
  have hl : lv_has ls 1 [(0, .int p0)] := hl
  have lo_p0 := i_lo p0; have hi_p0 := i_hi p0
  refine lv_iload_n hx hb dX6_isDigit_0 rfl (lv_at hl 0 rfl) ?_
  refine lv_bipush (v := 48) hx hb dX6_isDigit_1 (by decide) ?_
  refine lv_icmp_lt (tgt := 16) hx hb dX6_isDigit_3 (by decide) (fun c_1 => ?_) (fun c_1 => ?_)
  ·
    have ic_1 : p0.toInt < 48 := by first | exact (g_lt rfl t_48).mp c_1 | (have h := mt (g_le t_48 rfl).mpr c_1; omega)
    clear c_1
    refine lv_iconst (v := 0) hx hb dX6_isDigit_16 (by decide) ?_
    exact W.zret (v := 0) hx hb hr rfl (fun t ht hW => ⟨0, rfl, by first | exact Or.inr ⟨rfl, by omega⟩ | (exfalso; omega), ht⟩) (fun q h => by cases h) dX6_isDigit_17
  ·
    have ic_1 : 48 ≤ p0.toInt := by first | exact (g_le t_48 rfl).mp c_1 | (have h := mt (g_lt rfl t_48).mpr c_1; omega)
    clear c_1
    refine lv_iload_n hx hb dX6_isDigit_6 rfl (lv_at hl 0 rfl) ?_
    refine lv_bipush (v := 57) hx hb dX6_isDigit_7 (by decide) ?_
    refine lv_icmp_gt (tgt := 16) hx hb dX6_isDigit_9 (by decide) (fun c_2 => ?_) (fun c_2 => ?_)
    ·
      have ic_2 : 57 < p0.toInt := by first | exact (g_lt t_57 rfl).mp c_2 | (have h := mt (g_le rfl t_57).mpr c_2; omega)
      clear c_2
      refine lv_iconst (v := 0) hx hb dX6_isDigit_16 (by decide) ?_
      exact W.zret (v := 0) hx hb hr rfl (fun t ht hW => ⟨0, rfl, by first | exact Or.inr ⟨rfl, by omega⟩ | (exfalso; omega), ht⟩) (fun q h => by cases h) dX6_isDigit_17
    ·
      have ic_2 : p0.toInt ≤ 57 := by first | exact (g_le rfl t_57).mp c_2 | (have h := mt (g_lt t_57 rfl).mpr c_2; omega)
      clear c_2
      refine lv_iconst (v := 1) hx hb dX6_isDigit_12 (by decide) ?_
      refine lv_goto (tgt := 17) hx hb dX6_isDigit_13 (by decide) ?_
      exact W.zret (v := 1) hx hb hr rfl (fun t ht hW => ⟨1, rfl, by first | exact Or.inl ⟨rfl, by omega⟩ | (exfalso; omega), ht⟩) (fun q h => by cases h) dX6_isDigit_17
set_option maxHeartbeats 4000000 in
set_option maxRecDepth 100000 in
theorem g_X6_isSign (l : Launch) (D : va_G) (E : Nat → Nat) (p0 : Int32)  : Met l yX6_isSign (wl yX6_isSign cX6_isSign 1 (some .boolean)) (RM 0 0 0) (rd_P D E [.int p0] ([] : va_W)) (rd_Q (fun r => (0 ≤ r.toInt ∧ r.toInt ≤ 1))) 0 0 (fun _ => False) := by
  refine Met.ofW (cc := cX6_isSign) (maxL := 1) (ret := (some .boolean)) (by decide) rfl ?_
  intro p e s m args below meth c s₁ B hml hv
  obtain ⟨rfl, hP, hK⟩ := hv
  have hx := B.exec; have hb := B.bytes; have hr := B.returns
  have hts := atoms_spec (ws := wl yX6_isSign cX6_isSign 1 (some .boolean)) B.pre
  have htb : ∀ w ∈ tb, w.before _ s = true := fun w h => hts w (List.mem_cons_of_mem _ h)
  have hown : s.vm.findClass RX6 = some m.cls := findClass_of_methodNamed B.named
  have hlocks := B.notSynchronized
  have hP : va_P D vwCl ([] : va_W) s.heap := hP
  have hl := lv_entry ([.int p0]) (n := 1) (Nat.le_of_ble_eq_true rfl)
  rw [lg_entry_eq]
  generalize (lg_sl ([.int p0]) ++ List.replicate (1 - (lg_sl ([.int p0])).length) Slot.unset).toArray = ls at hl ⊢
  have hl : lv_has ls 1 [(0, .int p0)] := hl
  have lo_p0 := i_lo p0; have hi_p0 := i_hi p0
  refine lv_iload_n hx hb dX6_isSign_0 rfl (lv_at hl 0 rfl) ?_
  by_cases h_1 : p0.toInt < 40 ∨ 62 < p0.toInt
  ·
    refine lv_tableOut (tgt := 110) hx hb dX6_isSign_1 h_1 (by decide) ?_
    refine lv_iconst (v := 0) hx hb dX6_isSign_110 (by decide) ?_
    exact W.zret (v := 0) hx hb hr rfl (fun t ht hW => ⟨0, rfl, (by have h0 := t_0; (try dsimp only); omega), ht⟩) (fun q h => by cases h) dX6_isSign_111
  ·
    have h_2 : p0.toInt = 40 ∨ p0.toInt = 41 ∨ p0.toInt = 42 ∨ p0.toInt = 43 ∨ p0.toInt = 44 ∨ p0.toInt = 45 ∨ p0.toInt = 46 ∨ p0.toInt = 47 ∨ p0.toInt = 48 ∨ p0.toInt = 49 ∨ p0.toInt = 50 ∨ p0.toInt = 51 ∨ p0.toInt = 52 ∨ p0.toInt = 53 ∨ p0.toInt = 54 ∨ p0.toInt = 55 ∨ p0.toInt = 56 ∨ p0.toInt = 57 ∨ p0.toInt = 58 ∨ p0.toInt = 59 ∨ p0.toInt = 60 ∨ p0.toInt = 61 ∨ p0.toInt = 62 := by omega
    rcases h_2 with h_2 | h_2 | h_2 | h_2 | h_2 | h_2 | h_2 | h_2 | h_2 | h_2 | h_2 | h_2 | h_2 | h_2 | h_2 | h_2 | h_2 | h_2 | h_2 | h_2 | h_2 | h_2 | h_2
    ·
      refine lv_tableIn (off := 107) (tgt := 108) hx hb dX6_isSign_1 (by omega) (by omega) (by rw [h_2]; decide) (by decide) ?_
      refine lv_iconst (v := 1) hx hb dX6_isSign_108 (by decide) ?_
      exact W.zret (v := 1) hx hb hr rfl (fun t ht hW => ⟨1, rfl, (by have h0 := t_1; (try dsimp only); omega), ht⟩) (fun q h => by cases h) dX6_isSign_109
    ·
      refine lv_tableIn (off := 107) (tgt := 108) hx hb dX6_isSign_1 (by omega) (by omega) (by rw [h_2]; decide) (by decide) ?_
      refine lv_iconst (v := 1) hx hb dX6_isSign_108 (by decide) ?_
      exact W.zret (v := 1) hx hb hr rfl (fun t ht hW => ⟨1, rfl, (by have h0 := t_1; (try dsimp only); omega), ht⟩) (fun q h => by cases h) dX6_isSign_109
    ·
      refine lv_tableIn (off := 107) (tgt := 108) hx hb dX6_isSign_1 (by omega) (by omega) (by rw [h_2]; decide) (by decide) ?_
      refine lv_iconst (v := 1) hx hb dX6_isSign_108 (by decide) ?_
      exact W.zret (v := 1) hx hb hr rfl (fun t ht hW => ⟨1, rfl, (by have h0 := t_1; (try dsimp only); omega), ht⟩) (fun q h => by cases h) dX6_isSign_109
    ·
      refine lv_tableIn (off := 107) (tgt := 108) hx hb dX6_isSign_1 (by omega) (by omega) (by rw [h_2]; decide) (by decide) ?_
      refine lv_iconst (v := 1) hx hb dX6_isSign_108 (by decide) ?_
      exact W.zret (v := 1) hx hb hr rfl (fun t ht hW => ⟨1, rfl, (by have h0 := t_1; (try dsimp only); omega), ht⟩) (fun q h => by cases h) dX6_isSign_109
    ·
      refine lv_tableIn (off := 109) (tgt := 110) hx hb dX6_isSign_1 (by omega) (by omega) (by rw [h_2]; decide) (by decide) ?_
      refine lv_iconst (v := 0) hx hb dX6_isSign_110 (by decide) ?_
      exact W.zret (v := 0) hx hb hr rfl (fun t ht hW => ⟨0, rfl, (by have h0 := t_0; (try dsimp only); omega), ht⟩) (fun q h => by cases h) dX6_isSign_111
    ·
      refine lv_tableIn (off := 107) (tgt := 108) hx hb dX6_isSign_1 (by omega) (by omega) (by rw [h_2]; decide) (by decide) ?_
      refine lv_iconst (v := 1) hx hb dX6_isSign_108 (by decide) ?_
      exact W.zret (v := 1) hx hb hr rfl (fun t ht hW => ⟨1, rfl, (by have h0 := t_1; (try dsimp only); omega), ht⟩) (fun q h => by cases h) dX6_isSign_109
    ·
      refine lv_tableIn (off := 109) (tgt := 110) hx hb dX6_isSign_1 (by omega) (by omega) (by rw [h_2]; decide) (by decide) ?_
      refine lv_iconst (v := 0) hx hb dX6_isSign_110 (by decide) ?_
      exact W.zret (v := 0) hx hb hr rfl (fun t ht hW => ⟨0, rfl, (by have h0 := t_0; (try dsimp only); omega), ht⟩) (fun q h => by cases h) dX6_isSign_111
    ·
      refine lv_tableIn (off := 107) (tgt := 108) hx hb dX6_isSign_1 (by omega) (by omega) (by rw [h_2]; decide) (by decide) ?_
      refine lv_iconst (v := 1) hx hb dX6_isSign_108 (by decide) ?_
      exact W.zret (v := 1) hx hb hr rfl (fun t ht hW => ⟨1, rfl, (by have h0 := t_1; (try dsimp only); omega), ht⟩) (fun q h => by cases h) dX6_isSign_109
    ·
      refine lv_tableIn (off := 109) (tgt := 110) hx hb dX6_isSign_1 (by omega) (by omega) (by rw [h_2]; decide) (by decide) ?_
      refine lv_iconst (v := 0) hx hb dX6_isSign_110 (by decide) ?_
      exact W.zret (v := 0) hx hb hr rfl (fun t ht hW => ⟨0, rfl, (by have h0 := t_0; (try dsimp only); omega), ht⟩) (fun q h => by cases h) dX6_isSign_111
    ·
      refine lv_tableIn (off := 109) (tgt := 110) hx hb dX6_isSign_1 (by omega) (by omega) (by rw [h_2]; decide) (by decide) ?_
      refine lv_iconst (v := 0) hx hb dX6_isSign_110 (by decide) ?_
      exact W.zret (v := 0) hx hb hr rfl (fun t ht hW => ⟨0, rfl, (by have h0 := t_0; (try dsimp only); omega), ht⟩) (fun q h => by cases h) dX6_isSign_111
    ·
      refine lv_tableIn (off := 109) (tgt := 110) hx hb dX6_isSign_1 (by omega) (by omega) (by rw [h_2]; decide) (by decide) ?_
      refine lv_iconst (v := 0) hx hb dX6_isSign_110 (by decide) ?_
      exact W.zret (v := 0) hx hb hr rfl (fun t ht hW => ⟨0, rfl, (by have h0 := t_0; (try dsimp only); omega), ht⟩) (fun q h => by cases h) dX6_isSign_111
    ·
      refine lv_tableIn (off := 109) (tgt := 110) hx hb dX6_isSign_1 (by omega) (by omega) (by rw [h_2]; decide) (by decide) ?_
      refine lv_iconst (v := 0) hx hb dX6_isSign_110 (by decide) ?_
      exact W.zret (v := 0) hx hb hr rfl (fun t ht hW => ⟨0, rfl, (by have h0 := t_0; (try dsimp only); omega), ht⟩) (fun q h => by cases h) dX6_isSign_111
    ·
      refine lv_tableIn (off := 109) (tgt := 110) hx hb dX6_isSign_1 (by omega) (by omega) (by rw [h_2]; decide) (by decide) ?_
      refine lv_iconst (v := 0) hx hb dX6_isSign_110 (by decide) ?_
      exact W.zret (v := 0) hx hb hr rfl (fun t ht hW => ⟨0, rfl, (by have h0 := t_0; (try dsimp only); omega), ht⟩) (fun q h => by cases h) dX6_isSign_111
    ·
      refine lv_tableIn (off := 109) (tgt := 110) hx hb dX6_isSign_1 (by omega) (by omega) (by rw [h_2]; decide) (by decide) ?_
      refine lv_iconst (v := 0) hx hb dX6_isSign_110 (by decide) ?_
      exact W.zret (v := 0) hx hb hr rfl (fun t ht hW => ⟨0, rfl, (by have h0 := t_0; (try dsimp only); omega), ht⟩) (fun q h => by cases h) dX6_isSign_111
    ·
      refine lv_tableIn (off := 109) (tgt := 110) hx hb dX6_isSign_1 (by omega) (by omega) (by rw [h_2]; decide) (by decide) ?_
      refine lv_iconst (v := 0) hx hb dX6_isSign_110 (by decide) ?_
      exact W.zret (v := 0) hx hb hr rfl (fun t ht hW => ⟨0, rfl, (by have h0 := t_0; (try dsimp only); omega), ht⟩) (fun q h => by cases h) dX6_isSign_111
    ·
      refine lv_tableIn (off := 109) (tgt := 110) hx hb dX6_isSign_1 (by omega) (by omega) (by rw [h_2]; decide) (by decide) ?_
      refine lv_iconst (v := 0) hx hb dX6_isSign_110 (by decide) ?_
      exact W.zret (v := 0) hx hb hr rfl (fun t ht hW => ⟨0, rfl, (by have h0 := t_0; (try dsimp only); omega), ht⟩) (fun q h => by cases h) dX6_isSign_111
    ·
      refine lv_tableIn (off := 109) (tgt := 110) hx hb dX6_isSign_1 (by omega) (by omega) (by rw [h_2]; decide) (by decide) ?_
      refine lv_iconst (v := 0) hx hb dX6_isSign_110 (by decide) ?_
      exact W.zret (v := 0) hx hb hr rfl (fun t ht hW => ⟨0, rfl, (by have h0 := t_0; (try dsimp only); omega), ht⟩) (fun q h => by cases h) dX6_isSign_111
    ·
      refine lv_tableIn (off := 109) (tgt := 110) hx hb dX6_isSign_1 (by omega) (by omega) (by rw [h_2]; decide) (by decide) ?_
      refine lv_iconst (v := 0) hx hb dX6_isSign_110 (by decide) ?_
      exact W.zret (v := 0) hx hb hr rfl (fun t ht hW => ⟨0, rfl, (by have h0 := t_0; (try dsimp only); omega), ht⟩) (fun q h => by cases h) dX6_isSign_111
    ·
      refine lv_tableIn (off := 109) (tgt := 110) hx hb dX6_isSign_1 (by omega) (by omega) (by rw [h_2]; decide) (by decide) ?_
      refine lv_iconst (v := 0) hx hb dX6_isSign_110 (by decide) ?_
      exact W.zret (v := 0) hx hb hr rfl (fun t ht hW => ⟨0, rfl, (by have h0 := t_0; (try dsimp only); omega), ht⟩) (fun q h => by cases h) dX6_isSign_111
    ·
      refine lv_tableIn (off := 109) (tgt := 110) hx hb dX6_isSign_1 (by omega) (by omega) (by rw [h_2]; decide) (by decide) ?_
      refine lv_iconst (v := 0) hx hb dX6_isSign_110 (by decide) ?_
      exact W.zret (v := 0) hx hb hr rfl (fun t ht hW => ⟨0, rfl, (by have h0 := t_0; (try dsimp only); omega), ht⟩) (fun q h => by cases h) dX6_isSign_111
    ·
      refine lv_tableIn (off := 107) (tgt := 108) hx hb dX6_isSign_1 (by omega) (by omega) (by rw [h_2]; decide) (by decide) ?_
      refine lv_iconst (v := 1) hx hb dX6_isSign_108 (by decide) ?_
      exact W.zret (v := 1) hx hb hr rfl (fun t ht hW => ⟨1, rfl, (by have h0 := t_1; (try dsimp only); omega), ht⟩) (fun q h => by cases h) dX6_isSign_109
    ·
      refine lv_tableIn (off := 107) (tgt := 108) hx hb dX6_isSign_1 (by omega) (by omega) (by rw [h_2]; decide) (by decide) ?_
      refine lv_iconst (v := 1) hx hb dX6_isSign_108 (by decide) ?_
      exact W.zret (v := 1) hx hb hr rfl (fun t ht hW => ⟨1, rfl, (by have h0 := t_1; (try dsimp only); omega), ht⟩) (fun q h => by cases h) dX6_isSign_109
    ·
      refine lv_tableIn (off := 107) (tgt := 108) hx hb dX6_isSign_1 (by omega) (by omega) (by rw [h_2]; decide) (by decide) ?_
      refine lv_iconst (v := 1) hx hb dX6_isSign_108 (by decide) ?_
      exact W.zret (v := 1) hx hb hr rfl (fun t ht hW => ⟨1, rfl, (by have h0 := t_1; (try dsimp only); omega), ht⟩) (fun q h => by cases h) dX6_isSign_109
set_option maxHeartbeats 4000000 in
set_option maxRecDepth 100000 in
theorem g_X6_add (l : Launch) (D : va_G) (E : Nat → Nat) (th : Nat) (ta : Nat → Nat) (tsize : Int32) (trule : Nat) (twords : Nat) (tat : Int32) (tword : Int32) (twordAt : Int32) (tvalue : Int32) (tf0 : Nat → Int32) (p0 : Int32) (sz : Nat) (hi_t : (0 ≤ tsize.toInt ∧ tsize.toInt ≤ 120)) : Met l yX6_add (wl yX6_add cX6_add 2 none) (RM 0 0 0) (mu_P D E [.ref th, .int p0] [(th, .inr (6, G6 ta tsize trule twords tat tword twordAt tvalue)), ((ta 0), .inl (E 0, 120, .inl tf0))] sz) (va_Qv (fun (u : (Nat → Int32) × (Int32)) => (0 ≤ u.2.toInt ∧ u.2.toInt ≤ 120) ∧ ((tsize.toInt < 120 ∧ u.2.toInt = tsize.toInt + 1) ∨ (tsize.toInt = 120 ∧ u.2.toInt = 120))) (mu_B D (va_A [(th, .inr (6, G6 ta tsize trule twords tat tword twordAt tvalue)), ((ta 0), .inl (E 0, 120, .inl tf0))] sz) (fun (u : (Nat → Int32) × (Int32)) => [(th, .inr (6, G6 ta u.2 trule twords tat tword twordAt tvalue)), ((ta 0), .inl (E 0, 120, .inl u.1))])) (va_A [(th, .inr (6, G6 ta tsize trule twords tat tword twordAt tvalue)), ((ta 0), .inl (E 0, 120, .inl tf0))] sz)) 0 0 (va_A [(th, .inr (6, G6 ta tsize trule twords tat tword twordAt tvalue)), ((ta 0), .inl (E 0, 120, .inl tf0))] sz) := by
  refine Met.ofW (cc := cX6_add) (maxL := 2) (ret := none) (by decide) rfl ?_
  intro p e s m args below meth c s₁ B hml hv
  obtain ⟨rfl, hsz, hP, hK, hD0⟩ := hv
  have hx := B.exec; have hb := B.bytes; have hr := B.returns
  have hts := atoms_spec (ws := wl yX6_add cX6_add 2 none) B.pre
  have htb : ∀ w ∈ tb, w.before _ s = true := fun w h => hts w (List.mem_cons_of_mem _ h)
  have hown : s.vm.findClass RX6 = some m.cls := findClass_of_methodNamed B.named
  have hlocks := B.notSynchronized
  subst hsz
  have hD := hD0.self (sz := s.heap.size)
  generalize hAe : va_A [(th, .inr (6, G6 ta tsize trule twords tat tword twordAt tvalue)), ((ta 0), .inl (E 0, 120, .inl tf0))] s.heap.size = A at hD ⊢
  have hA : ∀ q : Nat, s.heap.size ≤ q → A q := fun q h => by rw [← hAe]; exact Or.inr h
  have hS : va_S A s.heap s.heap [] := va_S.rf
  have hP : va_P D vwCl [(th, .inr (6, G6 ta tsize trule twords tat tword twordAt tvalue)), ((ta 0), .inl (E 0, 120, .inl tf0))] s.heap := hP
  have hl := lv_entry ([.ref th, .int p0]) (n := 2) (Nat.le_of_ble_eq_true rfl)
  rw [lg_entry_eq]
  generalize (lg_sl ([.ref th, .int p0]) ++ List.replicate (2 - (lg_sl ([.ref th, .int p0])).length) Slot.unset).toArray = ls at hl ⊢
  have hl : lv_has ls 2 [(0, .ref th), (1, .int p0)] := hl
  have lo_p0 := i_lo p0; have hi_p0 := i_hi p0
  refine lv_aload_n hx hb dX6_add_0 rfl (lv_at hl 0 rfl) ?_
  refine va_get (D := D) (ci := 6) (v := .int tsize) (C := RX6) (T := TX6) (N := 8) hx hb htb iX6 hown hK.1 hP 0 rfl rfl 1 (by decide) (htb _ k_158) (fun _ h9 => h9) rfl dX6_add_1 ?_
  refine lv_bipush (v := 120) hx hb dX6_add_4 (by decide) ?_
  refine lv_icmp_ge (tgt := 29) hx hb dX6_add_6 (by decide) (fun c_1 => ?_) (fun c_1 => ?_)
  ·
    have ic_1 : 120 ≤ tsize.toInt := by first | exact (g_le t_120 rfl).mp c_1 | (have h := mt (g_lt rfl t_120).mpr c_1; omega)
    clear c_1
    have hP9 := hP.sub (ws' := [(th, .inr (6, G6 ta tsize trule twords tat tword twordAt tvalue)), ((ta 0), .inl (E 0, 120, .inl tf0))]) [0, 1] rfl
    have hD9 := hD.sub (ws' := [(th, .inr (6, G6 ta tsize trule twords tat tword twordAt tvalue)), ((ta 0), .inl (E 0, 120, .inl tf0))]) [0, 1] (by decide) rfl
    exact W.vret hx hb hr (fun t ht hW => ⟨⟨(tf0, tsize), rfl, ⟨(by (try dsimp only); omega), (by (try dsimp only); omega)⟩, by rw [ht]; exact hP9, hD9⟩, hS.F ht⟩) hS.2.2 dX6_add_29
  ·
    have ic_1 : tsize.toInt < 120 := by first | exact (g_lt rfl t_120).mp c_1 | (have h := mt (g_le t_120 rfl).mpr c_1; omega)
    clear c_1
    refine lv_aload_n hx hb dX6_add_9 rfl (lv_at hl 0 rfl) ?_
    refine va_get (D := D) (ci := 6) (v := .ref (ta 0)) (C := RX6) (T := TX6) (N := 8) hx hb htb iX6 hown hK.1 hP 0 rfl rfl 0 (by decide) (htb _ k_157) (fun _ h9 => h9) rfl dX6_add_10 ?_
    refine lv_aload_n hx hb dX6_add_13 rfl (lv_at hl 0 rfl) ?_
    refine va_get (D := D) (ci := 6) (v := .int tsize) (C := RX6) (T := TX6) (N := 8) hx hb htb iX6 hown hK.1 hP 0 rfl rfl 1 (by decide) (htb _ k_158) (fun _ h9 => h9) rfl dX6_add_14 ?_
    refine lv_iload_n hx hb dX6_add_17 rfl (lv_at hl 1 rfl) ?_
    refine va_iast hx hb hK.1 hP hD hS 1 0 rfl rfl (g_in rfl (by omega) (by omega)) dX6_add_18 (fun H locs hP hD hS => ?_)
    have hP : va_P D vwCl [(th, .inr (6, G6 ta tsize trule twords tat tword twordAt tvalue)), ((ta 0), .inl (E 0, 120, .inl (upd tf0 (tsize : Int32).toNatClampNeg p0)))] H := hP
    have hD := toW hP hD rfl
    refine lv_aload_n hx hb dX6_add_19 rfl (lv_at hl 0 rfl) ?_
    refine lv_dup hx hb dX6_add_20 rfl ?_
    refine va_get (D := D) (ci := 6) (v := .int tsize) (C := RX6) (T := TX6) (N := 8) hx hb htb iX6 hown hK.1 hP 0 rfl rfl 1 (by decide) (htb _ k_158) (fun _ h9 => h9) rfl dX6_add_21 ?_
    refine lv_iconst (v := 1) hx hb dX6_add_24 (by decide) ?_
    refine lv_iadd hx hb dX6_add_25 ?_
    refine lv_topi (fun z_2 ez_2 => ?_)
    have jz_2 : z_2.toInt = tsize.toInt + 1 := by rw [ez_2]; exact g_add rfl t_1 (by omega) (by omega)
    refine va_put (D := D) (ci := 6) (v := .int z_2) (ty := .int) (C := RX6) (T := TX6) (N := 8) hx hb htb iX6 tyX6 tyX6_ok nmX6 hown hK.1 hP hD hS 0 rfl rfl 1 (by decide) (htb _ k_158) (fun _ h9 => h9) rfl (by decide +kernel) rfl rfl (Nat.le_of_ble_eq_true rfl) dX6_add_26 (fun H locs hP hD hS => ?_)
    have hP : va_P D vwCl [(th, .inr (6, G6 ta z_2 trule twords tat tword twordAt tvalue)), ((ta 0), .inl (E 0, 120, .inl (upd tf0 (tsize : Int32).toNatClampNeg p0)))] H := hP
    have hD := toW hP hD rfl
    have hP9 := hP.sub (ws' := [(th, .inr (6, G6 ta z_2 trule twords tat tword twordAt tvalue)), ((ta 0), .inl (E 0, 120, .inl (upd tf0 (tsize : Int32).toNatClampNeg p0)))]) [0, 1] rfl
    have hD9 := hD.sub (ws' := [(th, .inr (6, G6 ta z_2 trule twords tat tword twordAt tvalue)), ((ta 0), .inl (E 0, 120, .inl (upd tf0 (tsize : Int32).toNatClampNeg p0)))]) [0, 1] (by decide) rfl
    exact W.vret hx hb hr (fun t ht hW => ⟨⟨((upd tf0 (tsize : Int32).toNatClampNeg p0), z_2), rfl, ⟨(by (try dsimp only); omega), (by (try dsimp only); omega)⟩, by rw [ht]; exact hP9, hD9⟩, hS.F ht⟩) hS.2.2 dX6_add_29
set_option maxHeartbeats 4000000 in
set_option maxRecDepth 100000 in
theorem g_X6_takeDigits (l : Launch) (D : va_G) (E : Nat → Nat) (th : Nat) (ta : Nat → Nat) (tsize : Int32) (trule : Nat) (twords : Nat) (tat : Int32) (tword : Int32) (twordAt : Int32) (tvalue : Int32) (tf0 : Nat → Int32) (sz : Nat) (hi_t : (0 ≤ tsize.toInt ∧ tsize.toInt ≤ 120)) (g0 : 0 ≤ tat.toInt ∧ tat.toInt ≤ tsize.toInt ∧ 0 ≤ twordAt.toInt ∧ twordAt.toInt ≤ tat.toInt) : Met l yX6_takeDigits (wl yX6_takeDigits cX6_takeDigits 1 none) (RM 1 0 0) (mu_P D E [.ref th] [(th, .inr (6, G6 ta tsize trule twords tat tword twordAt tvalue)), ((ta 0), .inl (E 0, 120, .inl tf0))] sz) (va_Qv (fun (u : (Int32) × (Int32) × (Int32)) => (tat.toInt ≤ u.1.toInt ∧ u.1.toInt ≤ tsize.toInt)) (mu_B D (va_A [(th, .inr (6, G6 ta tsize trule twords tat tword twordAt tvalue)), ((ta 0), .inl (E 0, 120, .inl tf0))] sz) (fun (u : (Int32) × (Int32) × (Int32)) => [(th, .inr (6, G6 ta tsize trule twords u.1 u.2.2 twordAt u.2.1)), ((ta 0), .inl (E 0, 120, .inl tf0))])) (va_A [(th, .inr (6, G6 ta tsize trule twords tat tword twordAt tvalue)), ((ta 0), .inl (E 0, 120, .inl tf0))] sz)) 0 0 (va_A [(th, .inr (6, G6 ta tsize trule twords tat tword twordAt tvalue)), ((ta 0), .inl (E 0, 120, .inl tf0))] sz) := by
  refine Met.ofW (cc := cX6_takeDigits) (maxL := 1) (ret := none) (by decide) rfl ?_
  intro p e s m args below meth c s₁ B hml hv
  obtain ⟨rfl, hsz, hP, hK, hD0⟩ := hv
  have hx := B.exec; have hb := B.bytes; have hr := B.returns
  have hts := atoms_spec (ws := wl yX6_takeDigits cX6_takeDigits 1 none) B.pre
  have htb : ∀ w ∈ tb, w.before _ s = true := fun w h => hts w (List.mem_cons_of_mem _ h)
  have hown : s.vm.findClass RX6 = some m.cls := findClass_of_methodNamed B.named
  have hlocks := B.notSynchronized
  subst hsz
  have hD := hD0.self (sz := s.heap.size)
  generalize hAe : va_A [(th, .inr (6, G6 ta tsize trule twords tat tword twordAt tvalue)), ((ta 0), .inl (E 0, 120, .inl tf0))] s.heap.size = A at hD ⊢
  have hA : ∀ q : Nat, s.heap.size ≤ q → A q := fun q h => by rw [← hAe]; exact Or.inr h
  have hS : va_S A s.heap s.heap [] := va_S.rf
  have hP : va_P D vwCl [(th, .inr (6, G6 ta tsize trule twords tat tword twordAt tvalue)), ((ta 0), .inl (E 0, 120, .inl tf0))] s.heap := hP
  have hl := lv_entry ([.ref th]) (n := 1) (Nat.le_of_ble_eq_true rfl)
  rw [lg_entry_eq]
  generalize (lg_sl ([.ref th]) ++ List.replicate (1 - (lg_sl ([.ref th])).length) Slot.unset).toArray = ls at hl ⊢
  have hl : lv_has ls 1 [(0, .ref th)] := hl
  refine lv_aload_n hx hb dX6_takeDigits_0 rfl (lv_at hl 0 rfl) ?_
  refine lv_iconst (v := 0) hx hb dX6_takeDigits_1 (by decide) ?_
  refine va_put (D := D) (ci := 6) (v := .int 0) (ty := .int) (C := RX6) (T := TX6) (N := 8) hx hb htb iX6 tyX6 tyX6_ok nmX6 hown hK.1 hP hD hS 0 rfl rfl 7 (by decide) (htb _ k_165) (fun _ h9 => h9) rfl (by decide +kernel) rfl rfl (Nat.le_of_ble_eq_true rfl) dX6_takeDigits_2 (fun H locs hP hD hS => ?_)
  have hP : va_P D vwCl [(th, .inr (6, G6 ta tsize trule twords tat tword twordAt 0)), ((ta 0), .inl (E 0, 120, .inl tf0))] H := hP
  have hD := toW hP hD rfl
  have loop_1 : ∀ (N_3 : Nat) (tat_5 : Int32) (tvalue_5 : Int32) (H : Heap) (locs : List Loc) (ls : Array Slot), tsize.toInt - tat_5.toInt < (N_3 : Int) → (tat.toInt ≤ tat_5.toInt ∧ tat_5.toInt ≤ tsize.toInt) → va_P D vwCl [(th, .inr (6, G6 ta tsize trule twords tat_5 tword twordAt tvalue_5)), ((ta 0), .inl (E 0, 120, .inl tf0))] H → va_D A [(th, .inr (6, G6 ta tsize trule twords tat_5 tword twordAt tvalue_5)), ((ta 0), .inl (E 0, 120, .inl tf0))] → va_S A s.heap H locs → lv_has ls 1 [(0, .ref th)] → W p l e (headSpec (wl yX6_takeDigits cX6_takeDigits 1 none) (RM 1 0 0)).room s m [Value.ref th].toArray below meth c H locs 0 0 (MQ below (va_Qv (fun (u : (Int32) × (Int32) × (Int32)) => (tat.toInt ≤ u.1.toInt ∧ u.1.toInt ≤ tsize.toInt)) (mu_B D A (fun (u : (Int32) × (Int32) × (Int32)) => [(th, .inr (6, G6 ta tsize trule twords u.1 u.2.2 twordAt u.2.1)), ((ta 0), .inl (E 0, 120, .inl tf0))])) A) [Value.ref th].toArray s 0 0 A) (F0 m 5 ls []) := by
    intro N_3
    induction N_3 with
    | zero => intro tat_5 tvalue_5 H locs ls hm v0_5 _ _ _ _; exfalso; omega
    | succ N_3 ih_2 =>
      intro tat_5 tvalue_5 H locs ls hm v0_5 hP hD hS hl
      have lo_tat_5 := i_lo tat_5; have hi_tat_5 := i_hi tat_5
      have lo_tvalue_5 := i_lo tvalue_5; have hi_tvalue_5 := i_hi tvalue_5
      refine lv_aload_n hx hb dX6_takeDigits_5 rfl (lv_at hl 0 rfl) ?_
      refine va_get (D := D) (ci := 6) (v := .int tat_5) (C := RX6) (T := TX6) (N := 8) hx hb htb iX6 hown hK.1 hP 0 rfl rfl 4 (by decide) (htb _ k_162) (fun _ h9 => h9) rfl dX6_takeDigits_6 ?_
      refine lv_aload_n hx hb dX6_takeDigits_9 rfl (lv_at hl 0 rfl) ?_
      refine va_get (D := D) (ci := 6) (v := .int tsize) (C := RX6) (T := TX6) (N := 8) hx hb htb iX6 hown hK.1 hP 0 rfl rfl 1 (by decide) (htb _ k_158) (fun _ h9 => h9) rfl dX6_takeDigits_10 ?_
      refine lv_icmp_ge (tgt := 68) hx hb dX6_takeDigits_13 (by decide) (fun c_4 => ?_) (fun c_4 => ?_)
      ·
        have ic_4 : tsize.toInt ≤ tat_5.toInt := by first | exact (g_le rfl rfl).mp c_4 | (have h := mt (g_lt rfl rfl).mpr c_4; omega)
        clear c_4
        refine lv_aload_n hx hb dX6_takeDigits_68 rfl (lv_at hl 0 rfl) ?_
        refine lv_aload_n hx hb dX6_takeDigits_69 rfl (lv_at hl 0 rfl) ?_
        refine va_get (D := D) (ci := 6) (v := .int tat_5) (C := RX6) (T := TX6) (N := 8) hx hb htb iX6 hown hK.1 hP 0 rfl rfl 4 (by decide) (htb _ k_162) (fun _ h9 => h9) rfl dX6_takeDigits_70 ?_
        refine lv_aload_n hx hb dX6_takeDigits_73 rfl (lv_at hl 0 rfl) ?_
        refine va_get (D := D) (ci := 6) (v := .int twordAt) (C := RX6) (T := TX6) (N := 8) hx hb htb iX6 hown hK.1 hP 0 rfl rfl 6 (by decide) (htb _ k_164) (fun _ h9 => h9) rfl dX6_takeDigits_74 ?_
        refine lv_isub hx hb dX6_takeDigits_77 ?_
        refine lv_topi (fun z_5 ez_5 => ?_)
        have jz_5 : z_5.toInt = tat_5.toInt - twordAt.toInt := by rw [ez_5]; exact g_sub rfl rfl (by omega) (by omega)
        refine lv_iconst (v := 5) hx hb dX6_takeDigits_78 (by decide) ?_
        refine lv_icmp_gt (tgt := 86) hx hb dX6_takeDigits_79 (by decide) (fun c_6 => ?_) (fun c_6 => ?_)
        ·
          have ic_6 : 5 < z_5.toInt := by first | exact (g_lt t_5 rfl).mp c_6 | (have h := mt (g_le rfl t_5).mpr c_6; omega)
          clear c_6
          refine lv_iconst (v := 1) hx hb dX6_takeDigits_86 (by decide) ?_
          refine va_put (D := D) (ci := 6) (v := .int 1) (ty := .int) (C := RX6) (T := TX6) (N := 8) hx hb htb iX6 tyX6 tyX6_ok nmX6 hown hK.1 hP hD hS 0 rfl rfl 5 (by decide) (htb _ k_163) (fun _ h9 => h9) rfl (by decide +kernel) rfl rfl (Nat.le_of_ble_eq_true rfl) dX6_takeDigits_87 (fun H locs hP hD hS => ?_)
          have hP : va_P D vwCl [(th, .inr (6, G6 ta tsize trule twords tat_5 1 twordAt tvalue_5)), ((ta 0), .inl (E 0, 120, .inl tf0))] H := hP
          have hD := toW hP hD rfl
          have hP9 := hP.sub (ws' := [(th, .inr (6, G6 ta tsize trule twords tat_5 1 twordAt tvalue_5)), ((ta 0), .inl (E 0, 120, .inl tf0))]) [0, 1] rfl
          have hD9 := hD.sub (ws' := [(th, .inr (6, G6 ta tsize trule twords tat_5 1 twordAt tvalue_5)), ((ta 0), .inl (E 0, 120, .inl tf0))]) [0, 1] (by decide) rfl
          exact W.vret hx hb hr (fun t ht hW => ⟨⟨(tat_5, tvalue_5, (1 : Int32)), rfl, (by have h0 := t_1; (try dsimp only); omega), by rw [ht]; exact hP9, hD9⟩, hS.F ht⟩) hS.2.2 dX6_takeDigits_90
        ·
          have ic_6 : z_5.toInt ≤ 5 := by first | exact (g_le rfl t_5).mp c_6 | (have h := mt (g_lt t_5 rfl).mpr c_6; omega)
          clear c_6
          refine lv_iconst (v := 2) hx hb dX6_takeDigits_82 (by decide) ?_
          refine lv_goto (tgt := 87) hx hb dX6_takeDigits_83 (by decide) ?_
          refine va_put (D := D) (ci := 6) (v := .int 2) (ty := .int) (C := RX6) (T := TX6) (N := 8) hx hb htb iX6 tyX6 tyX6_ok nmX6 hown hK.1 hP hD hS 0 rfl rfl 5 (by decide) (htb _ k_163) (fun _ h9 => h9) rfl (by decide +kernel) rfl rfl (Nat.le_of_ble_eq_true rfl) dX6_takeDigits_87 (fun H locs hP hD hS => ?_)
          have hP : va_P D vwCl [(th, .inr (6, G6 ta tsize trule twords tat_5 2 twordAt tvalue_5)), ((ta 0), .inl (E 0, 120, .inl tf0))] H := hP
          have hD := toW hP hD rfl
          have hP9 := hP.sub (ws' := [(th, .inr (6, G6 ta tsize trule twords tat_5 2 twordAt tvalue_5)), ((ta 0), .inl (E 0, 120, .inl tf0))]) [0, 1] rfl
          have hD9 := hD.sub (ws' := [(th, .inr (6, G6 ta tsize trule twords tat_5 2 twordAt tvalue_5)), ((ta 0), .inl (E 0, 120, .inl tf0))]) [0, 1] (by decide) rfl
          exact W.vret hx hb hr (fun t ht hW => ⟨⟨(tat_5, tvalue_5, (2 : Int32)), rfl, (by have h0 := t_2; (try dsimp only); omega), by rw [ht]; exact hP9, hD9⟩, hS.F ht⟩) hS.2.2 dX6_takeDigits_90
      ·
        have ic_4 : tat_5.toInt < tsize.toInt := by first | exact (g_lt rfl rfl).mp c_4 | (have h := mt (g_le rfl rfl).mpr c_4; omega)
        clear c_4
        refine lv_aload_n hx hb dX6_takeDigits_16 rfl (lv_at hl 0 rfl) ?_
        refine va_get (D := D) (ci := 6) (v := .ref (ta 0)) (C := RX6) (T := TX6) (N := 8) hx hb htb iX6 hown hK.1 hP 0 rfl rfl 0 (by decide) (htb _ k_157) (fun _ h9 => h9) rfl dX6_takeDigits_17 ?_
        refine lv_aload_n hx hb dX6_takeDigits_20 rfl (lv_at hl 0 rfl) ?_
        refine va_get (D := D) (ci := 6) (v := .int tat_5) (C := RX6) (T := TX6) (N := 8) hx hb htb iX6 hown hK.1 hP 0 rfl rfl 4 (by decide) (htb _ k_162) (fun _ h9 => h9) rfl dX6_takeDigits_21 ?_
        refine va_iald hx hb hK.1 hP 1 0 rfl rfl (g_in rfl (by omega) (by omega)) dX6_takeDigits_24 ?_
        refine lv_topi (fun z_7 ez_7 => ?_)
        have kz_7 := congrArg Int32.toInt ez_7
        refine callRS (rest := []) (As := [.int z_7]) hx hb hml hown htb hK (g_X6_isDigit l D E z_7 ) ok_X6_isDigit k_658 k_659 k_5 k_660 ⟨(Nat.le_of_ble_eq_true rfl), (Nat.le_of_ble_eq_true rfl)⟩ ⟨(Nat.le_of_ble_eq_true rfl), (Nat.le_of_ble_eq_true rfl)⟩ hl.1 (Nat.le_of_ble_eq_true rfl) rfl rfl dX6_takeDigits_25 (hP.sub (ws' := ([] : va_W)) [] rfl) (fun r_8 hw_9 => ?_)
        rcases hw_9 with ⟨hr_8, hw_9⟩ | ⟨hr_8, hw_9⟩
        ·
          refine W_top (y := .int 1) (by rw [hr_8]) ?_
          refine lv_if_eq (tgt := 68) hx hb dX6_takeDigits_28 (by decide) (fun c_11 => absurd c_11 (by decide)) (fun c_11 => ?_)
          refine lv_aload_n hx hb dX6_takeDigits_31 rfl (lv_at hl 0 rfl) ?_
          refine lv_bipush (v := 10) hx hb dX6_takeDigits_32 (by decide) ?_
          refine lv_aload_n hx hb dX6_takeDigits_34 rfl (lv_at hl 0 rfl) ?_
          refine va_get (D := D) (ci := 6) (v := .int tvalue_5) (C := RX6) (T := TX6) (N := 8) hx hb htb iX6 hown hK.1 hP 0 rfl rfl 7 (by decide) (htb _ k_165) (fun _ h9 => h9) rfl dX6_takeDigits_35 ?_
          refine lv_imul hx hb dX6_takeDigits_38 ?_
          refine lv_topi (fun z_12 ez_12 => ?_)
          refine lv_aload_n hx hb dX6_takeDigits_39 rfl (lv_at hl 0 rfl) ?_
          refine va_get (D := D) (ci := 6) (v := .ref (ta 0)) (C := RX6) (T := TX6) (N := 8) hx hb htb iX6 hown hK.1 hP 0 rfl rfl 0 (by decide) (htb _ k_157) (fun _ h9 => h9) rfl dX6_takeDigits_40 ?_
          refine lv_aload_n hx hb dX6_takeDigits_43 rfl (lv_at hl 0 rfl) ?_
          refine va_get (D := D) (ci := 6) (v := .int tat_5) (C := RX6) (T := TX6) (N := 8) hx hb htb iX6 hown hK.1 hP 0 rfl rfl 4 (by decide) (htb _ k_162) (fun _ h9 => h9) rfl dX6_takeDigits_44 ?_
          refine va_iald hx hb hK.1 hP 1 0 rfl rfl (g_in rfl (by omega) (by omega)) dX6_takeDigits_47 ?_
          refine lv_topi (fun z_13 ez_13 => ?_)
          have kz_13 := congrArg Int32.toInt ez_13
          refine lv_iadd hx hb dX6_takeDigits_48 ?_
          refine lv_topi (fun z_14 ez_14 => ?_)
          refine lv_bipush (v := 48) hx hb dX6_takeDigits_49 (by decide) ?_
          refine lv_isub hx hb dX6_takeDigits_51 ?_
          refine lv_topi (fun z_15 ez_15 => ?_)
          refine va_put (D := D) (ci := 6) (v := .int z_15) (ty := .int) (C := RX6) (T := TX6) (N := 8) hx hb htb iX6 tyX6 tyX6_ok nmX6 hown hK.1 hP hD hS 0 rfl rfl 7 (by decide) (htb _ k_165) (fun _ h9 => h9) rfl (by decide +kernel) rfl rfl (Nat.le_of_ble_eq_true rfl) dX6_takeDigits_52 (fun H locs hP hD hS => ?_)
          have hP : va_P D vwCl [(th, .inr (6, G6 ta tsize trule twords tat_5 tword twordAt z_15)), ((ta 0), .inl (E 0, 120, .inl tf0))] H := hP
          have hD := toW hP hD rfl
          refine lv_aload_n hx hb dX6_takeDigits_55 rfl (lv_at hl 0 rfl) ?_
          refine lv_dup hx hb dX6_takeDigits_56 rfl ?_
          refine va_get (D := D) (ci := 6) (v := .int tat_5) (C := RX6) (T := TX6) (N := 8) hx hb htb iX6 hown hK.1 hP 0 rfl rfl 4 (by decide) (htb _ k_162) (fun _ h9 => h9) rfl dX6_takeDigits_57 ?_
          refine lv_iconst (v := 1) hx hb dX6_takeDigits_60 (by decide) ?_
          refine lv_iadd hx hb dX6_takeDigits_61 ?_
          refine lv_topi (fun z_16 ez_16 => ?_)
          have jz_16 : z_16.toInt = tat_5.toInt + 1 := by rw [ez_16]; exact g_add rfl t_1 (by omega) (by omega)
          refine va_put (D := D) (ci := 6) (v := .int z_16) (ty := .int) (C := RX6) (T := TX6) (N := 8) hx hb htb iX6 tyX6 tyX6_ok nmX6 hown hK.1 hP hD hS 0 rfl rfl 4 (by decide) (htb _ k_162) (fun _ h9 => h9) rfl (by decide +kernel) rfl rfl (Nat.le_of_ble_eq_true rfl) dX6_takeDigits_62 (fun H locs hP hD hS => ?_)
          have hP : va_P D vwCl [(th, .inr (6, G6 ta tsize trule twords z_16 tword twordAt z_15)), ((ta 0), .inl (E 0, 120, .inl tf0))] H := hP
          have hD := toW hP hD rfl
          refine lv_goto (tgt := 5) hx hb dX6_takeDigits_65 (by decide) ?_
          exact ih_2 z_16 z_15 _ _ _ (by (try dsimp only); omega) (by (try dsimp only); omega) hP hD hS (lv_sub hl [0] rfl)
        ·
          refine W_top (y := .int 0) (by rw [hr_8]) ?_
          refine lv_if_eq (tgt := 68) hx hb dX6_takeDigits_28 (by decide) (fun c_17 => ?_) (fun c_17 => absurd (by decide) c_17)
          refine lv_aload_n hx hb dX6_takeDigits_68 rfl (lv_at hl 0 rfl) ?_
          refine lv_aload_n hx hb dX6_takeDigits_69 rfl (lv_at hl 0 rfl) ?_
          refine va_get (D := D) (ci := 6) (v := .int tat_5) (C := RX6) (T := TX6) (N := 8) hx hb htb iX6 hown hK.1 hP 0 rfl rfl 4 (by decide) (htb _ k_162) (fun _ h9 => h9) rfl dX6_takeDigits_70 ?_
          refine lv_aload_n hx hb dX6_takeDigits_73 rfl (lv_at hl 0 rfl) ?_
          refine va_get (D := D) (ci := 6) (v := .int twordAt) (C := RX6) (T := TX6) (N := 8) hx hb htb iX6 hown hK.1 hP 0 rfl rfl 6 (by decide) (htb _ k_164) (fun _ h9 => h9) rfl dX6_takeDigits_74 ?_
          refine lv_isub hx hb dX6_takeDigits_77 ?_
          refine lv_topi (fun z_18 ez_18 => ?_)
          have jz_18 : z_18.toInt = tat_5.toInt - twordAt.toInt := by rw [ez_18]; exact g_sub rfl rfl (by omega) (by omega)
          refine lv_iconst (v := 5) hx hb dX6_takeDigits_78 (by decide) ?_
          refine lv_icmp_gt (tgt := 86) hx hb dX6_takeDigits_79 (by decide) (fun c_19 => ?_) (fun c_19 => ?_)
          ·
            have ic_19 : 5 < z_18.toInt := by first | exact (g_lt t_5 rfl).mp c_19 | (have h := mt (g_le rfl t_5).mpr c_19; omega)
            clear c_19
            refine lv_iconst (v := 1) hx hb dX6_takeDigits_86 (by decide) ?_
            refine va_put (D := D) (ci := 6) (v := .int 1) (ty := .int) (C := RX6) (T := TX6) (N := 8) hx hb htb iX6 tyX6 tyX6_ok nmX6 hown hK.1 hP hD hS 0 rfl rfl 5 (by decide) (htb _ k_163) (fun _ h9 => h9) rfl (by decide +kernel) rfl rfl (Nat.le_of_ble_eq_true rfl) dX6_takeDigits_87 (fun H locs hP hD hS => ?_)
            have hP : va_P D vwCl [(th, .inr (6, G6 ta tsize trule twords tat_5 1 twordAt tvalue_5)), ((ta 0), .inl (E 0, 120, .inl tf0))] H := hP
            have hD := toW hP hD rfl
            have hP9 := hP.sub (ws' := [(th, .inr (6, G6 ta tsize trule twords tat_5 1 twordAt tvalue_5)), ((ta 0), .inl (E 0, 120, .inl tf0))]) [0, 1] rfl
            have hD9 := hD.sub (ws' := [(th, .inr (6, G6 ta tsize trule twords tat_5 1 twordAt tvalue_5)), ((ta 0), .inl (E 0, 120, .inl tf0))]) [0, 1] (by decide) rfl
            exact W.vret hx hb hr (fun t ht hW => ⟨⟨(tat_5, tvalue_5, (1 : Int32)), rfl, (by have h0 := t_1; (try dsimp only); omega), by rw [ht]; exact hP9, hD9⟩, hS.F ht⟩) hS.2.2 dX6_takeDigits_90
          ·
            have ic_19 : z_18.toInt ≤ 5 := by first | exact (g_le rfl t_5).mp c_19 | (have h := mt (g_lt t_5 rfl).mpr c_19; omega)
            clear c_19
            refine lv_iconst (v := 2) hx hb dX6_takeDigits_82 (by decide) ?_
            refine lv_goto (tgt := 87) hx hb dX6_takeDigits_83 (by decide) ?_
            refine va_put (D := D) (ci := 6) (v := .int 2) (ty := .int) (C := RX6) (T := TX6) (N := 8) hx hb htb iX6 tyX6 tyX6_ok nmX6 hown hK.1 hP hD hS 0 rfl rfl 5 (by decide) (htb _ k_163) (fun _ h9 => h9) rfl (by decide +kernel) rfl rfl (Nat.le_of_ble_eq_true rfl) dX6_takeDigits_87 (fun H locs hP hD hS => ?_)
            have hP : va_P D vwCl [(th, .inr (6, G6 ta tsize trule twords tat_5 2 twordAt tvalue_5)), ((ta 0), .inl (E 0, 120, .inl tf0))] H := hP
            have hD := toW hP hD rfl
            have hP9 := hP.sub (ws' := [(th, .inr (6, G6 ta tsize trule twords tat_5 2 twordAt tvalue_5)), ((ta 0), .inl (E 0, 120, .inl tf0))]) [0, 1] rfl
            have hD9 := hD.sub (ws' := [(th, .inr (6, G6 ta tsize trule twords tat_5 2 twordAt tvalue_5)), ((ta 0), .inl (E 0, 120, .inl tf0))]) [0, 1] (by decide) rfl
            exact W.vret hx hb hr (fun t ht hW => ⟨⟨(tat_5, tvalue_5, (2 : Int32)), rfl, (by have h0 := t_2; (try dsimp only); omega), by rw [ht]; exact hP9, hD9⟩, hS.F ht⟩) hS.2.2 dX6_takeDigits_90
  exact loop_1 121 tat 0 _ _ _ (by have h0 := t_0; (try dsimp only); omega) (by have h0 := t_0; (try dsimp only); omega) hP hD hS (lv_sub hl [0] rfl)
end
section
/-! ===== strings: their cells lie outside what a method writes ===== -/
def SG (t v n : Nat) (f : Nat → Int32) (A : Nat → Prop) (U : State) (H : Heap) : Prop :=
  va_Z "java/lang/String" "COMPACT_STRINGS" "Z" (.int 1) A U H ∧ va_Zq "jdk/internal/util/Preconditions" "SIOOBE_FORMATTER" "Ljava/util/function/BiFunction;" A U H ∧ va_O "java/lang/String" t A U H ∧ va_OF "java/lang/String" "coder" "B" (.int 0) t A U H ∧ va_OF "java/lang/String" "value" "[B" (.ref v) t A U H ∧ va_T .byte v n (fun j => .int (f j)) A U H
theorem SG.moved {t v n : Nat} {f : Nat → Int32} {A : Nat → Prop} {u U : State} {H : Heap} (hvm : u.vm.Alike U.vm) (h : SG t v n f A u H) : SG t v n f A U H :=
  ⟨va_Z.moved hvm h.1, va_Zq.moved hvm h.2.1, va_O.moved hvm h.2.2.1, va_OF.moved hvm h.2.2.2.1, va_OF.moved hvm h.2.2.2.2.1, va_T.moved hvm h.2.2.2.2.2⟩
theorem SG.kept {t v n : Nat} {f : Nat → Int32} {A : Nat → Prop} {U : State} {H H1 : Heap} (h : SG t v n f A U H) (hq : ∀ a : Nat, a < H.size → ¬ A a → H1[a]? = H[a]?) : SG t v n f A U H1 :=
  ⟨h.1.kept hq, h.2.1.kept hq, h.2.2.1.kept hq, h.2.2.2.1.kept hq, h.2.2.2.2.1.kept hq, h.2.2.2.2.2.kept hq⟩
theorem SG.narrow {t v n : Nat} {f : Nat → Int32} {A B : Nat → Prop} {U : State} {H : Heap} (h : SG t v n f A U H) (hAB : ∀ q, B q → A q) : SG t v n f B U H :=
  ⟨h.1.narrow hAB, h.2.1.narrow hAB, h.2.2.1.narrow hAB, h.2.2.2.1.narrow hAB, h.2.2.2.2.1.narrow hAB, h.2.2.2.2.2.narrow hAB⟩
def SGs (L : List (Nat × Nat × Nat × (Nat → Int32))) (A : Nat → Prop) (U : State) (H : Heap) : Prop := ∀ q ∈ L, SG q.1 q.2.1 q.2.2.1 q.2.2.2 A U H
theorem SGs.pass {L : List (Nat × Nat × Nat × (Nat → Int32))} {A B : Nat → Prop} {s U : State} {H : Heap} {locs : List Loc} (hG : SGs L A s s.heap) (hS : va_S A s.heap H locs) (hB : ∀ q, B q → A q) (hW : s.WarmedH U.vm) (hU : U.heap = H) : SGs L B U U.heap :=
  fun q hq => by rw [hU]; exact SG.moved hW.alike (((hG q hq).kept hS.2.1).narrow hB)
theorem SGs.one {L : List (Nat × Nat × Nat × (Nat → Int32))} {A : Nat → Prop} {s : State} {H : Heap} {x : Nat × Nat × Nat × (Nat → Int32)} (hG : SGs L A s H) (k : Nat) (hk : L[k]? = some x) : SGs [x] A s H :=
  fun q hq => by rw [List.mem_singleton.mp hq]; exact hG x (List.mem_of_getElem? hk)
theorem SGs.get {L : List (Nat × Nat × Nat × (Nat → Int32))} {A : Nat → Prop} {s : State} {H : Heap} {t v n : Nat} {f : Nat → Int32} (hG : SGs L A s H) (k : Nat) (hk : L[k]? = some (t, v, n, f)) : SG t v n f A s H := hG _ (List.mem_of_getElem? hk)
theorem SGs.calling {L : List (Nat × Nat × Nat × (Nat → Int32))} {A : Nat → Prop} {U : State} {H : Heap} (g : JFrame) (mk : MethodId) (a : Array Value) (h : SGs L A U H) : SGs L A (U.calling g mk a) H := fun q hq => SG.moved (u := U) (U := U.calling g mk a) (Vm.Alike.refl U.vm) (h q hq)
abbrev rdS_P (D : va_G) (E : Nat → Nat) (av : List Value) (wc : va_W) (L : List (Nat × Nat × Nat × (Nat → Int32))) : Array Value → State → Prop := va_Pc av (fun U => va_P D vwCl wc U.heap ∧ KX D E U ∧ SGs L (fun _ => False) U U.heap)
abbrev muS_P (D : va_G) (E : Nat → Nat) (av : List Value) (wc : va_W) (sz : Nat) (L : List (Nat × Nat × Nat × (Nat → Int32))) : Array Value → State → Prop := va_Pc av (fun U => U.heap.size = sz ∧ va_P D vwCl wc U.heap ∧ KX D E U ∧ va_D (fun _ => True) wc ∧ SGs L (va_A wc sz) U U.heap)
/-- a reading method that answers a reference -/
def rr_Q (a : Nat) : Array Value → State → Outcome → State → Prop := fun _ st oc t => oc = .returned (some (.ref a)) ∧ t.heap = st.heap
def ro_Q (post : Option Nat → Prop) : Array Value → State → Outcome → State → Prop := fun _ st oc t => ∃ r : Option Nat, oc = .returned (some (va_rf r)) ∧ post r ∧ t.heap = st.heap
theorem nI_len {n : Nat} {z : Int32} (h : n < 2147483647) (e : Int32.ofNat n = z) : z.toInt = n := by subst e; exact nI_toInt (by omega)
theorem shr_0 {n : Nat} {x z : Int32} (h : n < 2147483647) (e : Int32.ofNat n = x) (e2 : z = x >>> ((0 : Int32) &&& 31)) : z.toInt = n := by
  subst e2; subst e
  have := sc_shr0 (n := n) (by omega)
  have h3 : (Int32.ofNat n >>> ((0 : Int32) &&& 31)) = Int32.ofNat n := this
  rw [h3]; exact nI_len h rfl
theorem nar_z {v : Int32} (h0 : 0 ≤ v.toInt) (h1 : v.toInt ≤ 1) : narrow .boolean (.int v) = .int v := by
  rcases (show v.toInt = 0 ∨ v.toInt = 1 by omega) with h | h
  · have e : v = 0 := i_eq.mpr (by rw [h]; rfl)
    subst e; rfl
  · have e : v = 1 := i_eq.mpr (by rw [h]; rfl)
    subst e; rfl
section CALLS4
variable {p : Program} {l : Launch} {e : Env} {R : Room} {s : State} {m : MethodId} {args : Array Value} {below : List Frame} {meth : Method} {c : Code} {H : Heap} {locs : List Loc} {cells slots : Nat} {Q : State → Prop}
variable {cc : ByteArray} {pc : Nat} {ls : Array Slot} {rest st : List Value} {D : va_G} {E : Nat → Nat}
variable {nL n idx d mc ms maxL : Nat} {own : String} {y : MethodName} {bytes : ByteArray} {ret : Option FieldType} {L : List (Nat × Nat × Nat × (Nat → Int32))} {A : Nat → Prop}
theorem prVS {b : Nat} {As : List Value} {wc : va_W} (hP : va_P D vwCl wc H) (hK : KX D E s) {ci : Nat} {q : vw_C} {fs : List Value} (hc : vwCl[ci]? = some q) (hq : q.1 = y.cls) (q0 : Nat) (he : wc[q0]? = some (b, .inr (ci, fs))) (hG : SGs L A s s.heap) (hS : va_S A s.heap H locs) : PreV s H y.cls b (rdS_P D E (.ref b :: As) wc L) As :=
  ⟨fun a U g mk z => ⟨z.1, z.2.1, z.2.2.1.calling g mk a, z.2.2.2.calling g mk a⟩, by rw [← hq]; exact va_recv hK.1 hP hc he, fun U hU hW => ⟨rfl, by rw [hU]; exact hP, hK.warm hW, hG.pass hS (fun _ h => h.elim) hW hU⟩⟩
/-- the receiver is the text -/
theorem prVT {t v n : Nat} {f : Nat → Int32} {As : List Value} (hK : KX D E s) (k : Nat) (hk : L[k]? = some (t, v, n, f)) (hG : SGs L A s s.heap) (hS : va_S A s.heap H locs) : PreV s H "java/lang/String" t (rdS_P D E (.ref t :: As) [] L) As :=
  ⟨fun a U g mk z => ⟨z.1, z.2.1, z.2.2.1.calling g mk a, z.2.2.2.calling g mk a⟩, by obtain ⟨cell, h1, h2, h3, -⟩ := (hG.get k hk).2.2.1.kept hS.2.1; exact ⟨cell, h1, h2, h3⟩, fun U hU hW => ⟨rfl, (show va_P D vwCl [] U.heap from fun k q h => by simp at h), hK.warm hW, hG.pass hS (fun _ h => h.elim) hW hU⟩⟩
theorem prSS {As : List Value} {wc : va_W} (hP : va_P D vwCl wc H) (hK : KX D E s) (hG : SGs L A s s.heap) (hS : va_S A s.heap H locs) : PreS s H (rdS_P D E As wc L) As :=
  ⟨fun a U g mk z => ⟨z.1, z.2.1, z.2.2.1.calling g mk a, z.2.2.2.calling g mk a⟩, fun U hU hW => ⟨rfl, by rw [hU]; exact hP, hK.warm hW, hG.pass hS (fun _ h => h.elim) hW hU⟩⟩
theorem pmVS {b : Nat} {As : List Value} {wc : va_W} {A0 : Nat → Prop} (hP : va_P D vwCl wc H) (hD : va_D A0 wc) (hK : KX D E s) {ci : Nat} {q : vw_C} {fs : List Value} (hc : vwCl[ci]? = some q) (hq : q.1 = y.cls) (q0 : Nat) (he : wc[q0]? = some (b, .inr (ci, fs))) (hG : SGs L A s s.heap) (hS : va_S A s.heap H locs) (hB : ∀ q, va_A wc H.size q → A q) : PreV s H y.cls b (muS_P D E (.ref b :: As) wc H.size L) As :=
  ⟨fun a U g mk z => ⟨z.1, z.2.1, z.2.2.1, z.2.2.2.1.calling g mk a, z.2.2.2.2.1, z.2.2.2.2.2.calling g mk a⟩, by rw [← hq]; exact va_recv hK.1 hP hc he, fun U hU hW => ⟨rfl, by rw [hU], by rw [hU]; exact hP, hK.warm hW, hD.weaken (fun _ _ _ _ => trivial), hG.pass hS hB hW hU⟩⟩
theorem pmV2 {b : Nat} {As : List Value} {wc : va_W} {A0 : Nat → Prop} (hP : va_P D vwCl wc H) (hD : va_D A0 wc) (hK : KX D E s) {ci : Nat} {q : vw_C} {fs : List Value} (hc : vwCl[ci]? = some q) (hq : q.1 = y.cls) (q0 : Nat) (he : wc[q0]? = some (b, .inr (ci, fs))) : PreV s H y.cls b (mu_P D E (.ref b :: As) wc H.size) As := pmV hP hD hK hc hq q0 he
theorem rv_call {a : Array Value} (hr : CallRun p l e R s m args below meth c H locs cells slots 0 0 (F0 m pc ls st) rest (rv_Q a) (fun _ => False))
    (kk : W p l e R s m args below meth c H locs cells slots Q (F0 m (pc + 3) ls rest)) : W p l e R s m args below meth c H locs cells slots Q (F0 m pc ls st) := by
  intro T hT X
  obtain ⟨v, st₀, t, T', L, h0, X', hL, e1, ⟨hv, hh⟩, st⟩ := hr T hT X
  cases hv
  obtain ⟨t2, a1, b1⟩ := kk T' (by rw [e1, hh, h0]) (Stand.forget X' (fun q h => (hL q h).elim))
  exact ⟨t2, st t2 a1, b1⟩
theorem rr_call {b : Nat} {a : Array Value} (hr : CallRun p l e R s m args below meth c H locs cells slots 0 0 (F0 m pc ls st) rest (rr_Q b a) (fun _ => False))
    (kk : W p l e R s m args below meth c H locs cells slots Q (F0 m (pc + 3) ls (.ref b :: rest))) : W p l e R s m args below meth c H locs cells slots Q (F0 m pc ls st) := by
  intro T hT X
  obtain ⟨v, st₀, t, T', L, h0, X', hL, e1, ⟨hv, hh⟩, st⟩ := hr T hT X
  cases hv
  obtain ⟨t2, a1, b1⟩ := kk T' (by rw [e1, hh, h0]) (Stand.forget X' (fun q h => (hL q h).elim))
  exact ⟨t2, st t2 a1, b1⟩
theorem ro_call {post : Option Nat → Prop} {a : Array Value} (hr : CallRun p l e R s m args below meth c H locs cells slots 0 0 (F0 m pc ls st) rest (ro_Q post a) (fun _ => False))
    (kn : post none → W p l e R s m args below meth c H locs cells slots Q (F0 m (pc + 3) ls (.null :: rest))) (ks : ∀ b : Nat, post (some b) → W p l e R s m args below meth c H locs cells slots Q (F0 m (pc + 3) ls (.ref b :: rest))) : W p l e R s m args below meth c H locs cells slots Q (F0 m pc ls st) := by
  intro T hT X
  obtain ⟨v, st₀, t, T', L, h0, X', hL, e1, ⟨r, hv, hp, hh⟩, st⟩ := hr T hT X
  cases hv
  cases r with
  | none =>
    obtain ⟨t2, a1, b1⟩ := kn hp T' (by rw [e1, hh, h0]) (Stand.forget X' (fun q h => (hL q h).elim))
    exact ⟨t2, st t2 a1, b1⟩
  | some b =>
    obtain ⟨t2, a1, b1⟩ := ks b hp T' (by rw [e1, hh, h0]) (Stand.forget X' (fun q h => (hL q h).elim))
    exact ⟨t2, st t2 a1, b1⟩
/-- calls in general form: what the callee starts with is given as a whole -/
theorem runRV {b : Nat} {As : List Value} {Pc : Array Value → State → Prop} {Qc : Array Value → State → Outcome → State → Prop} (hx : p.tables.exec = Jvm.exec) (hb : c.code = cc) (hml : c.maxLocals = nL) (hown : s.vm.findClass own = some m.cls) (htb : ∀ w ∈ tb, w.before args s = true)
    (hM : Met l y (wl y bytes maxL ret) (RM d 0 0) Pc Qc 0 0 (fun _ => False)) (hy : yOk y n)
    (k1 : Cond.methodLink own idx y ∈ tb) (k2 : Cond.instanceMethod y ∈ tb) (k3 : Cond.selects y.cls y y ∈ tb) (k4 : Cond.initialized y.cls ∈ tb) (k5 : Cond.code y bytes maxL ret ∈ tb)
    (hR : d + 1 ≤ R.frames ∧ 8 + (maxL + 11) + 40 * d ≤ R.locals) (hf : cells ≤ R.cells ∧ slots ≤ R.slots) (hls : ls.size = nL) (hroom : (rest.map fun v => v.category).sum ≤ 8) (hn : As.length = n) (hst : st = As.reverse ++ .ref b :: rest) (hdg : decode cc pc = .ok (.invokevirtual idx, 3)) (hp : PreV s H y.cls b Pc As) :
    CallRun p l e R s m args below meth c H locs cells slots 0 0 (F0 m pc ls st) rest (Qc (Value.ref b :: As).toArray) (fun _ => False) :=
  W.runV (As := As) (rest := rest) (b := b) (C := y.cls) ⟨hx, hb, hml, hown, htb⟩ hM ⟨cB htb hy k1 k4 k5 hR, htb _ k2, htb _ k3⟩ hp rfl hn hls hst (l_room hroom) hdg hf
theorem runRS {As : List Value} {Pc : Array Value → State → Prop} {Qc : Array Value → State → Outcome → State → Prop} (hx : p.tables.exec = Jvm.exec) (hb : c.code = cc) (hml : c.maxLocals = nL) (hown : s.vm.findClass own = some m.cls) (htb : ∀ w ∈ tb, w.before args s = true)
    (hM : Met l y (wl y bytes maxL ret) (RM d 0 0) Pc Qc 0 0 (fun _ => False)) (hy : yOk y n)
    (k1 : Cond.methodLink own idx y ∈ tb) (k2 : Cond.static y ∈ tb) (k4 : Cond.initialized y.cls ∈ tb) (k5 : Cond.code y bytes maxL ret ∈ tb)
    (hR : d + 1 ≤ R.frames ∧ 8 + (maxL + 11) + 40 * d ≤ R.locals) (hf : cells ≤ R.cells ∧ slots ≤ R.slots) (hls : ls.size = nL) (hroom : (rest.map fun v => v.category).sum ≤ 8) (hn : As.length = n) (hst : st = As.reverse ++ rest) (hdg : decode cc pc = .ok (.invokestatic idx, 3)) (hp : PreS s H Pc As) :
    CallRun p l e R s m args below meth c H locs cells slots 0 0 (F0 m pc ls st) rest (Qc As.toArray) (fun _ => False) :=
  W.runS (As := As) (rest := rest) ⟨hx, hb, hml, hown, htb⟩ hM ⟨cB htb hy k1 k4 k5 hR, htb _ k2⟩ hp rfl hn hls hst (l_room hroom) hdg hf
theorem runMG {b : Nat} {As : List Value} {wc : va_W} {Pc : Array Value → State → Prop} {Qc : Array Value → State → Outcome → State → Prop} (hx : p.tables.exec = Jvm.exec) (hb : c.code = cc) (hml : c.maxLocals = nL) (hown : s.vm.findClass own = some m.cls) (htb : ∀ w ∈ tb, w.before args s = true)
    (hM : Met l y (wl y bytes maxL ret) (RM d mc ms) Pc Qc mc ms (va_A wc H.size)) (hy : yOk y n)
    (k1 : Cond.methodLink own idx y ∈ tb) (k2 : Cond.instanceMethod y ∈ tb) (k3 : Cond.selects y.cls y y ∈ tb) (k4 : Cond.initialized y.cls ∈ tb) (k5 : Cond.code y bytes maxL ret ∈ tb)
    (hR : d + 1 ≤ R.frames ∧ 8 + (maxL + 11) + 40 * d ≤ R.locals) (hf : cells + mc ≤ R.cells ∧ slots + ms ≤ R.slots) (hls : ls.size = nL) (hroom : (rest.map fun v => v.category).sum ≤ 8) (hn : As.length = n) (hst : st = As.reverse ++ .ref b :: rest) (hdg : decode cc pc = .ok (.invokevirtual idx, 3)) (hp : PreV s H y.cls b Pc As) :
    va_Run p l e R s m args below meth c H locs cells slots mc ms (F0 m pc ls st) rest (Qc (Value.ref b :: As).toArray) (va_A wc H.size) :=
  va_runV (As := As) (rest := rest) (b := b) (C := y.cls) ⟨hx, hb, hml, hown, htb⟩ hM ⟨cB htb hy k1 k4 k5 hR, htb _ k2, htb _ k3⟩ hp rfl hn hls hst (l_room hroom) hdg hf
/-- behind a method that writes and answers a known reference -/
theorem aft_r {S : Type} {A0 : Nat → Prop} {H0 : Heap} {ws wc : va_W} {ra : Nat} {post : S → Prop} {w1 : S → va_W} {a : Array Value}
    (hr : va_Run p l e R s m args below meth c H locs cells slots mc ms (F0 m pc ls st) rest (va_Qr post (fun u x t => x = ra ∧ mu_B D (va_A wc H.size) w1 u t) (va_A wc H.size) a) (va_A wc H.size))
    (hP : va_P D vwCl ws H) (hD : va_D A0 ws) (hS : va_S A0 H0 H locs) (hA : ∀ q, H0.size ≤ q → A0 q) (isC isR : List Nat) {wr : va_W} (hC : isC.map (fun i => ws[i]?) = wc.map some) (hR : isR.map (fun i => ws[i]?) = wr.map some) (hn : va_nd isR = true) (hdis : ∀ i ∈ isR, i ∉ isC)
    (kk : ∀ (u : S) (H1 : Heap) (locs1 : List Loc), post u → va_P D vwCl (wr ++ w1 u) H1 → va_D A0 (wr ++ w1 u) → va_S A0 H0 H1 locs1 → W p l e R s m args below meth c H1 locs1 (cells + mc) (slots + ms) Q (F0 m (pc + 3) ls (.ref ra :: rest))) : W p l e R s m args below meth c H locs cells slots Q (F0 m pc ls st) := by
  have hFc := va_free (wc := wc) hD hS hA isC hC
  refine va_callr hr hS (fun q _ h => hFc q h) hFc (fun u x t H1 locs1 ht hvm hw hB hz1 hk1 hS => ?_)
  obtain ⟨rfl, hP1, hD1⟩ := hB
  rw [ht] at hP1
  obtain ⟨hP, hD⟩ := va_join hP hD isC isR hC hR hn hdis hk1 hFc hP1 hD1
  exact kk u H1 locs1 hw hP hD hS
end CALLS4
def KM (f g : Nat → Int32) : Prop := ∀ k : Nat, g k = f k ∨ (g k).toInt = -5
theorem KM_r {f : Nat → Int32} : KM f f := fun _ => Or.inl rfl
theorem KM_u {f : Nat → Int32} {i : Nat} {v : Int32} (h : v.toInt = -5) : KM f (upd f i v) := fun k => by
  unfold upd
  split
  · exact Or.inr h
  · exact Or.inl rfl
end
section
theorem k_606 : Cond.methodLink RX6 96 yJ0_length_8abf5 ∈ tb := tb_3 126 (by decide +kernel) (by decide)
theorem k_607 : Cond.instanceMethod yJ0_length_8abf5 ∈ tb := tb_3 127 (by decide +kernel) (by decide)
theorem k_608 : Cond.selects RJ0 yJ0_length_8abf5 yJ0_length_8abf5 ∈ tb := tb_3 128 (by decide +kernel) (by decide)
theorem k_609 : Cond.code yJ0_length_8abf5 cJ0_length_8abf5 1 (some .int) ∈ tb := tb_3 129 (by decide +kernel) (by decide)
theorem k_610 : Cond.methodLink RJ0 335 yJ0_coder_7d493 ∈ tb := tb_3 130 (by decide +kernel) (by decide)
theorem k_611 : Cond.instanceMethod yJ0_coder_7d493 ∈ tb := tb_3 131 (by decide +kernel) (by decide)
theorem k_612 : Cond.selects RJ0 yJ0_coder_7d493 yJ0_coder_7d493 ∈ tb := tb_3 132 (by decide +kernel) (by decide)
theorem k_613 : Cond.code yJ0_coder_7d493 cJ0_coder_7d493 1 (some .byte) ∈ tb := tb_3 133 (by decide +kernel) (by decide)
theorem k_616 : Cond.methodLink RX6 101 yJ0_charAt_5068e ∈ tb := tb_3 136 (by decide +kernel) (by decide)
theorem k_617 : Cond.instanceMethod yJ0_charAt_5068e ∈ tb := tb_3 137 (by decide +kernel) (by decide)
theorem k_618 : Cond.selects RJ0 yJ0_charAt_5068e yJ0_charAt_5068e ∈ tb := tb_3 138 (by decide +kernel) (by decide)
theorem k_619 : Cond.code yJ0_charAt_5068e cJ0_charAt_5068e 2 (some .char) ∈ tb := tb_3 139 (by decide +kernel) (by decide)
theorem k_620 : Cond.methodLink RJ0 492 yJ0_isLatin1_aae02 ∈ tb := tb_3 140 (by decide +kernel) (by decide)
theorem k_621 : Cond.instanceMethod yJ0_isLatin1_aae02 ∈ tb := tb_3 141 (by decide +kernel) (by decide)
theorem k_622 : Cond.selects RJ0 yJ0_isLatin1_aae02 yJ0_isLatin1_aae02 ∈ tb := tb_3 142 (by decide +kernel) (by decide)
theorem k_623 : Cond.code yJ0_isLatin1_aae02 cJ0_isLatin1_aae02 1 (some .boolean) ∈ tb := tb_3 143 (by decide +kernel) (by decide)
theorem k_624 : Cond.methodLink RJ0 495 yJ1_charAt_3b067 ∈ tb := tb_3 144 (by decide +kernel) (by decide)
theorem k_625 : Cond.static yJ1_charAt_3b067 ∈ tb := tb_3 145 (by decide +kernel) (by decide)
theorem k_626 : Cond.code yJ1_charAt_3b067 cJ1_charAt_3b067 2 (some .char) ∈ tb := tb_3 146 (by decide +kernel) (by decide)
theorem k_627 : Cond.methodLink RJ1 9 yJ0_checkIndex_df160 ∈ tb := tb_3 147 (by decide +kernel) (by decide)
theorem k_628 : Cond.static yJ0_checkIndex_df160 ∈ tb := tb_3 148 (by decide +kernel) (by decide)
theorem k_629 : Cond.code yJ0_checkIndex_df160 cJ0_checkIndex_df160 2 none ∈ tb := tb_3 149 (by decide +kernel) (by decide)
theorem k_632 : Cond.methodLink RJ0 1059 yJ3_checkIndex_8e157 ∈ tb := tb_3 152 (by decide +kernel) (by decide)
theorem k_633 : Cond.static yJ3_checkIndex_8e157 ∈ tb := tb_3 153 (by decide +kernel) (by decide)
theorem k_634 : Cond.code yJ3_checkIndex_8e157 cJ3_checkIndex_8e157 3 (some .int) ∈ tb := tb_3 154 (by decide +kernel) (by decide)
theorem k_750 : Cond.methodLink RX8 350 Lib.Math.min.name ∈ tb := tb_4 30 (by decide +kernel) (by decide)
theorem k_751 : Cond.methodLink RX8 355 Lib.Math.max.name ∈ tb := tb_4 31 (by decide +kernel) (by decide)
theorem ok_J0_charAt_5068e : yOk yJ0_charAt_5068e 1 := ⟨by decide +kernel, by decide +kernel, by decide +kernel⟩
theorem ok_J0_checkIndex_df160 : yOk yJ0_checkIndex_df160 2 := ⟨by decide +kernel, by decide +kernel, by decide +kernel⟩
theorem ok_J0_coder_7d493 : yOk yJ0_coder_7d493 0 := ⟨by decide +kernel, by decide +kernel, by decide +kernel⟩
theorem ok_J0_isLatin1_aae02 : yOk yJ0_isLatin1_aae02 0 := ⟨by decide +kernel, by decide +kernel, by decide +kernel⟩
theorem ok_J0_length_8abf5 : yOk yJ0_length_8abf5 0 := ⟨by decide +kernel, by decide +kernel, by decide +kernel⟩
theorem ok_J1_charAt_3b067 : yOk yJ1_charAt_3b067 2 := ⟨by decide +kernel, by decide +kernel, by decide +kernel⟩
theorem ok_J3_checkIndex_8e157 : yOk yJ3_checkIndex_8e157 3 := ⟨by decide +kernel, by decide +kernel, by decide +kernel⟩
end
section
theorem dJ0_charAt_5068e_0 : decode cJ0_charAt_5068e 0 = .ok (.aload_n 0, 1) := dq_42 (by decide +kernel)
theorem dJ0_charAt_5068e_1 : decode cJ0_charAt_5068e 1 = .ok (.invokevirtual 492, 3) := dq_182 (by decide +kernel)
theorem dJ0_charAt_5068e_4 : decode cJ0_charAt_5068e 4 = .ok (.ifCond .eq 12, 3) := dq_153 (by decide +kernel)
theorem dJ0_charAt_5068e_7 : decode cJ0_charAt_5068e 7 = .ok (.aload_n 0, 1) := dq_42 (by decide +kernel)
theorem dJ0_charAt_5068e_8 : decode cJ0_charAt_5068e 8 = .ok (.getfield 9, 3) := dq_180 (by decide +kernel)
theorem dJ0_charAt_5068e_11 : decode cJ0_charAt_5068e 11 = .ok (.iload_n 1, 1) := dq_27 (by decide +kernel)
theorem dJ0_charAt_5068e_12 : decode cJ0_charAt_5068e 12 = .ok (.invokestatic 495, 3) := dq_184 (by decide +kernel)
theorem dJ0_charAt_5068e_15 : decode cJ0_charAt_5068e 15 = .ok (.ireturn, 1) := dq_172 (by decide +kernel)
theorem dJ0_charAt_5068e_16 : decode cJ0_charAt_5068e 16 = .ok (.aload_n 0, 1) := dq_42 (by decide +kernel)
theorem dJ0_charAt_5068e_17 : decode cJ0_charAt_5068e 17 = .ok (.getfield 9, 3) := dq_180 (by decide +kernel)
theorem dJ0_charAt_5068e_20 : decode cJ0_charAt_5068e 20 = .ok (.iload_n 1, 1) := dq_27 (by decide +kernel)
theorem dJ0_charAt_5068e_21 : decode cJ0_charAt_5068e 21 = .ok (.invokestatic 498, 3) := dq_184 (by decide +kernel)
theorem dJ0_charAt_5068e_24 : decode cJ0_charAt_5068e 24 = .ok (.ireturn, 1) := dq_172 (by decide +kernel)
theorem dJ0_checkIndex_df160_0 : decode cJ0_checkIndex_df160 0 = .ok (.iload_n 0, 1) := dq_26 (by decide +kernel)
theorem dJ0_checkIndex_df160_1 : decode cJ0_checkIndex_df160 1 = .ok (.iload_n 1, 1) := dq_27 (by decide +kernel)
theorem dJ0_checkIndex_df160_2 : decode cJ0_checkIndex_df160 2 = .ok (.getstatic 1053, 3) := dq_178 (by decide +kernel)
theorem dJ0_checkIndex_df160_5 : decode cJ0_checkIndex_df160 5 = .ok (.invokestatic 1059, 3) := dq_184 (by decide +kernel)
theorem dJ0_checkIndex_df160_8 : decode cJ0_checkIndex_df160 8 = .ok (.pop, 1) := dq_87 (by decide +kernel)
theorem dJ0_checkIndex_df160_9 : decode cJ0_checkIndex_df160 9 = .ok (.return_, 1) := dq_177 (by decide +kernel)
theorem dJ0_coder_7d493_0 : decode cJ0_coder_7d493 0 = .ok (.getstatic 38, 3) := dq_178 (by decide +kernel)
theorem dJ0_coder_7d493_3 : decode cJ0_coder_7d493 3 = .ok (.ifCond .eq 10, 3) := dq_153 (by decide +kernel)
theorem dJ0_coder_7d493_6 : decode cJ0_coder_7d493 6 = .ok (.aload_n 0, 1) := dq_42 (by decide +kernel)
theorem dJ0_coder_7d493_7 : decode cJ0_coder_7d493 7 = .ok (.getfield 15, 3) := dq_180 (by decide +kernel)
theorem dJ0_coder_7d493_10 : decode cJ0_coder_7d493 10 = .ok (.goto 4, 3) := dq_167 (by decide +kernel)
theorem dJ0_coder_7d493_13 : decode cJ0_coder_7d493 13 = .ok (.iconst 1, 1) := dq_4 (by decide +kernel)
theorem dJ0_coder_7d493_14 : decode cJ0_coder_7d493 14 = .ok (.ireturn, 1) := dq_172 (by decide +kernel)
theorem dJ0_isLatin1_aae02_0 : decode cJ0_isLatin1_aae02 0 = .ok (.getstatic 38, 3) := dq_178 (by decide +kernel)
theorem dJ0_isLatin1_aae02_3 : decode cJ0_isLatin1_aae02 3 = .ok (.ifCond .eq 14, 3) := dq_153 (by decide +kernel)
theorem dJ0_isLatin1_aae02_6 : decode cJ0_isLatin1_aae02 6 = .ok (.aload_n 0, 1) := dq_42 (by decide +kernel)
theorem dJ0_isLatin1_aae02_7 : decode cJ0_isLatin1_aae02 7 = .ok (.getfield 15, 3) := dq_180 (by decide +kernel)
theorem dJ0_isLatin1_aae02_10 : decode cJ0_isLatin1_aae02 10 = .ok (.ifCond .ne 7, 3) := dq_154 (by decide +kernel)
theorem dJ0_isLatin1_aae02_13 : decode cJ0_isLatin1_aae02 13 = .ok (.iconst 1, 1) := dq_4 (by decide +kernel)
theorem dJ0_isLatin1_aae02_14 : decode cJ0_isLatin1_aae02 14 = .ok (.goto 4, 3) := dq_167 (by decide +kernel)
theorem dJ0_isLatin1_aae02_17 : decode cJ0_isLatin1_aae02 17 = .ok (.iconst 0, 1) := dq_3 (by decide +kernel)
theorem dJ0_isLatin1_aae02_18 : decode cJ0_isLatin1_aae02 18 = .ok (.ireturn, 1) := dq_172 (by decide +kernel)
theorem dJ0_length_8abf5_0 : decode cJ0_length_8abf5 0 = .ok (.aload_n 0, 1) := dq_42 (by decide +kernel)
theorem dJ0_length_8abf5_1 : decode cJ0_length_8abf5 1 = .ok (.getfield 9, 3) := dq_180 (by decide +kernel)
theorem dJ0_length_8abf5_4 : decode cJ0_length_8abf5 4 = .ok (.arraylength, 1) := dq_190 (by decide +kernel)
theorem dJ0_length_8abf5_5 : decode cJ0_length_8abf5 5 = .ok (.aload_n 0, 1) := dq_42 (by decide +kernel)
theorem dJ0_length_8abf5_6 : decode cJ0_length_8abf5 6 = .ok (.invokevirtual 335, 3) := dq_182 (by decide +kernel)
theorem dJ0_length_8abf5_9 : decode cJ0_length_8abf5 9 = .ok (.ishr, 1) := dq_122 (by decide +kernel)
theorem dJ0_length_8abf5_10 : decode cJ0_length_8abf5 10 = .ok (.ireturn, 1) := dq_172 (by decide +kernel)
end
section
theorem dJ1_charAt_3b067_0 : decode cJ1_charAt_3b067 0 = .ok (.iload_n 1, 1) := dq_27 (by decide +kernel)
theorem dJ1_charAt_3b067_1 : decode cJ1_charAt_3b067 1 = .ok (.aload_n 0, 1) := dq_42 (by decide +kernel)
theorem dJ1_charAt_3b067_2 : decode cJ1_charAt_3b067 2 = .ok (.arraylength, 1) := dq_190 (by decide +kernel)
theorem dJ1_charAt_3b067_3 : decode cJ1_charAt_3b067 3 = .ok (.invokestatic 9, 3) := dq_184 (by decide +kernel)
theorem dJ1_charAt_3b067_6 : decode cJ1_charAt_3b067 6 = .ok (.aload_n 0, 1) := dq_42 (by decide +kernel)
theorem dJ1_charAt_3b067_7 : decode cJ1_charAt_3b067 7 = .ok (.iload_n 1, 1) := dq_27 (by decide +kernel)
theorem dJ1_charAt_3b067_8 : decode cJ1_charAt_3b067 8 = .ok (.baload, 1) := dq_51 (by decide +kernel)
theorem dJ1_charAt_3b067_9 : decode cJ1_charAt_3b067 9 = .ok (.sipush 255, 3) := dq_17 (by decide +kernel)
theorem dJ1_charAt_3b067_12 : decode cJ1_charAt_3b067 12 = .ok (.iand, 1) := dq_126 (by decide +kernel)
theorem dJ1_charAt_3b067_13 : decode cJ1_charAt_3b067 13 = .ok (.i2c, 1) := dq_146 (by decide +kernel)
theorem dJ1_charAt_3b067_14 : decode cJ1_charAt_3b067 14 = .ok (.ireturn, 1) := dq_172 (by decide +kernel)
end
section
theorem dJ3_checkIndex_8e157_0 : decode cJ3_checkIndex_8e157 0 = .ok (.iload_n 0, 1) := dq_26 (by decide +kernel)
theorem dJ3_checkIndex_8e157_1 : decode cJ3_checkIndex_8e157 1 = .ok (.ifCond .lt 8, 3) := dq_155 (by decide +kernel)
theorem dJ3_checkIndex_8e157_4 : decode cJ3_checkIndex_8e157 4 = .ok (.iload_n 0, 1) := dq_26 (by decide +kernel)
theorem dJ3_checkIndex_8e157_5 : decode cJ3_checkIndex_8e157 5 = .ok (.iload_n 1, 1) := dq_27 (by decide +kernel)
theorem dJ3_checkIndex_8e157_6 : decode cJ3_checkIndex_8e157 6 = .ok (.if_icmp .lt 10, 3) := dq_161 (by decide +kernel)
theorem dJ3_checkIndex_8e157_9 : decode cJ3_checkIndex_8e157 9 = .ok (.aload_n 2, 1) := dq_44 (by decide +kernel)
theorem dJ3_checkIndex_8e157_10 : decode cJ3_checkIndex_8e157 10 = .ok (.iload_n 0, 1) := dq_26 (by decide +kernel)
theorem dJ3_checkIndex_8e157_11 : decode cJ3_checkIndex_8e157 11 = .ok (.iload_n 1, 1) := dq_27 (by decide +kernel)
theorem dJ3_checkIndex_8e157_12 : decode cJ3_checkIndex_8e157 12 = .ok (.invokestatic 95, 3) := dq_184 (by decide +kernel)
theorem dJ3_checkIndex_8e157_15 : decode cJ3_checkIndex_8e157 15 = .ok (.athrow, 1) := dq_191 (by decide +kernel)
theorem dJ3_checkIndex_8e157_16 : decode cJ3_checkIndex_8e157 16 = .ok (.iload_n 0, 1) := dq_26 (by decide +kernel)
theorem dJ3_checkIndex_8e157_17 : decode cJ3_checkIndex_8e157 17 = .ok (.ireturn, 1) := dq_172 (by decide +kernel)
end
section
theorem dX0_init_0 : decode cX0_init 0 = .ok (.aload_n 0, 1) := dq_42 (by decide +kernel)
theorem dX0_init_1 : decode cX0_init 1 = .ok (.invokespecial 3, 3) := dq_183 (by decide +kernel)
theorem dX0_init_4 : decode cX0_init 4 = .ok (.aload_n 0, 1) := dq_42 (by decide +kernel)
theorem dX0_init_5 : decode cX0_init 5 = .ok (.bipush 9, 2) := dq_16 (by decide +kernel)
theorem dX0_init_7 : decode cX0_init 7 = .ok (.newarray .int, 2) := dq_188_10 (by decide +kernel)
theorem dX0_init_9 : decode cX0_init 9 = .ok (.putfield 9, 3) := dq_181 (by decide +kernel)
theorem dX0_init_12 : decode cX0_init 12 = .ok (.aload_n 0, 1) := dq_42 (by decide +kernel)
theorem dX0_init_13 : decode cX0_init 13 = .ok (.bipush 9, 2) := dq_16 (by decide +kernel)
theorem dX0_init_15 : decode cX0_init 15 = .ok (.newarray .int, 2) := dq_188_10 (by decide +kernel)
theorem dX0_init_17 : decode cX0_init 17 = .ok (.putfield 15, 3) := dq_181 (by decide +kernel)
theorem dX0_init_20 : decode cX0_init 20 = .ok (.aload_n 0, 1) := dq_42 (by decide +kernel)
theorem dX0_init_21 : decode cX0_init 21 = .ok (.bipush 9, 2) := dq_16 (by decide +kernel)
theorem dX0_init_23 : decode cX0_init 23 = .ok (.newarray .int, 2) := dq_188_10 (by decide +kernel)
theorem dX0_init_25 : decode cX0_init 25 = .ok (.putfield 18, 3) := dq_181 (by decide +kernel)
theorem dX0_init_28 : decode cX0_init 28 = .ok (.aload_n 0, 1) := dq_42 (by decide +kernel)
theorem dX0_init_29 : decode cX0_init 29 = .ok (.iconst 3, 1) := dq_6 (by decide +kernel)
theorem dX0_init_30 : decode cX0_init 30 = .ok (.newarray .int, 2) := dq_188_10 (by decide +kernel)
theorem dX0_init_32 : decode cX0_init 32 = .ok (.putfield 21, 3) := dq_181 (by decide +kernel)
theorem dX0_init_35 : decode cX0_init 35 = .ok (.aload_n 0, 1) := dq_42 (by decide +kernel)
theorem dX0_init_36 : decode cX0_init 36 = .ok (.iconst 3, 1) := dq_6 (by decide +kernel)
theorem dX0_init_37 : decode cX0_init 37 = .ok (.newarray .int, 2) := dq_188_10 (by decide +kernel)
theorem dX0_init_39 : decode cX0_init 39 = .ok (.putfield 24, 3) := dq_181 (by decide +kernel)
theorem dX0_init_42 : decode cX0_init 42 = .ok (.aload_n 0, 1) := dq_42 (by decide +kernel)
theorem dX0_init_43 : decode cX0_init 43 = .ok (.iconst 0, 1) := dq_3 (by decide +kernel)
theorem dX0_init_44 : decode cX0_init 44 = .ok (.putfield 27, 3) := dq_181 (by decide +kernel)
theorem dX0_init_47 : decode cX0_init 47 = .ok (.aload_n 0, 1) := dq_42 (by decide +kernel)
theorem dX0_init_48 : decode cX0_init 48 = .ok (.iconst 0, 1) := dq_3 (by decide +kernel)
theorem dX0_init_49 : decode cX0_init 49 = .ok (.putfield 31, 3) := dq_181 (by decide +kernel)
theorem dX0_init_52 : decode cX0_init 52 = .ok (.aload_n 0, 1) := dq_42 (by decide +kernel)
theorem dX0_init_53 : decode cX0_init 53 = .ok (.iconst 0, 1) := dq_3 (by decide +kernel)
theorem dX0_init_54 : decode cX0_init 54 = .ok (.putfield 34, 3) := dq_181 (by decide +kernel)
theorem dX0_init_57 : decode cX0_init 57 = .ok (.aload_n 0, 1) := dq_42 (by decide +kernel)
theorem dX0_init_58 : decode cX0_init 58 = .ok (.iconst 0, 1) := dq_3 (by decide +kernel)
theorem dX0_init_59 : decode cX0_init 59 = .ok (.putfield 37, 3) := dq_181 (by decide +kernel)
theorem dX0_init_62 : decode cX0_init 62 = .ok (.return_, 1) := dq_177 (by decide +kernel)
end
section
theorem dX1_init_0 : decode cX1_init 0 = .ok (.aload_n 0, 1) := dq_42 (by decide +kernel)
theorem dX1_init_1 : decode cX1_init 1 = .ok (.invokespecial 3, 3) := dq_183 (by decide +kernel)
theorem dX1_init_4 : decode cX1_init 4 = .ok (.aload_n 0, 1) := dq_42 (by decide +kernel)
theorem dX1_init_5 : decode cX1_init 5 = .ok (.lconst 1, 1) := dq_10 (by decide +kernel)
theorem dX1_init_6 : decode cX1_init 6 = .ok (.putfield 9, 3) := dq_181 (by decide +kernel)
theorem dX1_init_9 : decode cX1_init 9 = .ok (.aload_n 0, 1) := dq_42 (by decide +kernel)
theorem dX1_init_10 : decode cX1_init 10 = .ok (.iconst 1, 1) := dq_4 (by decide +kernel)
theorem dX1_init_11 : decode cX1_init 11 = .ok (.putfield 15, 3) := dq_181 (by decide +kernel)
theorem dX1_init_14 : decode cX1_init 14 = .ok (.return_, 1) := dq_177 (by decide +kernel)
end
section
theorem dX2_init_0 : decode cX2_init 0 = .ok (.aload_n 0, 1) := dq_42 (by decide +kernel)
theorem dX2_init_1 : decode cX2_init 1 = .ok (.invokespecial 3, 3) := dq_183 (by decide +kernel)
theorem dX2_init_4 : decode cX2_init 4 = .ok (.aload_n 0, 1) := dq_42 (by decide +kernel)
theorem dX2_init_5 : decode cX2_init 5 = .ok (.bipush 60, 2) := dq_16 (by decide +kernel)
theorem dX2_init_7 : decode cX2_init 7 = .ok (.newarray .int, 2) := dq_188_10 (by decide +kernel)
theorem dX2_init_9 : decode cX2_init 9 = .ok (.putfield 9, 3) := dq_181 (by decide +kernel)
theorem dX2_init_12 : decode cX2_init 12 = .ok (.aload_n 0, 1) := dq_42 (by decide +kernel)
theorem dX2_init_13 : decode cX2_init 13 = .ok (.bipush 60, 2) := dq_16 (by decide +kernel)
theorem dX2_init_15 : decode cX2_init 15 = .ok (.newarray .int, 2) := dq_188_10 (by decide +kernel)
theorem dX2_init_17 : decode cX2_init 17 = .ok (.putfield 15, 3) := dq_181 (by decide +kernel)
theorem dX2_init_20 : decode cX2_init 20 = .ok (.aload_n 0, 1) := dq_42 (by decide +kernel)
theorem dX2_init_21 : decode cX2_init 21 = .ok (.bipush 60, 2) := dq_16 (by decide +kernel)
theorem dX2_init_23 : decode cX2_init 23 = .ok (.newarray .int, 2) := dq_188_10 (by decide +kernel)
theorem dX2_init_25 : decode cX2_init 25 = .ok (.putfield 18, 3) := dq_181 (by decide +kernel)
theorem dX2_init_28 : decode cX2_init 28 = .ok (.aload_n 0, 1) := dq_42 (by decide +kernel)
theorem dX2_init_29 : decode cX2_init 29 = .ok (.bipush 60, 2) := dq_16 (by decide +kernel)
theorem dX2_init_31 : decode cX2_init 31 = .ok (.newarray .int, 2) := dq_188_10 (by decide +kernel)
theorem dX2_init_33 : decode cX2_init 33 = .ok (.putfield 21, 3) := dq_181 (by decide +kernel)
theorem dX2_init_36 : decode cX2_init 36 = .ok (.aload_n 0, 1) := dq_42 (by decide +kernel)
theorem dX2_init_37 : decode cX2_init 37 = .ok (.bipush 60, 2) := dq_16 (by decide +kernel)
theorem dX2_init_39 : decode cX2_init 39 = .ok (.newarray .int, 2) := dq_188_10 (by decide +kernel)
theorem dX2_init_41 : decode cX2_init 41 = .ok (.putfield 24, 3) := dq_181 (by decide +kernel)
theorem dX2_init_44 : decode cX2_init 44 = .ok (.aload_n 0, 1) := dq_42 (by decide +kernel)
theorem dX2_init_45 : decode cX2_init 45 = .ok (.iconst 0, 1) := dq_3 (by decide +kernel)
theorem dX2_init_46 : decode cX2_init 46 = .ok (.putfield 27, 3) := dq_181 (by decide +kernel)
theorem dX2_init_49 : decode cX2_init 49 = .ok (.return_, 1) := dq_177 (by decide +kernel)
end
section
theorem dX3_init_0 : decode cX3_init 0 = .ok (.aload_n 0, 1) := dq_42 (by decide +kernel)
theorem dX3_init_1 : decode cX3_init 1 = .ok (.invokespecial 3, 3) := dq_183 (by decide +kernel)
theorem dX3_init_4 : decode cX3_init 4 = .ok (.aload_n 0, 1) := dq_42 (by decide +kernel)
theorem dX3_init_5 : decode cX3_init 5 = .ok (.bipush 60, 2) := dq_16 (by decide +kernel)
theorem dX3_init_7 : decode cX3_init 7 = .ok (.newarray .int, 2) := dq_188_10 (by decide +kernel)
theorem dX3_init_9 : decode cX3_init 9 = .ok (.putfield 9, 3) := dq_181 (by decide +kernel)
theorem dX3_init_12 : decode cX3_init 12 = .ok (.aload_n 0, 1) := dq_42 (by decide +kernel)
theorem dX3_init_13 : decode cX3_init 13 = .ok (.bipush 60, 2) := dq_16 (by decide +kernel)
theorem dX3_init_15 : decode cX3_init 15 = .ok (.newarray .int, 2) := dq_188_10 (by decide +kernel)
theorem dX3_init_17 : decode cX3_init 17 = .ok (.putfield 15, 3) := dq_181 (by decide +kernel)
theorem dX3_init_20 : decode cX3_init 20 = .ok (.aload_n 0, 1) := dq_42 (by decide +kernel)
theorem dX3_init_21 : decode cX3_init 21 = .ok (.bipush 60, 2) := dq_16 (by decide +kernel)
theorem dX3_init_23 : decode cX3_init 23 = .ok (.newarray .int, 2) := dq_188_10 (by decide +kernel)
theorem dX3_init_25 : decode cX3_init 25 = .ok (.putfield 18, 3) := dq_181 (by decide +kernel)
theorem dX3_init_28 : decode cX3_init 28 = .ok (.aload_n 0, 1) := dq_42 (by decide +kernel)
theorem dX3_init_29 : decode cX3_init 29 = .ok (.iconst 0, 1) := dq_3 (by decide +kernel)
theorem dX3_init_30 : decode cX3_init 30 = .ok (.putfield 21, 3) := dq_181 (by decide +kernel)
theorem dX3_init_33 : decode cX3_init 33 = .ok (.return_, 1) := dq_177 (by decide +kernel)
end
section
theorem dX4_init_0 : decode cX4_init 0 = .ok (.aload_n 0, 1) := dq_42 (by decide +kernel)
theorem dX4_init_1 : decode cX4_init 1 = .ok (.invokespecial 3, 3) := dq_183 (by decide +kernel)
theorem dX4_init_4 : decode cX4_init 4 = .ok (.aload_n 0, 1) := dq_42 (by decide +kernel)
theorem dX4_init_5 : decode cX4_init 5 = .ok (.bipush 120, 2) := dq_16 (by decide +kernel)
theorem dX4_init_7 : decode cX4_init 7 = .ok (.newarray .int, 2) := dq_188_10 (by decide +kernel)
theorem dX4_init_9 : decode cX4_init 9 = .ok (.putfield 9, 3) := dq_181 (by decide +kernel)
theorem dX4_init_12 : decode cX4_init 12 = .ok (.aload_n 0, 1) := dq_42 (by decide +kernel)
theorem dX4_init_13 : decode cX4_init 13 = .ok (.bipush 120, 2) := dq_16 (by decide +kernel)
theorem dX4_init_15 : decode cX4_init 15 = .ok (.newarray .int, 2) := dq_188_10 (by decide +kernel)
theorem dX4_init_17 : decode cX4_init 17 = .ok (.putfield 15, 3) := dq_181 (by decide +kernel)
theorem dX4_init_20 : decode cX4_init 20 = .ok (.aload_n 0, 1) := dq_42 (by decide +kernel)
theorem dX4_init_21 : decode cX4_init 21 = .ok (.bipush 120, 2) := dq_16 (by decide +kernel)
theorem dX4_init_23 : decode cX4_init 23 = .ok (.newarray .int, 2) := dq_188_10 (by decide +kernel)
theorem dX4_init_25 : decode cX4_init 25 = .ok (.putfield 18, 3) := dq_181 (by decide +kernel)
theorem dX4_init_28 : decode cX4_init 28 = .ok (.aload_n 0, 1) := dq_42 (by decide +kernel)
theorem dX4_init_29 : decode cX4_init 29 = .ok (.iconst 0, 1) := dq_3 (by decide +kernel)
theorem dX4_init_30 : decode cX4_init 30 = .ok (.putfield 21, 3) := dq_181 (by decide +kernel)
theorem dX4_init_33 : decode cX4_init 33 = .ok (.return_, 1) := dq_177 (by decide +kernel)
end
section
theorem dX5_init_0 : decode cX5_init 0 = .ok (.aload_n 0, 1) := dq_42 (by decide +kernel)
theorem dX5_init_1 : decode cX5_init 1 = .ok (.invokespecial 3, 3) := dq_183 (by decide +kernel)
theorem dX5_init_4 : decode cX5_init 4 = .ok (.aload_n 0, 1) := dq_42 (by decide +kernel)
theorem dX5_init_5 : decode cX5_init 5 = .ok (.iconst 3, 1) := dq_6 (by decide +kernel)
theorem dX5_init_6 : decode cX5_init 6 = .ok (.newarray .int, 2) := dq_188_10 (by decide +kernel)
theorem dX5_init_8 : decode cX5_init 8 = .ok (.putfield 9, 3) := dq_181 (by decide +kernel)
theorem dX5_init_11 : decode cX5_init 11 = .ok (.aload_n 0, 1) := dq_42 (by decide +kernel)
theorem dX5_init_12 : decode cX5_init 12 = .ok (.iconst 3, 1) := dq_6 (by decide +kernel)
theorem dX5_init_13 : decode cX5_init 13 = .ok (.newarray .int, 2) := dq_188_10 (by decide +kernel)
theorem dX5_init_15 : decode cX5_init 15 = .ok (.putfield 15, 3) := dq_181 (by decide +kernel)
theorem dX5_init_18 : decode cX5_init 18 = .ok (.aload_n 0, 1) := dq_42 (by decide +kernel)
theorem dX5_init_19 : decode cX5_init 19 = .ok (.iconst 3, 1) := dq_6 (by decide +kernel)
theorem dX5_init_20 : decode cX5_init 20 = .ok (.newarray .int, 2) := dq_188_10 (by decide +kernel)
theorem dX5_init_22 : decode cX5_init 22 = .ok (.putfield 18, 3) := dq_181 (by decide +kernel)
theorem dX5_init_25 : decode cX5_init 25 = .ok (.aload_n 0, 1) := dq_42 (by decide +kernel)
theorem dX5_init_26 : decode cX5_init 26 = .ok (.iconst 3, 1) := dq_6 (by decide +kernel)
theorem dX5_init_27 : decode cX5_init 27 = .ok (.newarray .int, 2) := dq_188_10 (by decide +kernel)
theorem dX5_init_29 : decode cX5_init 29 = .ok (.putfield 21, 3) := dq_181 (by decide +kernel)
theorem dX5_init_32 : decode cX5_init 32 = .ok (.aload_n 0, 1) := dq_42 (by decide +kernel)
theorem dX5_init_33 : decode cX5_init 33 = .ok (.iconst 3, 1) := dq_6 (by decide +kernel)
theorem dX5_init_34 : decode cX5_init 34 = .ok (.newarray .int, 2) := dq_188_10 (by decide +kernel)
theorem dX5_init_36 : decode cX5_init 36 = .ok (.putfield 24, 3) := dq_181 (by decide +kernel)
theorem dX5_init_39 : decode cX5_init 39 = .ok (.aload_n 0, 1) := dq_42 (by decide +kernel)
theorem dX5_init_40 : decode cX5_init 40 = .ok (.bipush 40, 2) := dq_16 (by decide +kernel)
theorem dX5_init_42 : decode cX5_init 42 = .ok (.newarray .int, 2) := dq_188_10 (by decide +kernel)
theorem dX5_init_44 : decode cX5_init 44 = .ok (.putfield 27, 3) := dq_181 (by decide +kernel)
theorem dX5_init_47 : decode cX5_init 47 = .ok (.aload_n 0, 1) := dq_42 (by decide +kernel)
theorem dX5_init_48 : decode cX5_init 48 = .ok (.bipush 120, 2) := dq_16 (by decide +kernel)
theorem dX5_init_50 : decode cX5_init 50 = .ok (.newarray .int, 2) := dq_188_10 (by decide +kernel)
theorem dX5_init_52 : decode cX5_init 52 = .ok (.putfield 30, 3) := dq_181 (by decide +kernel)
theorem dX5_init_55 : decode cX5_init 55 = .ok (.aload_n 0, 1) := dq_42 (by decide +kernel)
theorem dX5_init_56 : decode cX5_init 56 = .ok (.iconst 0, 1) := dq_3 (by decide +kernel)
theorem dX5_init_57 : decode cX5_init 57 = .ok (.putfield 33, 3) := dq_181 (by decide +kernel)
theorem dX5_init_60 : decode cX5_init 60 = .ok (.aload_n 0, 1) := dq_42 (by decide +kernel)
theorem dX5_init_61 : decode cX5_init 61 = .ok (.iconst 0, 1) := dq_3 (by decide +kernel)
theorem dX5_init_62 : decode cX5_init 62 = .ok (.putfield 37, 3) := dq_181 (by decide +kernel)
theorem dX5_init_65 : decode cX5_init 65 = .ok (.aload_n 0, 1) := dq_42 (by decide +kernel)
theorem dX5_init_66 : decode cX5_init 66 = .ok (.iconst 0, 1) := dq_3 (by decide +kernel)
theorem dX5_init_67 : decode cX5_init 67 = .ok (.putfield 40, 3) := dq_181 (by decide +kernel)
theorem dX5_init_70 : decode cX5_init 70 = .ok (.aload_n 0, 1) := dq_42 (by decide +kernel)
theorem dX5_init_71 : decode cX5_init 71 = .ok (.iconst 0, 1) := dq_3 (by decide +kernel)
theorem dX5_init_72 : decode cX5_init 72 = .ok (.putfield 43, 3) := dq_181 (by decide +kernel)
theorem dX5_init_75 : decode cX5_init 75 = .ok (.return_, 1) := dq_177 (by decide +kernel)
end
section
theorem dX6_exchangeRule_0 : decode cX6_exchangeRule 0 = .ok (.aload_n 0, 1) := dq_42 (by decide +kernel)
theorem dX6_exchangeRule_1 : decode cX6_exchangeRule 1 = .ok (.getfield 22, 3) := dq_180 (by decide +kernel)
theorem dX6_exchangeRule_4 : decode cX6_exchangeRule 4 = .ok (.astore_n 2, 1) := dq_77 (by decide +kernel)
theorem dX6_exchangeRule_5 : decode cX6_exchangeRule 5 = .ok (.aload_n 0, 1) := dq_42 (by decide +kernel)
theorem dX6_exchangeRule_6 : decode cX6_exchangeRule 6 = .ok (.aload_n 1, 1) := dq_43 (by decide +kernel)
theorem dX6_exchangeRule_7 : decode cX6_exchangeRule 7 = .ok (.putfield 22, 3) := dq_181 (by decide +kernel)
theorem dX6_exchangeRule_10 : decode cX6_exchangeRule 10 = .ok (.aload_n 2, 1) := dq_44 (by decide +kernel)
theorem dX6_exchangeRule_11 : decode cX6_exchangeRule 11 = .ok (.areturn, 1) := dq_176 (by decide +kernel)
theorem dX6_goOn_0 : decode cX6_goOn 0 = .ok (.aload_n 0, 1) := dq_42 (by decide +kernel)
theorem dX6_goOn_1 : decode cX6_goOn 1 = .ok (.getfield 32, 3) := dq_180 (by decide +kernel)
theorem dX6_goOn_4 : decode cX6_goOn 4 = .ok (.aload_n 0, 1) := dq_42 (by decide +kernel)
theorem dX6_goOn_5 : decode cX6_goOn 5 = .ok (.getfield 15, 3) := dq_180 (by decide +kernel)
theorem dX6_goOn_8 : decode cX6_goOn 8 = .ok (.if_icmp .ge 30, 3) := dq_162 (by decide +kernel)
theorem dX6_goOn_11 : decode cX6_goOn 11 = .ok (.aload_n 0, 1) := dq_42 (by decide +kernel)
theorem dX6_goOn_12 : decode cX6_goOn 12 = .ok (.getfield 9, 3) := dq_180 (by decide +kernel)
theorem dX6_goOn_15 : decode cX6_goOn 15 = .ok (.aload_n 0, 1) := dq_42 (by decide +kernel)
theorem dX6_goOn_16 : decode cX6_goOn 16 = .ok (.getfield 32, 3) := dq_180 (by decide +kernel)
theorem dX6_goOn_19 : decode cX6_goOn 19 = .ok (.iaload, 1) := dq_46 (by decide +kernel)
theorem dX6_goOn_20 : decode cX6_goOn 20 = .ok (.bipush 32, 2) := dq_16 (by decide +kernel)
theorem dX6_goOn_22 : decode cX6_goOn 22 = .ok (.if_icmp .ne 16, 3) := dq_160 (by decide +kernel)
theorem dX6_goOn_25 : decode cX6_goOn 25 = .ok (.aload_n 0, 1) := dq_42 (by decide +kernel)
theorem dX6_goOn_26 : decode cX6_goOn 26 = .ok (.dup, 1) := dq_89 (by decide +kernel)
theorem dX6_goOn_27 : decode cX6_goOn 27 = .ok (.getfield 32, 3) := dq_180 (by decide +kernel)
theorem dX6_goOn_30 : decode cX6_goOn 30 = .ok (.iconst 1, 1) := dq_4 (by decide +kernel)
theorem dX6_goOn_31 : decode cX6_goOn 31 = .ok (.iadd, 1) := dq_96 (by decide +kernel)
theorem dX6_goOn_32 : decode cX6_goOn 32 = .ok (.putfield 32, 3) := dq_181 (by decide +kernel)
theorem dX6_goOn_35 : decode cX6_goOn 35 = .ok (.goto (-35), 3) := dq_167 (by decide +kernel)
theorem dX6_goOn_38 : decode cX6_goOn 38 = .ok (.aload_n 0, 1) := dq_42 (by decide +kernel)
theorem dX6_goOn_39 : decode cX6_goOn 39 = .ok (.aload_n 0, 1) := dq_42 (by decide +kernel)
theorem dX6_goOn_40 : decode cX6_goOn 40 = .ok (.getfield 32, 3) := dq_180 (by decide +kernel)
theorem dX6_goOn_43 : decode cX6_goOn 43 = .ok (.putfield 38, 3) := dq_181 (by decide +kernel)
theorem dX6_goOn_46 : decode cX6_goOn 46 = .ok (.aload_n 0, 1) := dq_42 (by decide +kernel)
theorem dX6_goOn_47 : decode cX6_goOn 47 = .ok (.getfield 32, 3) := dq_180 (by decide +kernel)
theorem dX6_goOn_50 : decode cX6_goOn 50 = .ok (.aload_n 0, 1) := dq_42 (by decide +kernel)
theorem dX6_goOn_51 : decode cX6_goOn 51 = .ok (.getfield 15, 3) := dq_180 (by decide +kernel)
theorem dX6_goOn_54 : decode cX6_goOn 54 = .ok (.if_icmp .lt 11, 3) := dq_161 (by decide +kernel)
theorem dX6_goOn_57 : decode cX6_goOn 57 = .ok (.aload_n 0, 1) := dq_42 (by decide +kernel)
theorem dX6_goOn_58 : decode cX6_goOn 58 = .ok (.iconst 0, 1) := dq_3 (by decide +kernel)
theorem dX6_goOn_59 : decode cX6_goOn 59 = .ok (.putfield 35, 3) := dq_181 (by decide +kernel)
theorem dX6_goOn_62 : decode cX6_goOn 62 = .ok (.goto 89, 3) := dq_167 (by decide +kernel)
theorem dX6_goOn_65 : decode cX6_goOn 65 = .ok (.aload_n 0, 1) := dq_42 (by decide +kernel)
theorem dX6_goOn_66 : decode cX6_goOn 66 = .ok (.getfield 9, 3) := dq_180 (by decide +kernel)
theorem dX6_goOn_69 : decode cX6_goOn 69 = .ok (.aload_n 0, 1) := dq_42 (by decide +kernel)
theorem dX6_goOn_70 : decode cX6_goOn 70 = .ok (.getfield 32, 3) := dq_180 (by decide +kernel)
theorem dX6_goOn_73 : decode cX6_goOn 73 = .ok (.iaload, 1) := dq_46 (by decide +kernel)
theorem dX6_goOn_74 : decode cX6_goOn 74 = .ok (.invokestatic 77, 3) := dq_184 (by decide +kernel)
theorem dX6_goOn_77 : decode cX6_goOn 77 = .ok (.ifCond .eq 10, 3) := dq_153 (by decide +kernel)
theorem dX6_goOn_80 : decode cX6_goOn 80 = .ok (.aload_n 0, 1) := dq_42 (by decide +kernel)
theorem dX6_goOn_81 : decode cX6_goOn 81 = .ok (.invokevirtual 80, 3) := dq_182 (by decide +kernel)
theorem dX6_goOn_84 : decode cX6_goOn 84 = .ok (.goto 67, 3) := dq_167 (by decide +kernel)
theorem dX6_goOn_87 : decode cX6_goOn 87 = .ok (.aload_n 0, 1) := dq_42 (by decide +kernel)
theorem dX6_goOn_88 : decode cX6_goOn 88 = .ok (.getfield 9, 3) := dq_180 (by decide +kernel)
theorem dX6_goOn_91 : decode cX6_goOn 91 = .ok (.aload_n 0, 1) := dq_42 (by decide +kernel)
theorem dX6_goOn_92 : decode cX6_goOn 92 = .ok (.getfield 32, 3) := dq_180 (by decide +kernel)
theorem dX6_goOn_95 : decode cX6_goOn 95 = .ok (.iaload, 1) := dq_46 (by decide +kernel)
theorem dX6_goOn_96 : decode cX6_goOn 96 = .ok (.invokestatic 83, 3) := dq_184 (by decide +kernel)
theorem dX6_goOn_99 : decode cX6_goOn 99 = .ok (.ifCond .eq 10, 3) := dq_153 (by decide +kernel)
theorem dX6_goOn_102 : decode cX6_goOn 102 = .ok (.aload_n 0, 1) := dq_42 (by decide +kernel)
theorem dX6_goOn_103 : decode cX6_goOn 103 = .ok (.invokevirtual 86, 3) := dq_182 (by decide +kernel)
theorem dX6_goOn_106 : decode cX6_goOn 106 = .ok (.goto 45, 3) := dq_167 (by decide +kernel)
theorem dX6_goOn_109 : decode cX6_goOn 109 = .ok (.aload_n 0, 1) := dq_42 (by decide +kernel)
theorem dX6_goOn_110 : decode cX6_goOn 110 = .ok (.aload_n 0, 1) := dq_42 (by decide +kernel)
theorem dX6_goOn_111 : decode cX6_goOn 111 = .ok (.getfield 9, 3) := dq_180 (by decide +kernel)
theorem dX6_goOn_114 : decode cX6_goOn 114 = .ok (.aload_n 0, 1) := dq_42 (by decide +kernel)
theorem dX6_goOn_115 : decode cX6_goOn 115 = .ok (.getfield 32, 3) := dq_180 (by decide +kernel)
theorem dX6_goOn_118 : decode cX6_goOn 118 = .ok (.iaload, 1) := dq_46 (by decide +kernel)
theorem dX6_goOn_119 : decode cX6_goOn 119 = .ok (.invokestatic 89, 3) := dq_184 (by decide +kernel)
theorem dX6_goOn_122 : decode cX6_goOn 122 = .ok (.ifCond .eq 15, 3) := dq_153 (by decide +kernel)
theorem dX6_goOn_125 : decode cX6_goOn 125 = .ok (.aload_n 0, 1) := dq_42 (by decide +kernel)
theorem dX6_goOn_126 : decode cX6_goOn 126 = .ok (.getfield 9, 3) := dq_180 (by decide +kernel)
theorem dX6_goOn_129 : decode cX6_goOn 129 = .ok (.aload_n 0, 1) := dq_42 (by decide +kernel)
theorem dX6_goOn_130 : decode cX6_goOn 130 = .ok (.getfield 32, 3) := dq_180 (by decide +kernel)
theorem dX6_goOn_133 : decode cX6_goOn 133 = .ok (.iaload, 1) := dq_46 (by decide +kernel)
theorem dX6_goOn_134 : decode cX6_goOn 134 = .ok (.goto 4, 3) := dq_167 (by decide +kernel)
theorem dX6_goOn_137 : decode cX6_goOn 137 = .ok (.iconst 1, 1) := dq_4 (by decide +kernel)
theorem dX6_goOn_138 : decode cX6_goOn 138 = .ok (.putfield 35, 3) := dq_181 (by decide +kernel)
theorem dX6_goOn_141 : decode cX6_goOn 141 = .ok (.aload_n 0, 1) := dq_42 (by decide +kernel)
theorem dX6_goOn_142 : decode cX6_goOn 142 = .ok (.dup, 1) := dq_89 (by decide +kernel)
theorem dX6_goOn_143 : decode cX6_goOn 143 = .ok (.getfield 32, 3) := dq_180 (by decide +kernel)
theorem dX6_goOn_146 : decode cX6_goOn 146 = .ok (.iconst 1, 1) := dq_4 (by decide +kernel)
theorem dX6_goOn_147 : decode cX6_goOn 147 = .ok (.iadd, 1) := dq_96 (by decide +kernel)
theorem dX6_goOn_148 : decode cX6_goOn 148 = .ok (.putfield 32, 3) := dq_181 (by decide +kernel)
theorem dX6_goOn_151 : decode cX6_goOn 151 = .ok (.return_, 1) := dq_177 (by decide +kernel)
theorem dX6_init_0 : decode cX6_init 0 = .ok (.aload_n 0, 1) := dq_42 (by decide +kernel)
theorem dX6_init_1 : decode cX6_init 1 = .ok (.invokespecial 3, 3) := dq_183 (by decide +kernel)
theorem dX6_init_4 : decode cX6_init 4 = .ok (.aload_n 0, 1) := dq_42 (by decide +kernel)
theorem dX6_init_5 : decode cX6_init 5 = .ok (.bipush 120, 2) := dq_16 (by decide +kernel)
theorem dX6_init_7 : decode cX6_init 7 = .ok (.newarray .int, 2) := dq_188_10 (by decide +kernel)
theorem dX6_init_9 : decode cX6_init 9 = .ok (.putfield 9, 3) := dq_181 (by decide +kernel)
theorem dX6_init_12 : decode cX6_init 12 = .ok (.aload_n 0, 1) := dq_42 (by decide +kernel)
theorem dX6_init_13 : decode cX6_init 13 = .ok (.iconst 0, 1) := dq_3 (by decide +kernel)
theorem dX6_init_14 : decode cX6_init 14 = .ok (.putfield 15, 3) := dq_181 (by decide +kernel)
theorem dX6_init_17 : decode cX6_init 17 = .ok (.aload_n 0, 1) := dq_42 (by decide +kernel)
theorem dX6_init_18 : decode cX6_init 18 = .ok (.new 19, 3) := dq_187 (by decide +kernel)
theorem dX6_init_21 : decode cX6_init 21 = .ok (.dup, 1) := dq_89 (by decide +kernel)
theorem dX6_init_22 : decode cX6_init 22 = .ok (.invokespecial 21, 3) := dq_183 (by decide +kernel)
theorem dX6_init_25 : decode cX6_init 25 = .ok (.putfield 22, 3) := dq_181 (by decide +kernel)
theorem dX6_init_28 : decode cX6_init 28 = .ok (.aload_n 0, 1) := dq_42 (by decide +kernel)
theorem dX6_init_29 : decode cX6_init 29 = .ok (.ldc 26, 2) := dq_18 (by decide +kernel)
theorem dX6_init_31 : decode cX6_init 31 = .ok (.putfield 28, 3) := dq_181 (by decide +kernel)
theorem dX6_init_34 : decode cX6_init 34 = .ok (.aload_n 0, 1) := dq_42 (by decide +kernel)
theorem dX6_init_35 : decode cX6_init 35 = .ok (.iconst 0, 1) := dq_3 (by decide +kernel)
theorem dX6_init_36 : decode cX6_init 36 = .ok (.putfield 32, 3) := dq_181 (by decide +kernel)
theorem dX6_init_39 : decode cX6_init 39 = .ok (.aload_n 0, 1) := dq_42 (by decide +kernel)
theorem dX6_init_40 : decode cX6_init 40 = .ok (.iconst 0, 1) := dq_3 (by decide +kernel)
theorem dX6_init_41 : decode cX6_init 41 = .ok (.putfield 35, 3) := dq_181 (by decide +kernel)
theorem dX6_init_44 : decode cX6_init 44 = .ok (.aload_n 0, 1) := dq_42 (by decide +kernel)
theorem dX6_init_45 : decode cX6_init 45 = .ok (.iconst 0, 1) := dq_3 (by decide +kernel)
theorem dX6_init_46 : decode cX6_init 46 = .ok (.putfield 38, 3) := dq_181 (by decide +kernel)
theorem dX6_init_49 : decode cX6_init 49 = .ok (.aload_n 0, 1) := dq_42 (by decide +kernel)
theorem dX6_init_50 : decode cX6_init 50 = .ok (.iconst 0, 1) := dq_3 (by decide +kernel)
theorem dX6_init_51 : decode cX6_init 51 = .ok (.putfield 41, 3) := dq_181 (by decide +kernel)
theorem dX6_init_54 : decode cX6_init 54 = .ok (.return_, 1) := dq_177 (by decide +kernel)
theorem dX6_isOnTape_0 : decode cX6_isOnTape 0 = .ok (.iload_n 2, 1) := dq_28 (by decide +kernel)
theorem dX6_isOnTape_1 : decode cX6_isOnTape 1 = .ok (.iload_n 1, 1) := dq_27 (by decide +kernel)
theorem dX6_isOnTape_2 : decode cX6_isOnTape 2 = .ok (.isub, 1) := dq_100 (by decide +kernel)
theorem dX6_isOnTape_3 : decode cX6_isOnTape 3 = .ok (.aload_n 0, 1) := dq_42 (by decide +kernel)
theorem dX6_isOnTape_4 : decode cX6_isOnTape 4 = .ok (.getfield 32, 3) := dq_180 (by decide +kernel)
theorem dX6_isOnTape_7 : decode cX6_isOnTape 7 = .ok (.aload_n 0, 1) := dq_42 (by decide +kernel)
theorem dX6_isOnTape_8 : decode cX6_isOnTape 8 = .ok (.getfield 38, 3) := dq_180 (by decide +kernel)
theorem dX6_isOnTape_11 : decode cX6_isOnTape 11 = .ok (.isub, 1) := dq_100 (by decide +kernel)
theorem dX6_isOnTape_12 : decode cX6_isOnTape 12 = .ok (.if_icmp .ne 29, 3) := dq_160 (by decide +kernel)
theorem dX6_isOnTape_15 : decode cX6_isOnTape 15 = .ok (.iload_n 1, 1) := dq_27 (by decide +kernel)
theorem dX6_isOnTape_16 : decode cX6_isOnTape 16 = .ok (.ifCond .lt 25, 3) := dq_155 (by decide +kernel)
theorem dX6_isOnTape_19 : decode cX6_isOnTape 19 = .ok (.iload_n 2, 1) := dq_28 (by decide +kernel)
theorem dX6_isOnTape_20 : decode cX6_isOnTape 20 = .ok (.aload_n 0, 1) := dq_42 (by decide +kernel)
theorem dX6_isOnTape_21 : decode cX6_isOnTape 21 = .ok (.getfield 28, 3) := dq_180 (by decide +kernel)
theorem dX6_isOnTape_24 : decode cX6_isOnTape 24 = .ok (.invokevirtual 96, 3) := dq_182 (by decide +kernel)
theorem dX6_isOnTape_27 : decode cX6_isOnTape 27 = .ok (.if_icmp .gt 14, 3) := dq_163 (by decide +kernel)
theorem dX6_isOnTape_30 : decode cX6_isOnTape 30 = .ok (.aload_n 0, 1) := dq_42 (by decide +kernel)
theorem dX6_isOnTape_31 : decode cX6_isOnTape 31 = .ok (.getfield 32, 3) := dq_180 (by decide +kernel)
theorem dX6_isOnTape_34 : decode cX6_isOnTape 34 = .ok (.aload_n 0, 1) := dq_42 (by decide +kernel)
theorem dX6_isOnTape_35 : decode cX6_isOnTape 35 = .ok (.getfield 15, 3) := dq_180 (by decide +kernel)
theorem dX6_isOnTape_38 : decode cX6_isOnTape 38 = .ok (.if_icmp .le 5, 3) := dq_164 (by decide +kernel)
theorem dX6_isOnTape_41 : decode cX6_isOnTape 41 = .ok (.iconst 0, 1) := dq_3 (by decide +kernel)
theorem dX6_isOnTape_42 : decode cX6_isOnTape 42 = .ok (.ireturn, 1) := dq_172 (by decide +kernel)
theorem dX6_isOnTape_43 : decode cX6_isOnTape 43 = .ok (.iload_n 1, 1) := dq_27 (by decide +kernel)
theorem dX6_isOnTape_44 : decode cX6_isOnTape 44 = .ok (.istore_n 3, 1) := dq_62 (by decide +kernel)
theorem dX6_isOnTape_45 : decode cX6_isOnTape 45 = .ok (.iload_n 3, 1) := dq_29 (by decide +kernel)
theorem dX6_isOnTape_46 : decode cX6_isOnTape 46 = .ok (.iload_n 2, 1) := dq_28 (by decide +kernel)
theorem dX6_isOnTape_47 : decode cX6_isOnTape 47 = .ok (.if_icmp .ge 35, 3) := dq_162 (by decide +kernel)
theorem dX6_isOnTape_50 : decode cX6_isOnTape 50 = .ok (.aload_n 0, 1) := dq_42 (by decide +kernel)
theorem dX6_isOnTape_51 : decode cX6_isOnTape 51 = .ok (.getfield 28, 3) := dq_180 (by decide +kernel)
theorem dX6_isOnTape_54 : decode cX6_isOnTape 54 = .ok (.iload_n 3, 1) := dq_29 (by decide +kernel)
theorem dX6_isOnTape_55 : decode cX6_isOnTape 55 = .ok (.invokevirtual 101, 3) := dq_182 (by decide +kernel)
theorem dX6_isOnTape_58 : decode cX6_isOnTape 58 = .ok (.aload_n 0, 1) := dq_42 (by decide +kernel)
theorem dX6_isOnTape_59 : decode cX6_isOnTape 59 = .ok (.getfield 9, 3) := dq_180 (by decide +kernel)
theorem dX6_isOnTape_62 : decode cX6_isOnTape 62 = .ok (.aload_n 0, 1) := dq_42 (by decide +kernel)
theorem dX6_isOnTape_63 : decode cX6_isOnTape 63 = .ok (.getfield 38, 3) := dq_180 (by decide +kernel)
theorem dX6_isOnTape_66 : decode cX6_isOnTape 66 = .ok (.iload_n 3, 1) := dq_29 (by decide +kernel)
theorem dX6_isOnTape_67 : decode cX6_isOnTape 67 = .ok (.iadd, 1) := dq_96 (by decide +kernel)
theorem dX6_isOnTape_68 : decode cX6_isOnTape 68 = .ok (.iload_n 1, 1) := dq_27 (by decide +kernel)
theorem dX6_isOnTape_69 : decode cX6_isOnTape 69 = .ok (.isub, 1) := dq_100 (by decide +kernel)
theorem dX6_isOnTape_70 : decode cX6_isOnTape 70 = .ok (.iaload, 1) := dq_46 (by decide +kernel)
theorem dX6_isOnTape_71 : decode cX6_isOnTape 71 = .ok (.if_icmp .eq 5, 3) := dq_159 (by decide +kernel)
theorem dX6_isOnTape_74 : decode cX6_isOnTape 74 = .ok (.iconst 0, 1) := dq_3 (by decide +kernel)
theorem dX6_isOnTape_75 : decode cX6_isOnTape 75 = .ok (.ireturn, 1) := dq_172 (by decide +kernel)
theorem dX6_isOnTape_76 : decode cX6_isOnTape 76 = .ok (.iinc 3 1, 3) := dq_132 (by decide +kernel)
theorem dX6_isOnTape_79 : decode cX6_isOnTape 79 = .ok (.goto (-34), 3) := dq_167 (by decide +kernel)
theorem dX6_isOnTape_82 : decode cX6_isOnTape 82 = .ok (.iconst 1, 1) := dq_4 (by decide +kernel)
theorem dX6_isOnTape_83 : decode cX6_isOnTape 83 = .ok (.ireturn, 1) := dq_172 (by decide +kernel)
theorem dX6_placeAmongWords_0 : decode cX6_placeAmongWords 0 = .ok (.iconst 0, 1) := dq_3 (by decide +kernel)
theorem dX6_placeAmongWords_1 : decode cX6_placeAmongWords 1 = .ok (.istore_n 1, 1) := dq_60 (by decide +kernel)
theorem dX6_placeAmongWords_2 : decode cX6_placeAmongWords 2 = .ok (.iconst 0, 1) := dq_3 (by decide +kernel)
theorem dX6_placeAmongWords_3 : decode cX6_placeAmongWords 3 = .ok (.istore_n 2, 1) := dq_61 (by decide +kernel)
theorem dX6_placeAmongWords_4 : decode cX6_placeAmongWords 4 = .ok (.iconst 0, 1) := dq_3 (by decide +kernel)
theorem dX6_placeAmongWords_5 : decode cX6_placeAmongWords 5 = .ok (.istore_n 3, 1) := dq_62 (by decide +kernel)
theorem dX6_placeAmongWords_6 : decode cX6_placeAmongWords 6 = .ok (.iload_n 3, 1) := dq_29 (by decide +kernel)
theorem dX6_placeAmongWords_7 : decode cX6_placeAmongWords 7 = .ok (.aload_n 0, 1) := dq_42 (by decide +kernel)
theorem dX6_placeAmongWords_8 : decode cX6_placeAmongWords 8 = .ok (.getfield 28, 3) := dq_180 (by decide +kernel)
theorem dX6_placeAmongWords_11 : decode cX6_placeAmongWords 11 = .ok (.invokevirtual 96, 3) := dq_182 (by decide +kernel)
theorem dX6_placeAmongWords_14 : decode cX6_placeAmongWords 14 = .ok (.if_icmp .gt 51, 3) := dq_163 (by decide +kernel)
theorem dX6_placeAmongWords_17 : decode cX6_placeAmongWords 17 = .ok (.iload_n 3, 1) := dq_29 (by decide +kernel)
theorem dX6_placeAmongWords_18 : decode cX6_placeAmongWords 18 = .ok (.aload_n 0, 1) := dq_42 (by decide +kernel)
theorem dX6_placeAmongWords_19 : decode cX6_placeAmongWords 19 = .ok (.getfield 28, 3) := dq_180 (by decide +kernel)
theorem dX6_placeAmongWords_22 : decode cX6_placeAmongWords 22 = .ok (.invokevirtual 96, 3) := dq_182 (by decide +kernel)
theorem dX6_placeAmongWords_25 : decode cX6_placeAmongWords 25 = .ok (.if_icmp .eq 16, 3) := dq_159 (by decide +kernel)
theorem dX6_placeAmongWords_28 : decode cX6_placeAmongWords 28 = .ok (.aload_n 0, 1) := dq_42 (by decide +kernel)
theorem dX6_placeAmongWords_29 : decode cX6_placeAmongWords 29 = .ok (.getfield 28, 3) := dq_180 (by decide +kernel)
theorem dX6_placeAmongWords_32 : decode cX6_placeAmongWords 32 = .ok (.iload_n 3, 1) := dq_29 (by decide +kernel)
theorem dX6_placeAmongWords_33 : decode cX6_placeAmongWords 33 = .ok (.invokevirtual 101, 3) := dq_182 (by decide +kernel)
theorem dX6_placeAmongWords_36 : decode cX6_placeAmongWords 36 = .ok (.bipush 32, 2) := dq_16 (by decide +kernel)
theorem dX6_placeAmongWords_38 : decode cX6_placeAmongWords 38 = .ok (.if_icmp .ne 21, 3) := dq_160 (by decide +kernel)
theorem dX6_placeAmongWords_41 : decode cX6_placeAmongWords 41 = .ok (.aload_n 0, 1) := dq_42 (by decide +kernel)
theorem dX6_placeAmongWords_42 : decode cX6_placeAmongWords 42 = .ok (.iload_n 2, 1) := dq_28 (by decide +kernel)
theorem dX6_placeAmongWords_43 : decode cX6_placeAmongWords 43 = .ok (.iload_n 3, 1) := dq_29 (by decide +kernel)
theorem dX6_placeAmongWords_44 : decode cX6_placeAmongWords 44 = .ok (.invokevirtual 105, 3) := dq_182 (by decide +kernel)
theorem dX6_placeAmongWords_47 : decode cX6_placeAmongWords 47 = .ok (.ifCond .eq 5, 3) := dq_153 (by decide +kernel)
theorem dX6_placeAmongWords_50 : decode cX6_placeAmongWords 50 = .ok (.iload_n 1, 1) := dq_27 (by decide +kernel)
theorem dX6_placeAmongWords_51 : decode cX6_placeAmongWords 51 = .ok (.ireturn, 1) := dq_172 (by decide +kernel)
theorem dX6_placeAmongWords_52 : decode cX6_placeAmongWords 52 = .ok (.iinc 1 1, 3) := dq_132 (by decide +kernel)
theorem dX6_placeAmongWords_55 : decode cX6_placeAmongWords 55 = .ok (.iload_n 3, 1) := dq_29 (by decide +kernel)
theorem dX6_placeAmongWords_56 : decode cX6_placeAmongWords 56 = .ok (.iconst 1, 1) := dq_4 (by decide +kernel)
theorem dX6_placeAmongWords_57 : decode cX6_placeAmongWords 57 = .ok (.iadd, 1) := dq_96 (by decide +kernel)
theorem dX6_placeAmongWords_58 : decode cX6_placeAmongWords 58 = .ok (.istore_n 2, 1) := dq_61 (by decide +kernel)
theorem dX6_placeAmongWords_59 : decode cX6_placeAmongWords 59 = .ok (.iinc 3 1, 3) := dq_132 (by decide +kernel)
theorem dX6_placeAmongWords_62 : decode cX6_placeAmongWords 62 = .ok (.goto (-56), 3) := dq_167 (by decide +kernel)
theorem dX6_placeAmongWords_65 : decode cX6_placeAmongWords 65 = .ok (.iconst (-1), 1) := dq_2 (by decide +kernel)
theorem dX6_placeAmongWords_66 : decode cX6_placeAmongWords 66 = .ok (.ireturn, 1) := dq_172 (by decide +kernel)
theorem dX6_readAsRule_0 : decode cX6_readAsRule 0 = .ok (.aload_n 0, 1) := dq_42 (by decide +kernel)
theorem dX6_readAsRule_1 : decode cX6_readAsRule 1 = .ok (.aload_n 1, 1) := dq_43 (by decide +kernel)
theorem dX6_readAsRule_2 : decode cX6_readAsRule 2 = .ok (.putfield 28, 3) := dq_181 (by decide +kernel)
theorem dX6_readAsRule_5 : decode cX6_readAsRule 5 = .ok (.aload_n 0, 1) := dq_42 (by decide +kernel)
theorem dX6_readAsRule_6 : decode cX6_readAsRule 6 = .ok (.getfield 22, 3) := dq_180 (by decide +kernel)
theorem dX6_readAsRule_9 : decode cX6_readAsRule 9 = .ok (.iconst 0, 1) := dq_3 (by decide +kernel)
theorem dX6_readAsRule_10 : decode cX6_readAsRule 10 = .ok (.putfield 44, 3) := dq_181 (by decide +kernel)
theorem dX6_readAsRule_13 : decode cX6_readAsRule 13 = .ok (.aload_n 0, 1) := dq_42 (by decide +kernel)
theorem dX6_readAsRule_14 : decode cX6_readAsRule 14 = .ok (.iconst 0, 1) := dq_3 (by decide +kernel)
theorem dX6_readAsRule_15 : decode cX6_readAsRule 15 = .ok (.putfield 32, 3) := dq_181 (by decide +kernel)
theorem dX6_readAsRule_18 : decode cX6_readAsRule 18 = .ok (.aload_n 0, 1) := dq_42 (by decide +kernel)
theorem dX6_readAsRule_19 : decode cX6_readAsRule 19 = .ok (.invokevirtual 45, 3) := dq_182 (by decide +kernel)
theorem dX6_readAsRule_22 : decode cX6_readAsRule 22 = .ok (.aload_n 0, 1) := dq_42 (by decide +kernel)
theorem dX6_readAsRule_23 : decode cX6_readAsRule 23 = .ok (.iconst 0, 1) := dq_3 (by decide +kernel)
theorem dX6_readAsRule_24 : decode cX6_readAsRule 24 = .ok (.invokevirtual 48, 3) := dq_182 (by decide +kernel)
theorem dX6_readAsRule_27 : decode cX6_readAsRule 27 = .ok (.istore_n 2, 1) := dq_61 (by decide +kernel)
theorem dX6_readAsRule_28 : decode cX6_readAsRule 28 = .ok (.iload_n 2, 1) := dq_28 (by decide +kernel)
theorem dX6_readAsRule_29 : decode cX6_readAsRule 29 = .ok (.ifCond .eq 14, 3) := dq_153 (by decide +kernel)
theorem dX6_readAsRule_32 : decode cX6_readAsRule 32 = .ok (.aload_n 0, 1) := dq_42 (by decide +kernel)
theorem dX6_readAsRule_33 : decode cX6_readAsRule 33 = .ok (.getfield 35, 3) := dq_180 (by decide +kernel)
theorem dX6_readAsRule_36 : decode cX6_readAsRule 36 = .ok (.ifCond .ne 7, 3) := dq_154 (by decide +kernel)
theorem dX6_readAsRule_39 : decode cX6_readAsRule 39 = .ok (.iconst (-1), 1) := dq_2 (by decide +kernel)
theorem dX6_readAsRule_40 : decode cX6_readAsRule 40 = .ok (.goto 7, 3) := dq_167 (by decide +kernel)
theorem dX6_readAsRule_43 : decode cX6_readAsRule 43 = .ok (.aload_n 0, 1) := dq_42 (by decide +kernel)
theorem dX6_readAsRule_44 : decode cX6_readAsRule 44 = .ok (.getfield 38, 3) := dq_180 (by decide +kernel)
theorem dX6_readAsRule_47 : decode cX6_readAsRule 47 = .ok (.ireturn, 1) := dq_172 (by decide +kernel)
theorem dX6_readBoth_0 : decode cX6_readBoth 0 = .ok (.aload_n 0, 1) := dq_42 (by decide +kernel)
theorem dX6_readBoth_1 : decode cX6_readBoth 1 = .ok (.iload_n 1, 1) := dq_27 (by decide +kernel)
theorem dX6_readBoth_2 : decode cX6_readBoth 2 = .ok (.invokevirtual 59, 3) := dq_182 (by decide +kernel)
theorem dX6_readBoth_5 : decode cX6_readBoth 5 = .ok (.istore_n 2, 1) := dq_61 (by decide +kernel)
theorem dX6_readBoth_6 : decode cX6_readBoth 6 = .ok (.iconst 0, 1) := dq_3 (by decide +kernel)
theorem dX6_readBoth_7 : decode cX6_readBoth 7 = .ok (.istore_n 3, 1) := dq_62 (by decide +kernel)
theorem dX6_readBoth_8 : decode cX6_readBoth 8 = .ok (.iload_n 3, 1) := dq_29 (by decide +kernel)
theorem dX6_readBoth_9 : decode cX6_readBoth 9 = .ok (.bipush 120, 2) := dq_16 (by decide +kernel)
theorem dX6_readBoth_11 : decode cX6_readBoth 11 = .ok (.if_icmp .ge 40, 3) := dq_162 (by decide +kernel)
theorem dX6_readBoth_14 : decode cX6_readBoth 14 = .ok (.iload_n 2, 1) := dq_28 (by decide +kernel)
theorem dX6_readBoth_15 : decode cX6_readBoth 15 = .ok (.ifCond .eq 36, 3) := dq_153 (by decide +kernel)
theorem dX6_readBoth_18 : decode cX6_readBoth 18 = .ok (.aload_n 0, 1) := dq_42 (by decide +kernel)
theorem dX6_readBoth_19 : decode cX6_readBoth 19 = .ok (.getfield 35, 3) := dq_180 (by decide +kernel)
theorem dX6_readBoth_22 : decode cX6_readBoth 22 = .ok (.iconst 5, 1) := dq_8 (by decide +kernel)
theorem dX6_readBoth_23 : decode cX6_readBoth 23 = .ok (.if_icmp .ne 28, 3) := dq_160 (by decide +kernel)
theorem dX6_readBoth_26 : decode cX6_readBoth 26 = .ok (.aload_n 0, 1) := dq_42 (by decide +kernel)
theorem dX6_readBoth_27 : decode cX6_readBoth 27 = .ok (.invokevirtual 45, 3) := dq_182 (by decide +kernel)
theorem dX6_readBoth_30 : decode cX6_readBoth 30 = .ok (.aload_n 0, 1) := dq_42 (by decide +kernel)
theorem dX6_readBoth_31 : decode cX6_readBoth 31 = .ok (.iload_n 1, 1) := dq_27 (by decide +kernel)
theorem dX6_readBoth_32 : decode cX6_readBoth 32 = .ok (.invokevirtual 59, 3) := dq_182 (by decide +kernel)
theorem dX6_readBoth_35 : decode cX6_readBoth 35 = .ok (.istore_n 2, 1) := dq_61 (by decide +kernel)
theorem dX6_readBoth_36 : decode cX6_readBoth 36 = .ok (.aload_n 0, 1) := dq_42 (by decide +kernel)
theorem dX6_readBoth_37 : decode cX6_readBoth 37 = .ok (.getfield 22, 3) := dq_180 (by decide +kernel)
theorem dX6_readBoth_40 : decode cX6_readBoth 40 = .ok (.iconst 5, 1) := dq_8 (by decide +kernel)
theorem dX6_readBoth_41 : decode cX6_readBoth 41 = .ok (.iconst 0, 1) := dq_3 (by decide +kernel)
theorem dX6_readBoth_42 : decode cX6_readBoth 42 = .ok (.invokevirtual 55, 3) := dq_182 (by decide +kernel)
theorem dX6_readBoth_45 : decode cX6_readBoth 45 = .ok (.iinc 3 1, 3) := dq_132 (by decide +kernel)
theorem dX6_readBoth_48 : decode cX6_readBoth 48 = .ok (.goto (-40), 3) := dq_167 (by decide +kernel)
theorem dX6_readBoth_51 : decode cX6_readBoth 51 = .ok (.iload_n 2, 1) := dq_28 (by decide +kernel)
theorem dX6_readBoth_52 : decode cX6_readBoth 52 = .ok (.ireturn, 1) := dq_172 (by decide +kernel)
theorem dX6_readComparison_0 : decode cX6_readComparison 0 = .ok (.aload_n 0, 1) := dq_42 (by decide +kernel)
theorem dX6_readComparison_1 : decode cX6_readComparison 1 = .ok (.iload_n 1, 1) := dq_27 (by decide +kernel)
theorem dX6_readComparison_2 : decode cX6_readComparison 2 = .ok (.invokevirtual 65, 3) := dq_182 (by decide +kernel)
theorem dX6_readComparison_5 : decode cX6_readComparison 5 = .ok (.istore_n 2, 1) := dq_61 (by decide +kernel)
theorem dX6_readComparison_6 : decode cX6_readComparison 6 = .ok (.iload_n 2, 1) := dq_28 (by decide +kernel)
theorem dX6_readComparison_7 : decode cX6_readComparison 7 = .ok (.ifCond .eq 54, 3) := dq_153 (by decide +kernel)
theorem dX6_readComparison_10 : decode cX6_readComparison 10 = .ok (.aload_n 0, 1) := dq_42 (by decide +kernel)
theorem dX6_readComparison_11 : decode cX6_readComparison 11 = .ok (.getfield 35, 3) := dq_180 (by decide +kernel)
theorem dX6_readComparison_14 : decode cX6_readComparison 14 = .ok (.bipush 60, 2) := dq_16 (by decide +kernel)
theorem dX6_readComparison_16 : decode cX6_readComparison 16 = .ok (.if_icmp .eq 21, 3) := dq_159 (by decide +kernel)
theorem dX6_readComparison_19 : decode cX6_readComparison 19 = .ok (.aload_n 0, 1) := dq_42 (by decide +kernel)
theorem dX6_readComparison_20 : decode cX6_readComparison 20 = .ok (.getfield 35, 3) := dq_180 (by decide +kernel)
theorem dX6_readComparison_23 : decode cX6_readComparison 23 = .ok (.bipush 61, 2) := dq_16 (by decide +kernel)
theorem dX6_readComparison_25 : decode cX6_readComparison 25 = .ok (.if_icmp .eq 12, 3) := dq_159 (by decide +kernel)
theorem dX6_readComparison_28 : decode cX6_readComparison 28 = .ok (.aload_n 0, 1) := dq_42 (by decide +kernel)
theorem dX6_readComparison_29 : decode cX6_readComparison 29 = .ok (.getfield 35, 3) := dq_180 (by decide +kernel)
theorem dX6_readComparison_32 : decode cX6_readComparison 32 = .ok (.bipush 62, 2) := dq_16 (by decide +kernel)
theorem dX6_readComparison_34 : decode cX6_readComparison 34 = .ok (.if_icmp .ne 27, 3) := dq_160 (by decide +kernel)
theorem dX6_readComparison_37 : decode cX6_readComparison 37 = .ok (.aload_n 0, 1) := dq_42 (by decide +kernel)
theorem dX6_readComparison_38 : decode cX6_readComparison 38 = .ok (.getfield 35, 3) := dq_180 (by decide +kernel)
theorem dX6_readComparison_41 : decode cX6_readComparison 41 = .ok (.istore_n 3, 1) := dq_62 (by decide +kernel)
theorem dX6_readComparison_42 : decode cX6_readComparison 42 = .ok (.aload_n 0, 1) := dq_42 (by decide +kernel)
theorem dX6_readComparison_43 : decode cX6_readComparison 43 = .ok (.invokevirtual 45, 3) := dq_182 (by decide +kernel)
theorem dX6_readComparison_46 : decode cX6_readComparison 46 = .ok (.aload_n 0, 1) := dq_42 (by decide +kernel)
theorem dX6_readComparison_47 : decode cX6_readComparison 47 = .ok (.iload_n 1, 1) := dq_27 (by decide +kernel)
theorem dX6_readComparison_48 : decode cX6_readComparison 48 = .ok (.invokevirtual 65, 3) := dq_182 (by decide +kernel)
theorem dX6_readComparison_51 : decode cX6_readComparison 51 = .ok (.istore_n 2, 1) := dq_61 (by decide +kernel)
theorem dX6_readComparison_52 : decode cX6_readComparison 52 = .ok (.aload_n 0, 1) := dq_42 (by decide +kernel)
theorem dX6_readComparison_53 : decode cX6_readComparison 53 = .ok (.getfield 22, 3) := dq_180 (by decide +kernel)
theorem dX6_readComparison_56 : decode cX6_readComparison 56 = .ok (.iload_n 3, 1) := dq_29 (by decide +kernel)
theorem dX6_readComparison_57 : decode cX6_readComparison 57 = .ok (.iconst 0, 1) := dq_3 (by decide +kernel)
theorem dX6_readComparison_58 : decode cX6_readComparison 58 = .ok (.invokevirtual 55, 3) := dq_182 (by decide +kernel)
theorem dX6_readComparison_61 : decode cX6_readComparison 61 = .ok (.iload_n 2, 1) := dq_28 (by decide +kernel)
theorem dX6_readComparison_62 : decode cX6_readComparison 62 = .ok (.ireturn, 1) := dq_172 (by decide +kernel)
theorem dX6_readEither_0 : decode cX6_readEither 0 = .ok (.aload_n 0, 1) := dq_42 (by decide +kernel)
theorem dX6_readEither_1 : decode cX6_readEither 1 = .ok (.iload_n 1, 1) := dq_27 (by decide +kernel)
theorem dX6_readEither_2 : decode cX6_readEither 2 = .ok (.invokevirtual 52, 3) := dq_182 (by decide +kernel)
theorem dX6_readEither_5 : decode cX6_readEither 5 = .ok (.istore_n 2, 1) := dq_61 (by decide +kernel)
theorem dX6_readEither_6 : decode cX6_readEither 6 = .ok (.iconst 0, 1) := dq_3 (by decide +kernel)
theorem dX6_readEither_7 : decode cX6_readEither 7 = .ok (.istore_n 3, 1) := dq_62 (by decide +kernel)
theorem dX6_readEither_8 : decode cX6_readEither 8 = .ok (.iload_n 3, 1) := dq_29 (by decide +kernel)
theorem dX6_readEither_9 : decode cX6_readEither 9 = .ok (.bipush 120, 2) := dq_16 (by decide +kernel)
theorem dX6_readEither_11 : decode cX6_readEither 11 = .ok (.if_icmp .ge 40, 3) := dq_162 (by decide +kernel)
theorem dX6_readEither_14 : decode cX6_readEither 14 = .ok (.iload_n 2, 1) := dq_28 (by decide +kernel)
theorem dX6_readEither_15 : decode cX6_readEither 15 = .ok (.ifCond .eq 36, 3) := dq_153 (by decide +kernel)
theorem dX6_readEither_18 : decode cX6_readEither 18 = .ok (.aload_n 0, 1) := dq_42 (by decide +kernel)
theorem dX6_readEither_19 : decode cX6_readEither 19 = .ok (.getfield 35, 3) := dq_180 (by decide +kernel)
theorem dX6_readEither_22 : decode cX6_readEither 22 = .ok (.iconst 4, 1) := dq_7 (by decide +kernel)
theorem dX6_readEither_23 : decode cX6_readEither 23 = .ok (.if_icmp .ne 28, 3) := dq_160 (by decide +kernel)
theorem dX6_readEither_26 : decode cX6_readEither 26 = .ok (.aload_n 0, 1) := dq_42 (by decide +kernel)
theorem dX6_readEither_27 : decode cX6_readEither 27 = .ok (.invokevirtual 45, 3) := dq_182 (by decide +kernel)
theorem dX6_readEither_30 : decode cX6_readEither 30 = .ok (.aload_n 0, 1) := dq_42 (by decide +kernel)
theorem dX6_readEither_31 : decode cX6_readEither 31 = .ok (.iload_n 1, 1) := dq_27 (by decide +kernel)
theorem dX6_readEither_32 : decode cX6_readEither 32 = .ok (.invokevirtual 52, 3) := dq_182 (by decide +kernel)
theorem dX6_readEither_35 : decode cX6_readEither 35 = .ok (.istore_n 2, 1) := dq_61 (by decide +kernel)
theorem dX6_readEither_36 : decode cX6_readEither 36 = .ok (.aload_n 0, 1) := dq_42 (by decide +kernel)
theorem dX6_readEither_37 : decode cX6_readEither 37 = .ok (.getfield 22, 3) := dq_180 (by decide +kernel)
theorem dX6_readEither_40 : decode cX6_readEither 40 = .ok (.iconst 4, 1) := dq_7 (by decide +kernel)
theorem dX6_readEither_41 : decode cX6_readEither 41 = .ok (.iconst 0, 1) := dq_3 (by decide +kernel)
theorem dX6_readEither_42 : decode cX6_readEither 42 = .ok (.invokevirtual 55, 3) := dq_182 (by decide +kernel)
theorem dX6_readEither_45 : decode cX6_readEither 45 = .ok (.iinc 3 1, 3) := dq_132 (by decide +kernel)
theorem dX6_readEither_48 : decode cX6_readEither 48 = .ok (.goto (-40), 3) := dq_167 (by decide +kernel)
theorem dX6_readEither_51 : decode cX6_readEither 51 = .ok (.iload_n 2, 1) := dq_28 (by decide +kernel)
theorem dX6_readEither_52 : decode cX6_readEither 52 = .ok (.ireturn, 1) := dq_172 (by decide +kernel)
theorem dX6_readInBrackets_0 : decode cX6_readInBrackets 0 = .ok (.aload_n 0, 1) := dq_42 (by decide +kernel)
theorem dX6_readInBrackets_1 : decode cX6_readInBrackets 1 = .ok (.iload_n 1, 1) := dq_27 (by decide +kernel)
theorem dX6_readInBrackets_2 : decode cX6_readInBrackets 2 = .ok (.invokevirtual 48, 3) := dq_182 (by decide +kernel)
theorem dX6_readInBrackets_5 : decode cX6_readInBrackets 5 = .ok (.ifCond .eq 12, 3) := dq_153 (by decide +kernel)
theorem dX6_readInBrackets_8 : decode cX6_readInBrackets 8 = .ok (.aload_n 0, 1) := dq_42 (by decide +kernel)
theorem dX6_readInBrackets_9 : decode cX6_readInBrackets 9 = .ok (.getfield 35, 3) := dq_180 (by decide +kernel)
theorem dX6_readInBrackets_12 : decode cX6_readInBrackets 12 = .ok (.bipush 41, 2) := dq_16 (by decide +kernel)
theorem dX6_readInBrackets_14 : decode cX6_readInBrackets 14 = .ok (.if_icmp .eq 5, 3) := dq_159 (by decide +kernel)
theorem dX6_readInBrackets_17 : decode cX6_readInBrackets 17 = .ok (.iconst 0, 1) := dq_3 (by decide +kernel)
theorem dX6_readInBrackets_18 : decode cX6_readInBrackets 18 = .ok (.ireturn, 1) := dq_172 (by decide +kernel)
theorem dX6_readInBrackets_19 : decode cX6_readInBrackets 19 = .ok (.aload_n 0, 1) := dq_42 (by decide +kernel)
theorem dX6_readInBrackets_20 : decode cX6_readInBrackets 20 = .ok (.invokevirtual 45, 3) := dq_182 (by decide +kernel)
theorem dX6_readInBrackets_23 : decode cX6_readInBrackets 23 = .ok (.iconst 1, 1) := dq_4 (by decide +kernel)
theorem dX6_readInBrackets_24 : decode cX6_readInBrackets 24 = .ok (.ireturn, 1) := dq_172 (by decide +kernel)
theorem dX6_readNegation_0 : decode cX6_readNegation 0 = .ok (.aload_n 0, 1) := dq_42 (by decide +kernel)
theorem dX6_readNegation_1 : decode cX6_readNegation 1 = .ok (.getfield 35, 3) := dq_180 (by decide +kernel)
theorem dX6_readNegation_4 : decode cX6_readNegation 4 = .ok (.bipush 6, 2) := dq_16 (by decide +kernel)
theorem dX6_readNegation_6 : decode cX6_readNegation 6 = .ok (.if_icmp .eq 9, 3) := dq_159 (by decide +kernel)
theorem dX6_readNegation_9 : decode cX6_readNegation 9 = .ok (.aload_n 0, 1) := dq_42 (by decide +kernel)
theorem dX6_readNegation_10 : decode cX6_readNegation 10 = .ok (.iload_n 1, 1) := dq_27 (by decide +kernel)
theorem dX6_readNegation_11 : decode cX6_readNegation 11 = .ok (.invokevirtual 62, 3) := dq_182 (by decide +kernel)
theorem dX6_readNegation_14 : decode cX6_readNegation 14 = .ok (.ireturn, 1) := dq_172 (by decide +kernel)
theorem dX6_readNegation_15 : decode cX6_readNegation 15 = .ok (.iload_n 1, 1) := dq_27 (by decide +kernel)
theorem dX6_readNegation_16 : decode cX6_readNegation 16 = .ok (.bipush 15, 2) := dq_16 (by decide +kernel)
theorem dX6_readNegation_18 : decode cX6_readNegation 18 = .ok (.if_icmp .lt 5, 3) := dq_161 (by decide +kernel)
theorem dX6_readNegation_21 : decode cX6_readNegation 21 = .ok (.iconst 0, 1) := dq_3 (by decide +kernel)
theorem dX6_readNegation_22 : decode cX6_readNegation 22 = .ok (.ireturn, 1) := dq_172 (by decide +kernel)
theorem dX6_readNegation_23 : decode cX6_readNegation 23 = .ok (.aload_n 0, 1) := dq_42 (by decide +kernel)
theorem dX6_readNegation_24 : decode cX6_readNegation 24 = .ok (.invokevirtual 45, 3) := dq_182 (by decide +kernel)
theorem dX6_readNegation_27 : decode cX6_readNegation 27 = .ok (.aload_n 0, 1) := dq_42 (by decide +kernel)
theorem dX6_readNegation_28 : decode cX6_readNegation 28 = .ok (.iload_n 1, 1) := dq_27 (by decide +kernel)
theorem dX6_readNegation_29 : decode cX6_readNegation 29 = .ok (.iconst 1, 1) := dq_4 (by decide +kernel)
theorem dX6_readNegation_30 : decode cX6_readNegation 30 = .ok (.iadd, 1) := dq_96 (by decide +kernel)
theorem dX6_readNegation_31 : decode cX6_readNegation 31 = .ok (.invokevirtual 59, 3) := dq_182 (by decide +kernel)
theorem dX6_readNegation_34 : decode cX6_readNegation 34 = .ok (.istore_n 2, 1) := dq_61 (by decide +kernel)
theorem dX6_readNegation_35 : decode cX6_readNegation 35 = .ok (.aload_n 0, 1) := dq_42 (by decide +kernel)
theorem dX6_readNegation_36 : decode cX6_readNegation 36 = .ok (.getfield 22, 3) := dq_180 (by decide +kernel)
theorem dX6_readNegation_39 : decode cX6_readNegation 39 = .ok (.bipush 6, 2) := dq_16 (by decide +kernel)
theorem dX6_readNegation_41 : decode cX6_readNegation 41 = .ok (.iconst 0, 1) := dq_3 (by decide +kernel)
theorem dX6_readNegation_42 : decode cX6_readNegation 42 = .ok (.invokevirtual 55, 3) := dq_182 (by decide +kernel)
theorem dX6_readNegation_45 : decode cX6_readNegation 45 = .ok (.iload_n 2, 1) := dq_28 (by decide +kernel)
theorem dX6_readNegation_46 : decode cX6_readNegation 46 = .ok (.ireturn, 1) := dq_172 (by decide +kernel)
theorem dX6_readOperand_0 : decode cX6_readOperand 0 = .ok (.aload_n 0, 1) := dq_42 (by decide +kernel)
theorem dX6_readOperand_1 : decode cX6_readOperand 1 = .ok (.getfield 35, 3) := dq_180 (by decide +kernel)
theorem dX6_readOperand_4 : decode cX6_readOperand 4 = .ok (.iconst 2, 1) := dq_5 (by decide +kernel)
theorem dX6_readOperand_5 : decode cX6_readOperand 5 = .ok (.if_icmp .eq 11, 3) := dq_159 (by decide +kernel)
theorem dX6_readOperand_8 : decode cX6_readOperand 8 = .ok (.aload_n 0, 1) := dq_42 (by decide +kernel)
theorem dX6_readOperand_9 : decode cX6_readOperand 9 = .ok (.getfield 35, 3) := dq_180 (by decide +kernel)
theorem dX6_readOperand_12 : decode cX6_readOperand 12 = .ok (.iconst 3, 1) := dq_6 (by decide +kernel)
theorem dX6_readOperand_13 : decode cX6_readOperand 13 = .ok (.if_icmp .ne 24, 3) := dq_160 (by decide +kernel)
theorem dX6_readOperand_16 : decode cX6_readOperand 16 = .ok (.aload_n 0, 1) := dq_42 (by decide +kernel)
theorem dX6_readOperand_17 : decode cX6_readOperand 17 = .ok (.getfield 22, 3) := dq_180 (by decide +kernel)
theorem dX6_readOperand_20 : decode cX6_readOperand 20 = .ok (.aload_n 0, 1) := dq_42 (by decide +kernel)
theorem dX6_readOperand_21 : decode cX6_readOperand 21 = .ok (.getfield 35, 3) := dq_180 (by decide +kernel)
theorem dX6_readOperand_24 : decode cX6_readOperand 24 = .ok (.aload_n 0, 1) := dq_42 (by decide +kernel)
theorem dX6_readOperand_25 : decode cX6_readOperand 25 = .ok (.getfield 41, 3) := dq_180 (by decide +kernel)
theorem dX6_readOperand_28 : decode cX6_readOperand 28 = .ok (.invokevirtual 55, 3) := dq_182 (by decide +kernel)
theorem dX6_readOperand_31 : decode cX6_readOperand 31 = .ok (.aload_n 0, 1) := dq_42 (by decide +kernel)
theorem dX6_readOperand_32 : decode cX6_readOperand 32 = .ok (.invokevirtual 45, 3) := dq_182 (by decide +kernel)
theorem dX6_readOperand_35 : decode cX6_readOperand 35 = .ok (.iconst 1, 1) := dq_4 (by decide +kernel)
theorem dX6_readOperand_36 : decode cX6_readOperand 36 = .ok (.ireturn, 1) := dq_172 (by decide +kernel)
theorem dX6_readOperand_37 : decode cX6_readOperand 37 = .ok (.aload_n 0, 1) := dq_42 (by decide +kernel)
theorem dX6_readOperand_38 : decode cX6_readOperand 38 = .ok (.getfield 35, 3) := dq_180 (by decide +kernel)
theorem dX6_readOperand_41 : decode cX6_readOperand 41 = .ok (.bipush 40, 2) := dq_16 (by decide +kernel)
theorem dX6_readOperand_43 : decode cX6_readOperand 43 = .ok (.if_icmp .eq 21, 3) := dq_159 (by decide +kernel)
theorem dX6_readOperand_46 : decode cX6_readOperand 46 = .ok (.aload_n 0, 1) := dq_42 (by decide +kernel)
theorem dX6_readOperand_47 : decode cX6_readOperand 47 = .ok (.getfield 35, 3) := dq_180 (by decide +kernel)
theorem dX6_readOperand_50 : decode cX6_readOperand 50 = .ok (.bipush 7, 2) := dq_16 (by decide +kernel)
theorem dX6_readOperand_52 : decode cX6_readOperand 52 = .ok (.if_icmp .eq 12, 3) := dq_159 (by decide +kernel)
theorem dX6_readOperand_55 : decode cX6_readOperand 55 = .ok (.aload_n 0, 1) := dq_42 (by decide +kernel)
theorem dX6_readOperand_56 : decode cX6_readOperand 56 = .ok (.getfield 35, 3) := dq_180 (by decide +kernel)
theorem dX6_readOperand_59 : decode cX6_readOperand 59 = .ok (.bipush 45, 2) := dq_16 (by decide +kernel)
theorem dX6_readOperand_61 : decode cX6_readOperand 61 = .ok (.if_icmp .ne 9, 3) := dq_160 (by decide +kernel)
theorem dX6_readOperand_64 : decode cX6_readOperand 64 = .ok (.iload_n 1, 1) := dq_27 (by decide +kernel)
theorem dX6_readOperand_65 : decode cX6_readOperand 65 = .ok (.bipush 15, 2) := dq_16 (by decide +kernel)
theorem dX6_readOperand_67 : decode cX6_readOperand 67 = .ok (.if_icmp .lt 5, 3) := dq_161 (by decide +kernel)
theorem dX6_readOperand_70 : decode cX6_readOperand 70 = .ok (.iconst 0, 1) := dq_3 (by decide +kernel)
theorem dX6_readOperand_71 : decode cX6_readOperand 71 = .ok (.ireturn, 1) := dq_172 (by decide +kernel)
theorem dX6_readOperand_72 : decode cX6_readOperand 72 = .ok (.aload_n 0, 1) := dq_42 (by decide +kernel)
theorem dX6_readOperand_73 : decode cX6_readOperand 73 = .ok (.getfield 35, 3) := dq_180 (by decide +kernel)
theorem dX6_readOperand_76 : decode cX6_readOperand 76 = .ok (.istore_n 2, 1) := dq_61 (by decide +kernel)
theorem dX6_readOperand_77 : decode cX6_readOperand 77 = .ok (.aload_n 0, 1) := dq_42 (by decide +kernel)
theorem dX6_readOperand_78 : decode cX6_readOperand 78 = .ok (.invokevirtual 45, 3) := dq_182 (by decide +kernel)
theorem dX6_readOperand_81 : decode cX6_readOperand 81 = .ok (.iload_n 2, 1) := dq_28 (by decide +kernel)
theorem dX6_readOperand_82 : decode cX6_readOperand 82 = .ok (.bipush 40, 2) := dq_16 (by decide +kernel)
theorem dX6_readOperand_84 : decode cX6_readOperand 84 = .ok (.if_icmp .ne 11, 3) := dq_160 (by decide +kernel)
theorem dX6_readOperand_87 : decode cX6_readOperand 87 = .ok (.aload_n 0, 1) := dq_42 (by decide +kernel)
theorem dX6_readOperand_88 : decode cX6_readOperand 88 = .ok (.iload_n 1, 1) := dq_27 (by decide +kernel)
theorem dX6_readOperand_89 : decode cX6_readOperand 89 = .ok (.iconst 1, 1) := dq_4 (by decide +kernel)
theorem dX6_readOperand_90 : decode cX6_readOperand 90 = .ok (.iadd, 1) := dq_96 (by decide +kernel)
theorem dX6_readOperand_91 : decode cX6_readOperand 91 = .ok (.invokevirtual 74, 3) := dq_182 (by decide +kernel)
theorem dX6_readOperand_94 : decode cX6_readOperand 94 = .ok (.ireturn, 1) := dq_172 (by decide +kernel)
theorem dX6_readOperand_95 : decode cX6_readOperand 95 = .ok (.aload_n 0, 1) := dq_42 (by decide +kernel)
theorem dX6_readOperand_96 : decode cX6_readOperand 96 = .ok (.iload_n 1, 1) := dq_27 (by decide +kernel)
theorem dX6_readOperand_97 : decode cX6_readOperand 97 = .ok (.iconst 1, 1) := dq_4 (by decide +kernel)
theorem dX6_readOperand_98 : decode cX6_readOperand 98 = .ok (.iadd, 1) := dq_96 (by decide +kernel)
theorem dX6_readOperand_99 : decode cX6_readOperand 99 = .ok (.invokevirtual 71, 3) := dq_182 (by decide +kernel)
theorem dX6_readOperand_102 : decode cX6_readOperand 102 = .ok (.istore_n 3, 1) := dq_62 (by decide +kernel)
theorem dX6_readOperand_103 : decode cX6_readOperand 103 = .ok (.aload_n 0, 1) := dq_42 (by decide +kernel)
theorem dX6_readOperand_104 : decode cX6_readOperand 104 = .ok (.getfield 22, 3) := dq_180 (by decide +kernel)
theorem dX6_readOperand_107 : decode cX6_readOperand 107 = .ok (.iload_n 2, 1) := dq_28 (by decide +kernel)
theorem dX6_readOperand_108 : decode cX6_readOperand 108 = .ok (.bipush 45, 2) := dq_16 (by decide +kernel)
theorem dX6_readOperand_110 : decode cX6_readOperand 110 = .ok (.if_icmp .ne 8, 3) := dq_160 (by decide +kernel)
theorem dX6_readOperand_113 : decode cX6_readOperand 113 = .ok (.bipush 8, 2) := dq_16 (by decide +kernel)
theorem dX6_readOperand_115 : decode cX6_readOperand 115 = .ok (.goto 5, 3) := dq_167 (by decide +kernel)
theorem dX6_readOperand_118 : decode cX6_readOperand 118 = .ok (.bipush 7, 2) := dq_16 (by decide +kernel)
theorem dX6_readOperand_120 : decode cX6_readOperand 120 = .ok (.iconst 0, 1) := dq_3 (by decide +kernel)
theorem dX6_readOperand_121 : decode cX6_readOperand 121 = .ok (.invokevirtual 55, 3) := dq_182 (by decide +kernel)
theorem dX6_readOperand_124 : decode cX6_readOperand 124 = .ok (.iload_n 3, 1) := dq_29 (by decide +kernel)
theorem dX6_readOperand_125 : decode cX6_readOperand 125 = .ok (.ireturn, 1) := dq_172 (by decide +kernel)
theorem dX6_readProduct_0 : decode cX6_readProduct 0 = .ok (.aload_n 0, 1) := dq_42 (by decide +kernel)
theorem dX6_readProduct_1 : decode cX6_readProduct 1 = .ok (.iload_n 1, 1) := dq_27 (by decide +kernel)
theorem dX6_readProduct_2 : decode cX6_readProduct 2 = .ok (.invokevirtual 71, 3) := dq_182 (by decide +kernel)
theorem dX6_readProduct_5 : decode cX6_readProduct 5 = .ok (.istore_n 2, 1) := dq_61 (by decide +kernel)
theorem dX6_readProduct_6 : decode cX6_readProduct 6 = .ok (.iconst 0, 1) := dq_3 (by decide +kernel)
theorem dX6_readProduct_7 : decode cX6_readProduct 7 = .ok (.istore_n 3, 1) := dq_62 (by decide +kernel)
theorem dX6_readProduct_8 : decode cX6_readProduct 8 = .ok (.iload_n 3, 1) := dq_29 (by decide +kernel)
theorem dX6_readProduct_9 : decode cX6_readProduct 9 = .ok (.bipush 120, 2) := dq_16 (by decide +kernel)
theorem dX6_readProduct_11 : decode cX6_readProduct 11 = .ok (.if_icmp .ge 57, 3) := dq_162 (by decide +kernel)
theorem dX6_readProduct_14 : decode cX6_readProduct 14 = .ok (.iload_n 2, 1) := dq_28 (by decide +kernel)
theorem dX6_readProduct_15 : decode cX6_readProduct 15 = .ok (.ifCond .eq 53, 3) := dq_153 (by decide +kernel)
theorem dX6_readProduct_18 : decode cX6_readProduct 18 = .ok (.aload_n 0, 1) := dq_42 (by decide +kernel)
theorem dX6_readProduct_19 : decode cX6_readProduct 19 = .ok (.getfield 35, 3) := dq_180 (by decide +kernel)
theorem dX6_readProduct_22 : decode cX6_readProduct 22 = .ok (.bipush 42, 2) := dq_16 (by decide +kernel)
theorem dX6_readProduct_24 : decode cX6_readProduct 24 = .ok (.if_icmp .eq 12, 3) := dq_159 (by decide +kernel)
theorem dX6_readProduct_27 : decode cX6_readProduct 27 = .ok (.aload_n 0, 1) := dq_42 (by decide +kernel)
theorem dX6_readProduct_28 : decode cX6_readProduct 28 = .ok (.getfield 35, 3) := dq_180 (by decide +kernel)
theorem dX6_readProduct_31 : decode cX6_readProduct 31 = .ok (.bipush 47, 2) := dq_16 (by decide +kernel)
theorem dX6_readProduct_33 : decode cX6_readProduct 33 = .ok (.if_icmp .ne 35, 3) := dq_160 (by decide +kernel)
theorem dX6_readProduct_36 : decode cX6_readProduct 36 = .ok (.aload_n 0, 1) := dq_42 (by decide +kernel)
theorem dX6_readProduct_37 : decode cX6_readProduct 37 = .ok (.getfield 35, 3) := dq_180 (by decide +kernel)
theorem dX6_readProduct_40 : decode cX6_readProduct 40 = .ok (.istore 4, 2) := dq_54 (by decide +kernel)
theorem dX6_readProduct_42 : decode cX6_readProduct 42 = .ok (.aload_n 0, 1) := dq_42 (by decide +kernel)
theorem dX6_readProduct_43 : decode cX6_readProduct 43 = .ok (.invokevirtual 45, 3) := dq_182 (by decide +kernel)
theorem dX6_readProduct_46 : decode cX6_readProduct 46 = .ok (.aload_n 0, 1) := dq_42 (by decide +kernel)
theorem dX6_readProduct_47 : decode cX6_readProduct 47 = .ok (.iload_n 1, 1) := dq_27 (by decide +kernel)
theorem dX6_readProduct_48 : decode cX6_readProduct 48 = .ok (.invokevirtual 71, 3) := dq_182 (by decide +kernel)
theorem dX6_readProduct_51 : decode cX6_readProduct 51 = .ok (.istore_n 2, 1) := dq_61 (by decide +kernel)
theorem dX6_readProduct_52 : decode cX6_readProduct 52 = .ok (.aload_n 0, 1) := dq_42 (by decide +kernel)
theorem dX6_readProduct_53 : decode cX6_readProduct 53 = .ok (.getfield 22, 3) := dq_180 (by decide +kernel)
theorem dX6_readProduct_56 : decode cX6_readProduct 56 = .ok (.iload 4, 2) := dq_21 (by decide +kernel)
theorem dX6_readProduct_58 : decode cX6_readProduct 58 = .ok (.iconst 0, 1) := dq_3 (by decide +kernel)
theorem dX6_readProduct_59 : decode cX6_readProduct 59 = .ok (.invokevirtual 55, 3) := dq_182 (by decide +kernel)
theorem dX6_readProduct_62 : decode cX6_readProduct 62 = .ok (.iinc 3 1, 3) := dq_132 (by decide +kernel)
theorem dX6_readProduct_65 : decode cX6_readProduct 65 = .ok (.goto (-57), 3) := dq_167 (by decide +kernel)
theorem dX6_readProduct_68 : decode cX6_readProduct 68 = .ok (.iload_n 2, 1) := dq_28 (by decide +kernel)
theorem dX6_readProduct_69 : decode cX6_readProduct 69 = .ok (.ireturn, 1) := dq_172 (by decide +kernel)
theorem dX6_readSum_0 : decode cX6_readSum 0 = .ok (.aload_n 0, 1) := dq_42 (by decide +kernel)
theorem dX6_readSum_1 : decode cX6_readSum 1 = .ok (.iload_n 1, 1) := dq_27 (by decide +kernel)
theorem dX6_readSum_2 : decode cX6_readSum 2 = .ok (.invokevirtual 68, 3) := dq_182 (by decide +kernel)
theorem dX6_readSum_5 : decode cX6_readSum 5 = .ok (.istore_n 2, 1) := dq_61 (by decide +kernel)
theorem dX6_readSum_6 : decode cX6_readSum 6 = .ok (.iconst 0, 1) := dq_3 (by decide +kernel)
theorem dX6_readSum_7 : decode cX6_readSum 7 = .ok (.istore_n 3, 1) := dq_62 (by decide +kernel)
theorem dX6_readSum_8 : decode cX6_readSum 8 = .ok (.iload_n 3, 1) := dq_29 (by decide +kernel)
theorem dX6_readSum_9 : decode cX6_readSum 9 = .ok (.bipush 120, 2) := dq_16 (by decide +kernel)
theorem dX6_readSum_11 : decode cX6_readSum 11 = .ok (.if_icmp .ge 57, 3) := dq_162 (by decide +kernel)
theorem dX6_readSum_14 : decode cX6_readSum 14 = .ok (.iload_n 2, 1) := dq_28 (by decide +kernel)
theorem dX6_readSum_15 : decode cX6_readSum 15 = .ok (.ifCond .eq 53, 3) := dq_153 (by decide +kernel)
theorem dX6_readSum_18 : decode cX6_readSum 18 = .ok (.aload_n 0, 1) := dq_42 (by decide +kernel)
theorem dX6_readSum_19 : decode cX6_readSum 19 = .ok (.getfield 35, 3) := dq_180 (by decide +kernel)
theorem dX6_readSum_22 : decode cX6_readSum 22 = .ok (.bipush 43, 2) := dq_16 (by decide +kernel)
theorem dX6_readSum_24 : decode cX6_readSum 24 = .ok (.if_icmp .eq 12, 3) := dq_159 (by decide +kernel)
theorem dX6_readSum_27 : decode cX6_readSum 27 = .ok (.aload_n 0, 1) := dq_42 (by decide +kernel)
theorem dX6_readSum_28 : decode cX6_readSum 28 = .ok (.getfield 35, 3) := dq_180 (by decide +kernel)
theorem dX6_readSum_31 : decode cX6_readSum 31 = .ok (.bipush 45, 2) := dq_16 (by decide +kernel)
theorem dX6_readSum_33 : decode cX6_readSum 33 = .ok (.if_icmp .ne 35, 3) := dq_160 (by decide +kernel)
theorem dX6_readSum_36 : decode cX6_readSum 36 = .ok (.aload_n 0, 1) := dq_42 (by decide +kernel)
theorem dX6_readSum_37 : decode cX6_readSum 37 = .ok (.getfield 35, 3) := dq_180 (by decide +kernel)
theorem dX6_readSum_40 : decode cX6_readSum 40 = .ok (.istore 4, 2) := dq_54 (by decide +kernel)
theorem dX6_readSum_42 : decode cX6_readSum 42 = .ok (.aload_n 0, 1) := dq_42 (by decide +kernel)
theorem dX6_readSum_43 : decode cX6_readSum 43 = .ok (.invokevirtual 45, 3) := dq_182 (by decide +kernel)
theorem dX6_readSum_46 : decode cX6_readSum 46 = .ok (.aload_n 0, 1) := dq_42 (by decide +kernel)
theorem dX6_readSum_47 : decode cX6_readSum 47 = .ok (.iload_n 1, 1) := dq_27 (by decide +kernel)
theorem dX6_readSum_48 : decode cX6_readSum 48 = .ok (.invokevirtual 68, 3) := dq_182 (by decide +kernel)
theorem dX6_readSum_51 : decode cX6_readSum 51 = .ok (.istore_n 2, 1) := dq_61 (by decide +kernel)
theorem dX6_readSum_52 : decode cX6_readSum 52 = .ok (.aload_n 0, 1) := dq_42 (by decide +kernel)
theorem dX6_readSum_53 : decode cX6_readSum 53 = .ok (.getfield 22, 3) := dq_180 (by decide +kernel)
theorem dX6_readSum_56 : decode cX6_readSum 56 = .ok (.iload 4, 2) := dq_21 (by decide +kernel)
theorem dX6_readSum_58 : decode cX6_readSum 58 = .ok (.iconst 0, 1) := dq_3 (by decide +kernel)
theorem dX6_readSum_59 : decode cX6_readSum 59 = .ok (.invokevirtual 55, 3) := dq_182 (by decide +kernel)
theorem dX6_readSum_62 : decode cX6_readSum 62 = .ok (.iinc 3 1, 3) := dq_132 (by decide +kernel)
theorem dX6_readSum_65 : decode cX6_readSum 65 = .ok (.goto (-57), 3) := dq_167 (by decide +kernel)
theorem dX6_readSum_68 : decode cX6_readSum 68 = .ok (.iload_n 2, 1) := dq_28 (by decide +kernel)
theorem dX6_readSum_69 : decode cX6_readSum 69 = .ok (.ireturn, 1) := dq_172 (by decide +kernel)
theorem dX6_takeLetters_0 : decode cX6_takeLetters 0 = .ok (.aload_n 0, 1) := dq_42 (by decide +kernel)
theorem dX6_takeLetters_1 : decode cX6_takeLetters 1 = .ok (.getfield 32, 3) := dq_180 (by decide +kernel)
theorem dX6_takeLetters_4 : decode cX6_takeLetters 4 = .ok (.aload_n 0, 1) := dq_42 (by decide +kernel)
theorem dX6_takeLetters_5 : decode cX6_takeLetters 5 = .ok (.getfield 15, 3) := dq_180 (by decide +kernel)
theorem dX6_takeLetters_8 : decode cX6_takeLetters 8 = .ok (.if_icmp .ge 31, 3) := dq_162 (by decide +kernel)
theorem dX6_takeLetters_11 : decode cX6_takeLetters 11 = .ok (.aload_n 0, 1) := dq_42 (by decide +kernel)
theorem dX6_takeLetters_12 : decode cX6_takeLetters 12 = .ok (.getfield 9, 3) := dq_180 (by decide +kernel)
theorem dX6_takeLetters_15 : decode cX6_takeLetters 15 = .ok (.aload_n 0, 1) := dq_42 (by decide +kernel)
theorem dX6_takeLetters_16 : decode cX6_takeLetters 16 = .ok (.getfield 32, 3) := dq_180 (by decide +kernel)
theorem dX6_takeLetters_19 : decode cX6_takeLetters 19 = .ok (.iaload, 1) := dq_46 (by decide +kernel)
theorem dX6_takeLetters_20 : decode cX6_takeLetters 20 = .ok (.invokestatic 77, 3) := dq_184 (by decide +kernel)
theorem dX6_takeLetters_23 : decode cX6_takeLetters 23 = .ok (.ifCond .eq 16, 3) := dq_153 (by decide +kernel)
theorem dX6_takeLetters_26 : decode cX6_takeLetters 26 = .ok (.aload_n 0, 1) := dq_42 (by decide +kernel)
theorem dX6_takeLetters_27 : decode cX6_takeLetters 27 = .ok (.dup, 1) := dq_89 (by decide +kernel)
theorem dX6_takeLetters_28 : decode cX6_takeLetters 28 = .ok (.getfield 32, 3) := dq_180 (by decide +kernel)
theorem dX6_takeLetters_31 : decode cX6_takeLetters 31 = .ok (.iconst 1, 1) := dq_4 (by decide +kernel)
theorem dX6_takeLetters_32 : decode cX6_takeLetters 32 = .ok (.iadd, 1) := dq_96 (by decide +kernel)
theorem dX6_takeLetters_33 : decode cX6_takeLetters 33 = .ok (.putfield 32, 3) := dq_181 (by decide +kernel)
theorem dX6_takeLetters_36 : decode cX6_takeLetters 36 = .ok (.goto (-36), 3) := dq_167 (by decide +kernel)
theorem dX6_takeLetters_39 : decode cX6_takeLetters 39 = .ok (.aload_n 0, 1) := dq_42 (by decide +kernel)
theorem dX6_takeLetters_40 : decode cX6_takeLetters 40 = .ok (.invokevirtual 92, 3) := dq_182 (by decide +kernel)
theorem dX6_takeLetters_43 : decode cX6_takeLetters 43 = .ok (.istore_n 1, 1) := dq_60 (by decide +kernel)
theorem dX6_takeLetters_44 : decode cX6_takeLetters 44 = .ok (.aload_n 0, 1) := dq_42 (by decide +kernel)
theorem dX6_takeLetters_45 : decode cX6_takeLetters 45 = .ok (.iload_n 1, 1) := dq_27 (by decide +kernel)
theorem dX6_takeLetters_46 : decode cX6_takeLetters 46 = .ok (.iconst 4, 1) := dq_7 (by decide +kernel)
theorem dX6_takeLetters_47 : decode cX6_takeLetters 47 = .ok (.isub, 1) := dq_100 (by decide +kernel)
theorem dX6_takeLetters_48 : decode cX6_takeLetters 48 = .ok (.putfield 41, 3) := dq_181 (by decide +kernel)
theorem dX6_takeLetters_51 : decode cX6_takeLetters 51 = .ok (.aload_n 0, 1) := dq_42 (by decide +kernel)
theorem dX6_takeLetters_52 : decode cX6_takeLetters 52 = .ok (.iload_n 1, 1) := dq_27 (by decide +kernel)
theorem dX6_takeLetters_53 : decode cX6_takeLetters 53 = .ok (.iconst (-1), 1) := dq_2 (by decide +kernel)
theorem dX6_takeLetters_54 : decode cX6_takeLetters 54 = .ok (.if_icmp .ne 7, 3) := dq_160 (by decide +kernel)
theorem dX6_takeLetters_57 : decode cX6_takeLetters 57 = .ok (.iconst 1, 1) := dq_4 (by decide +kernel)
theorem dX6_takeLetters_58 : decode cX6_takeLetters 58 = .ok (.goto 15, 3) := dq_167 (by decide +kernel)
theorem dX6_takeLetters_61 : decode cX6_takeLetters 61 = .ok (.iload_n 1, 1) := dq_27 (by decide +kernel)
theorem dX6_takeLetters_62 : decode cX6_takeLetters 62 = .ok (.iconst 4, 1) := dq_7 (by decide +kernel)
theorem dX6_takeLetters_63 : decode cX6_takeLetters 63 = .ok (.if_icmp .ge 9, 3) := dq_162 (by decide +kernel)
theorem dX6_takeLetters_66 : decode cX6_takeLetters 66 = .ok (.iconst 4, 1) := dq_7 (by decide +kernel)
theorem dX6_takeLetters_67 : decode cX6_takeLetters 67 = .ok (.iload_n 1, 1) := dq_27 (by decide +kernel)
theorem dX6_takeLetters_68 : decode cX6_takeLetters 68 = .ok (.iadd, 1) := dq_96 (by decide +kernel)
theorem dX6_takeLetters_69 : decode cX6_takeLetters 69 = .ok (.goto 4, 3) := dq_167 (by decide +kernel)
theorem dX6_takeLetters_72 : decode cX6_takeLetters 72 = .ok (.iconst 3, 1) := dq_6 (by decide +kernel)
theorem dX6_takeLetters_73 : decode cX6_takeLetters 73 = .ok (.putfield 35, 3) := dq_181 (by decide +kernel)
theorem dX6_takeLetters_76 : decode cX6_takeLetters 76 = .ok (.return_, 1) := dq_177 (by decide +kernel)
end
section
theorem dX7_init_0 : decode cX7_init 0 = .ok (.aload_n 0, 1) := dq_42 (by decide +kernel)
theorem dX7_init_1 : decode cX7_init 1 = .ok (.invokespecial 3, 3) := dq_183 (by decide +kernel)
theorem dX7_init_4 : decode cX7_init 4 = .ok (.aload_n 0, 1) := dq_42 (by decide +kernel)
theorem dX7_init_5 : decode cX7_init 5 = .ok (.sipush 400, 3) := dq_17 (by decide +kernel)
theorem dX7_init_8 : decode cX7_init 8 = .ok (.newarray .int, 2) := dq_188_10 (by decide +kernel)
theorem dX7_init_10 : decode cX7_init 10 = .ok (.putfield 9, 3) := dq_181 (by decide +kernel)
theorem dX7_init_13 : decode cX7_init 13 = .ok (.aload_n 0, 1) := dq_42 (by decide +kernel)
theorem dX7_init_14 : decode cX7_init 14 = .ok (.sipush 400, 3) := dq_17 (by decide +kernel)
theorem dX7_init_17 : decode cX7_init 17 = .ok (.newarray .int, 2) := dq_188_10 (by decide +kernel)
theorem dX7_init_19 : decode cX7_init 19 = .ok (.putfield 15, 3) := dq_181 (by decide +kernel)
theorem dX7_init_22 : decode cX7_init 22 = .ok (.aload_n 0, 1) := dq_42 (by decide +kernel)
theorem dX7_init_23 : decode cX7_init 23 = .ok (.sipush 400, 3) := dq_17 (by decide +kernel)
theorem dX7_init_26 : decode cX7_init 26 = .ok (.newarray .int, 2) := dq_188_10 (by decide +kernel)
theorem dX7_init_28 : decode cX7_init 28 = .ok (.putfield 18, 3) := dq_181 (by decide +kernel)
theorem dX7_init_31 : decode cX7_init 31 = .ok (.aload_n 0, 1) := dq_42 (by decide +kernel)
theorem dX7_init_32 : decode cX7_init 32 = .ok (.sipush 400, 3) := dq_17 (by decide +kernel)
theorem dX7_init_35 : decode cX7_init 35 = .ok (.newarray .int, 2) := dq_188_10 (by decide +kernel)
theorem dX7_init_37 : decode cX7_init 37 = .ok (.putfield 21, 3) := dq_181 (by decide +kernel)
theorem dX7_init_40 : decode cX7_init 40 = .ok (.return_, 1) := dq_177 (by decide +kernel)
end
section
theorem dX8_age_0 : decode cX8_age 0 = .ok (.iload_n 1, 1) := dq_27 (by decide +kernel)
theorem dX8_age_1 : decode cX8_age 1 = .ok (.invokestatic 92, 3) := dq_184 (by decide +kernel)
theorem dX8_age_4 : decode cX8_age 4 = .ok (.ifCond .eq 10, 3) := dq_153 (by decide +kernel)
theorem dX8_age_7 : decode cX8_age 7 = .ok (.iload_n 2, 1) := dq_28 (by decide +kernel)
theorem dX8_age_8 : decode cX8_age 8 = .ok (.invokestatic 84, 3) := dq_184 (by decide +kernel)
theorem dX8_age_11 : decode cX8_age 11 = .ok (.ifCond .ne 5, 3) := dq_154 (by decide +kernel)
theorem dX8_age_14 : decode cX8_age 14 = .ok (.iconst (-1), 1) := dq_2 (by decide +kernel)
theorem dX8_age_15 : decode cX8_age 15 = .ok (.ireturn, 1) := dq_172 (by decide +kernel)
theorem dX8_age_16 : decode cX8_age 16 = .ok (.aload_n 0, 1) := dq_42 (by decide +kernel)
theorem dX8_age_17 : decode cX8_age 17 = .ok (.iload_n 1, 1) := dq_27 (by decide +kernel)
theorem dX8_age_18 : decode cX8_age 18 = .ok (.invokevirtual 102, 3) := dq_182 (by decide +kernel)
theorem dX8_age_21 : decode cX8_age 21 = .ok (.astore_n 3, 1) := dq_78 (by decide +kernel)
theorem dX8_age_22 : decode cX8_age 22 = .ok (.aload_n 3, 1) := dq_45 (by decide +kernel)
theorem dX8_age_23 : decode cX8_age 23 = .ok (.ifnonnull 11, 3) := dq_199 (by decide +kernel)
theorem dX8_age_26 : decode cX8_age 26 = .ok (.aload_n 0, 1) := dq_42 (by decide +kernel)
theorem dX8_age_27 : decode cX8_age 27 = .ok (.iload_n 1, 1) := dq_27 (by decide +kernel)
theorem dX8_age_28 : decode cX8_age 28 = .ok (.invokevirtual 115, 3) := dq_182 (by decide +kernel)
theorem dX8_age_31 : decode cX8_age 31 = .ok (.goto 8, 3) := dq_167 (by decide +kernel)
theorem dX8_age_34 : decode cX8_age 34 = .ok (.aload_n 3, 1) := dq_45 (by decide +kernel)
theorem dX8_age_35 : decode cX8_age 35 = .ok (.iload_n 2, 1) := dq_28 (by decide +kernel)
theorem dX8_age_36 : decode cX8_age 36 = .ok (.invokevirtual 139, 3) := dq_182 (by decide +kernel)
theorem dX8_age_39 : decode cX8_age 39 = .ok (.ireturn, 1) := dq_172 (by decide +kernel)
theorem dX8_away_0 : decode cX8_away 0 = .ok (.iload_n 1, 1) := dq_27 (by decide +kernel)
theorem dX8_away_1 : decode cX8_away 1 = .ok (.invokestatic 92, 3) := dq_184 (by decide +kernel)
theorem dX8_away_4 : decode cX8_away 4 = .ok (.ifCond .ne 5, 3) := dq_154 (by decide +kernel)
theorem dX8_away_7 : decode cX8_away 7 = .ok (.iconst (-1), 1) := dq_2 (by decide +kernel)
theorem dX8_away_8 : decode cX8_away 8 = .ok (.ireturn, 1) := dq_172 (by decide +kernel)
theorem dX8_away_9 : decode cX8_away 9 = .ok (.aload_n 0, 1) := dq_42 (by decide +kernel)
theorem dX8_away_10 : decode cX8_away 10 = .ok (.iload_n 1, 1) := dq_27 (by decide +kernel)
theorem dX8_away_11 : decode cX8_away 11 = .ok (.invokevirtual 102, 3) := dq_182 (by decide +kernel)
theorem dX8_away_14 : decode cX8_away 14 = .ok (.astore_n 2, 1) := dq_77 (by decide +kernel)
theorem dX8_away_15 : decode cX8_away 15 = .ok (.aload_n 2, 1) := dq_44 (by decide +kernel)
theorem dX8_away_16 : decode cX8_away 16 = .ok (.ifnonnull 11, 3) := dq_199 (by decide +kernel)
theorem dX8_away_19 : decode cX8_away 19 = .ok (.aload_n 0, 1) := dq_42 (by decide +kernel)
theorem dX8_away_20 : decode cX8_away 20 = .ok (.iload_n 1, 1) := dq_27 (by decide +kernel)
theorem dX8_away_21 : decode cX8_away 21 = .ok (.invokevirtual 115, 3) := dq_182 (by decide +kernel)
theorem dX8_away_24 : decode cX8_away 24 = .ok (.goto 11, 3) := dq_167 (by decide +kernel)
theorem dX8_away_27 : decode cX8_away 27 = .ok (.aload_n 2, 1) := dq_44 (by decide +kernel)
theorem dX8_away_28 : decode cX8_away 28 = .ok (.aload_n 0, 1) := dq_42 (by decide +kernel)
theorem dX8_away_29 : decode cX8_away 29 = .ok (.getfield 79, 3) := dq_180 (by decide +kernel)
theorem dX8_away_32 : decode cX8_away 32 = .ok (.invokevirtual 292, 3) := dq_182 (by decide +kernel)
theorem dX8_away_35 : decode cX8_away 35 = .ok (.ireturn, 1) := dq_172 (by decide +kernel)
theorem dX8_back_0 : decode cX8_back 0 = .ok (.iload_n 1, 1) := dq_27 (by decide +kernel)
theorem dX8_back_1 : decode cX8_back 1 = .ok (.invokestatic 202, 3) := dq_184 (by decide +kernel)
theorem dX8_back_4 : decode cX8_back 4 = .ok (.ifCond .eq 31, 3) := dq_153 (by decide +kernel)
theorem dX8_back_7 : decode cX8_back 7 = .ok (.iload_n 2, 1) := dq_28 (by decide +kernel)
theorem dX8_back_8 : decode cX8_back 8 = .ok (.ldc 114, 2) := dq_18 (by decide +kernel)
theorem dX8_back_10 : decode cX8_back 10 = .ok (.invokestatic 88, 3) := dq_184 (by decide +kernel)
theorem dX8_back_13 : decode cX8_back 13 = .ok (.ifCond .eq 22, 3) := dq_153 (by decide +kernel)
theorem dX8_back_16 : decode cX8_back 16 = .ok (.iload_n 3, 1) := dq_29 (by decide +kernel)
theorem dX8_back_17 : decode cX8_back 17 = .ok (.ldc 114, 2) := dq_18 (by decide +kernel)
theorem dX8_back_19 : decode cX8_back 19 = .ok (.invokestatic 88, 3) := dq_184 (by decide +kernel)
theorem dX8_back_22 : decode cX8_back 22 = .ok (.ifCond .eq 13, 3) := dq_153 (by decide +kernel)
theorem dX8_back_25 : decode cX8_back 25 = .ok (.iload 4, 2) := dq_21 (by decide +kernel)
theorem dX8_back_27 : decode cX8_back 27 = .ok (.ldc 114, 2) := dq_18 (by decide +kernel)
theorem dX8_back_29 : decode cX8_back 29 = .ok (.invokestatic 88, 3) := dq_184 (by decide +kernel)
theorem dX8_back_32 : decode cX8_back 32 = .ok (.ifCond .ne 5, 3) := dq_154 (by decide +kernel)
theorem dX8_back_35 : decode cX8_back 35 = .ok (.iconst (-1), 1) := dq_2 (by decide +kernel)
theorem dX8_back_36 : decode cX8_back 36 = .ok (.ireturn, 1) := dq_172 (by decide +kernel)
theorem dX8_back_37 : decode cX8_back 37 = .ok (.aload_n 0, 1) := dq_42 (by decide +kernel)
theorem dX8_back_38 : decode cX8_back 38 = .ok (.getfield 27, 3) := dq_180 (by decide +kernel)
theorem dX8_back_41 : decode cX8_back 41 = .ok (.iload_n 1, 1) := dq_27 (by decide +kernel)
theorem dX8_back_42 : decode cX8_back 42 = .ok (.aaload, 1) := dq_50 (by decide +kernel)
theorem dX8_back_43 : decode cX8_back 43 = .ok (.astore 5, 2) := dq_58 (by decide +kernel)
theorem dX8_back_45 : decode cX8_back 45 = .ok (.aload 5, 2) := dq_25 (by decide +kernel)
theorem dX8_back_47 : decode cX8_back 47 = .ok (.getfield 208, 3) := dq_180 (by decide +kernel)
theorem dX8_back_50 : decode cX8_back 50 = .ok (.iconst 1, 1) := dq_4 (by decide +kernel)
theorem dX8_back_51 : decode cX8_back 51 = .ok (.if_icmp .ne 15, 3) := dq_160 (by decide +kernel)
theorem dX8_back_54 : decode cX8_back 54 = .ok (.aload 5, 2) := dq_25 (by decide +kernel)
theorem dX8_back_56 : decode cX8_back 56 = .ok (.getfield 262, 3) := dq_180 (by decide +kernel)
theorem dX8_back_59 : decode cX8_back 59 = .ok (.aload_n 0, 1) := dq_42 (by decide +kernel)
theorem dX8_back_60 : decode cX8_back 60 = .ok (.getfield 79, 3) := dq_180 (by decide +kernel)
theorem dX8_back_63 : decode cX8_back 63 = .ok (.if_icmp .lt 6, 3) := dq_161 (by decide +kernel)
theorem dX8_back_66 : decode cX8_back 66 = .ok (.bipush (-4), 2) := dq_16 (by decide +kernel)
theorem dX8_back_68 : decode cX8_back 68 = .ok (.ireturn, 1) := dq_172 (by decide +kernel)
theorem dX8_back_69 : decode cX8_back 69 = .ok (.aload 5, 2) := dq_25 (by decide +kernel)
theorem dX8_back_71 : decode cX8_back 71 = .ok (.aload_n 0, 1) := dq_42 (by decide +kernel)
theorem dX8_back_72 : decode cX8_back 72 = .ok (.getfield 79, 3) := dq_180 (by decide +kernel)
theorem dX8_back_75 : decode cX8_back 75 = .ok (.invokevirtual 265, 3) := dq_182 (by decide +kernel)
theorem dX8_back_78 : decode cX8_back 78 = .ok (.aload_n 0, 1) := dq_42 (by decide +kernel)
theorem dX8_back_79 : decode cX8_back 79 = .ok (.aload 5, 2) := dq_25 (by decide +kernel)
theorem dX8_back_81 : decode cX8_back 81 = .ok (.iconst 0, 1) := dq_3 (by decide +kernel)
theorem dX8_back_82 : decode cX8_back 82 = .ok (.iload_n 2, 1) := dq_28 (by decide +kernel)
theorem dX8_back_83 : decode cX8_back 83 = .ok (.invokevirtual 268, 3) := dq_182 (by decide +kernel)
theorem dX8_back_86 : decode cX8_back 86 = .ok (.aload_n 0, 1) := dq_42 (by decide +kernel)
theorem dX8_back_87 : decode cX8_back 87 = .ok (.aload 5, 2) := dq_25 (by decide +kernel)
theorem dX8_back_89 : decode cX8_back 89 = .ok (.iconst 1, 1) := dq_4 (by decide +kernel)
theorem dX8_back_90 : decode cX8_back 90 = .ok (.iload_n 3, 1) := dq_29 (by decide +kernel)
theorem dX8_back_91 : decode cX8_back 91 = .ok (.invokevirtual 268, 3) := dq_182 (by decide +kernel)
theorem dX8_back_94 : decode cX8_back 94 = .ok (.aload_n 0, 1) := dq_42 (by decide +kernel)
theorem dX8_back_95 : decode cX8_back 95 = .ok (.aload 5, 2) := dq_25 (by decide +kernel)
theorem dX8_back_97 : decode cX8_back 97 = .ok (.iconst 2, 1) := dq_5 (by decide +kernel)
theorem dX8_back_98 : decode cX8_back 98 = .ok (.iload 4, 2) := dq_21 (by decide +kernel)
theorem dX8_back_100 : decode cX8_back 100 = .ok (.invokevirtual 268, 3) := dq_182 (by decide +kernel)
theorem dX8_back_103 : decode cX8_back 103 = .ok (.aload 5, 2) := dq_25 (by decide +kernel)
theorem dX8_back_105 : decode cX8_back 105 = .ok (.getfield 272, 3) := dq_180 (by decide +kernel)
theorem dX8_back_108 : decode cX8_back 108 = .ok (.ireturn, 1) := dq_172 (by decide +kernel)
theorem dX8_board_0 : decode cX8_board 0 = .ok (.aload_n 0, 1) := dq_42 (by decide +kernel)
theorem dX8_board_1 : decode cX8_board 1 = .ok (.iload_n 3, 1) := dq_29 (by decide +kernel)
theorem dX8_board_2 : decode cX8_board 2 = .ok (.invokevirtual 102, 3) := dq_182 (by decide +kernel)
theorem dX8_board_5 : decode cX8_board 5 = .ok (.astore 4, 2) := dq_58 (by decide +kernel)
theorem dX8_board_7 : decode cX8_board 7 = .ok (.aload 4, 2) := dq_25 (by decide +kernel)
theorem dX8_board_9 : decode cX8_board 9 = .ok (.ifnull 10, 3) := dq_198 (by decide +kernel)
theorem dX8_board_12 : decode cX8_board 12 = .ok (.iload_n 1, 1) := dq_27 (by decide +kernel)
theorem dX8_board_13 : decode cX8_board 13 = .ok (.invokestatic 202, 3) := dq_184 (by decide +kernel)
theorem dX8_board_16 : decode cX8_board 16 = .ok (.ifCond .ne 4, 3) := dq_154 (by decide +kernel)
theorem dX8_board_19 : decode cX8_board 19 = .ok (.return_, 1) := dq_177 (by decide +kernel)
theorem dX8_board_20 : decode cX8_board 20 = .ok (.aload_n 0, 1) := dq_42 (by decide +kernel)
theorem dX8_board_21 : decode cX8_board 21 = .ok (.aload 4, 2) := dq_25 (by decide +kernel)
theorem dX8_board_23 : decode cX8_board 23 = .ok (.invokevirtual 358, 3) := dq_182 (by decide +kernel)
theorem dX8_board_26 : decode cX8_board 26 = .ok (.aload_n 0, 1) := dq_42 (by decide +kernel)
theorem dX8_board_27 : decode cX8_board 27 = .ok (.getfield 44, 3) := dq_180 (by decide +kernel)
theorem dX8_board_30 : decode cX8_board 30 = .ok (.getfield 311, 3) := dq_180 (by decide +kernel)
theorem dX8_board_33 : decode cX8_board 33 = .ok (.ifCond .ne 4, 3) := dq_154 (by decide +kernel)
theorem dX8_board_36 : decode cX8_board 36 = .ok (.return_, 1) := dq_177 (by decide +kernel)
theorem dX8_board_37 : decode cX8_board 37 = .ok (.aload_n 0, 1) := dq_42 (by decide +kernel)
theorem dX8_board_38 : decode cX8_board 38 = .ok (.getfield 44, 3) := dq_180 (by decide +kernel)
theorem dX8_board_41 : decode cX8_board 41 = .ok (.invokevirtual 340, 3) := dq_182 (by decide +kernel)
theorem dX8_board_44 : decode cX8_board 44 = .ok (.aload_n 0, 1) := dq_42 (by decide +kernel)
theorem dX8_board_45 : decode cX8_board 45 = .ok (.getfield 44, 3) := dq_180 (by decide +kernel)
theorem dX8_board_48 : decode cX8_board 48 = .ok (.getfield 311, 3) := dq_180 (by decide +kernel)
theorem dX8_board_51 : decode cX8_board 51 = .ok (.invokestatic 362, 3) := dq_184 (by decide +kernel)
theorem dX8_board_54 : decode cX8_board 54 = .ok (.istore 5, 2) := dq_54 (by decide +kernel)
theorem dX8_board_56 : decode cX8_board 56 = .ok (.iconst 1, 1) := dq_4 (by decide +kernel)
theorem dX8_board_57 : decode cX8_board 57 = .ok (.aload_n 0, 1) := dq_42 (by decide +kernel)
theorem dX8_board_58 : decode cX8_board 58 = .ok (.getfield 44, 3) := dq_180 (by decide +kernel)
theorem dX8_board_61 : decode cX8_board 61 = .ok (.invokevirtual 331, 3) := dq_182 (by decide +kernel)
theorem dX8_board_64 : decode cX8_board 64 = .ok (.aload_n 0, 1) := dq_42 (by decide +kernel)
theorem dX8_board_65 : decode cX8_board 65 = .ok (.getfield 44, 3) := dq_180 (by decide +kernel)
theorem dX8_board_68 : decode cX8_board 68 = .ok (.invokevirtual 328, 3) := dq_182 (by decide +kernel)
theorem dX8_board_71 : decode cX8_board 71 = .ok (.isub, 1) := dq_100 (by decide +kernel)
theorem dX8_board_72 : decode cX8_board 72 = .ok (.iconst 2, 1) := dq_5 (by decide +kernel)
theorem dX8_board_73 : decode cX8_board 73 = .ok (.idiv, 1) := dq_108 (by decide +kernel)
theorem dX8_board_74 : decode cX8_board 74 = .ok (.iadd, 1) := dq_96 (by decide +kernel)
theorem dX8_board_75 : decode cX8_board 75 = .ok (.istore 6, 2) := dq_54 (by decide +kernel)
theorem dX8_board_77 : decode cX8_board 77 = .ok (.aload_n 0, 1) := dq_42 (by decide +kernel)
theorem dX8_board_78 : decode cX8_board 78 = .ok (.getfield 27, 3) := dq_180 (by decide +kernel)
theorem dX8_board_81 : decode cX8_board 81 = .ok (.iload_n 1, 1) := dq_27 (by decide +kernel)
theorem dX8_board_82 : decode cX8_board 82 = .ok (.aaload, 1) := dq_50 (by decide +kernel)
theorem dX8_board_83 : decode cX8_board 83 = .ok (.iload_n 2, 1) := dq_28 (by decide +kernel)
theorem dX8_board_84 : decode cX8_board 84 = .ok (.iload_n 3, 1) := dq_29 (by decide +kernel)
theorem dX8_board_85 : decode cX8_board 85 = .ok (.aload 4, 2) := dq_25 (by decide +kernel)
theorem dX8_board_87 : decode cX8_board 87 = .ok (.aload_n 0, 1) := dq_42 (by decide +kernel)
theorem dX8_board_88 : decode cX8_board 88 = .ok (.getfield 79, 3) := dq_180 (by decide +kernel)
theorem dX8_board_91 : decode cX8_board 91 = .ok (.aload_n 0, 1) := dq_42 (by decide +kernel)
theorem dX8_board_92 : decode cX8_board 92 = .ok (.getfield 37, 3) := dq_180 (by decide +kernel)
theorem dX8_board_95 : decode cX8_board 95 = .ok (.iconst (-1), 1) := dq_2 (by decide +kernel)
theorem dX8_board_96 : decode cX8_board 96 = .ok (.invokevirtual 128, 3) := dq_182 (by decide +kernel)
theorem dX8_board_99 : decode cX8_board 99 = .ok (.iload 5, 2) := dq_21 (by decide +kernel)
theorem dX8_board_101 : decode cX8_board 101 = .ok (.iload 6, 2) := dq_21 (by decide +kernel)
theorem dX8_board_103 : decode cX8_board 103 = .ok (.invokevirtual 365, 3) := dq_182 (by decide +kernel)
theorem dX8_board_106 : decode cX8_board 106 = .ok (.aload 4, 2) := dq_25 (by decide +kernel)
theorem dX8_board_108 : decode cX8_board 108 = .ok (.bipush 100, 2) := dq_16 (by decide +kernel)
theorem dX8_board_110 : decode cX8_board 110 = .ok (.iload_n 1, 1) := dq_27 (by decide +kernel)
theorem dX8_board_111 : decode cX8_board 111 = .ok (.iadd, 1) := dq_96 (by decide +kernel)
theorem dX8_board_112 : decode cX8_board 112 = .ok (.aload_n 0, 1) := dq_42 (by decide +kernel)
theorem dX8_board_113 : decode cX8_board 113 = .ok (.getfield 79, 3) := dq_180 (by decide +kernel)
theorem dX8_board_116 : decode cX8_board 116 = .ok (.invokevirtual 288, 3) := dq_182 (by decide +kernel)
theorem dX8_board_119 : decode cX8_board 119 = .ok (.return_, 1) := dq_177 (by decide +kernel)
theorem dX8_bringWatch_0 : decode cX8_bringWatch 0 = .ok (.iload_n 1, 1) := dq_27 (by decide +kernel)
theorem dX8_bringWatch_1 : decode cX8_bringWatch 1 = .ok (.invokestatic 92, 3) := dq_184 (by decide +kernel)
theorem dX8_bringWatch_4 : decode cX8_bringWatch 4 = .ok (.ifCond .ne 4, 3) := dq_154 (by decide +kernel)
theorem dX8_bringWatch_7 : decode cX8_bringWatch 7 = .ok (.return_, 1) := dq_177 (by decide +kernel)
theorem dX8_bringWatch_8 : decode cX8_bringWatch 8 = .ok (.aload_n 0, 1) := dq_42 (by decide +kernel)
theorem dX8_bringWatch_9 : decode cX8_bringWatch 9 = .ok (.getfield 21, 3) := dq_180 (by decide +kernel)
theorem dX8_bringWatch_12 : decode cX8_bringWatch 12 = .ok (.iload_n 1, 1) := dq_27 (by decide +kernel)
theorem dX8_bringWatch_13 : decode cX8_bringWatch 13 = .ok (.aaload, 1) := dq_50 (by decide +kernel)
theorem dX8_bringWatch_14 : decode cX8_bringWatch 14 = .ok (.ifnonnull 16, 3) := dq_199 (by decide +kernel)
theorem dX8_bringWatch_17 : decode cX8_bringWatch 17 = .ok (.aload_n 0, 1) := dq_42 (by decide +kernel)
theorem dX8_bringWatch_18 : decode cX8_bringWatch 18 = .ok (.getfield 21, 3) := dq_180 (by decide +kernel)
theorem dX8_bringWatch_21 : decode cX8_bringWatch 21 = .ok (.iload_n 1, 1) := dq_27 (by decide +kernel)
theorem dX8_bringWatch_22 : decode cX8_bringWatch 22 = .ok (.new 19, 3) := dq_187 (by decide +kernel)
theorem dX8_bringWatch_25 : decode cX8_bringWatch 25 = .ok (.dup, 1) := dq_89 (by decide +kernel)
theorem dX8_bringWatch_26 : decode cX8_bringWatch 26 = .ok (.invokespecial 301, 3) := dq_183 (by decide +kernel)
theorem dX8_bringWatch_29 : decode cX8_bringWatch 29 = .ok (.aastore, 1) := dq_83 (by decide +kernel)
theorem dX8_bringWatch_30 : decode cX8_bringWatch 30 = .ok (.aload_n 0, 1) := dq_42 (by decide +kernel)
theorem dX8_bringWatch_31 : decode cX8_bringWatch 31 = .ok (.getfield 21, 3) := dq_180 (by decide +kernel)
theorem dX8_bringWatch_34 : decode cX8_bringWatch 34 = .ok (.iload_n 1, 1) := dq_27 (by decide +kernel)
theorem dX8_bringWatch_35 : decode cX8_bringWatch 35 = .ok (.aaload, 1) := dq_50 (by decide +kernel)
theorem dX8_bringWatch_36 : decode cX8_bringWatch 36 = .ok (.invokevirtual 302, 3) := dq_182 (by decide +kernel)
theorem dX8_bringWatch_39 : decode cX8_bringWatch 39 = .ok (.return_, 1) := dq_177 (by decide +kernel)
theorem dX8_carried_0 : decode cX8_carried 0 = .ok (.iload_n 1, 1) := dq_27 (by decide +kernel)
theorem dX8_carried_1 : decode cX8_carried 1 = .ok (.invokestatic 202, 3) := dq_184 (by decide +kernel)
theorem dX8_carried_4 : decode cX8_carried 4 = .ok (.ifCond .eq 24, 3) := dq_153 (by decide +kernel)
theorem dX8_carried_7 : decode cX8_carried 7 = .ok (.iload_n 2, 1) := dq_28 (by decide +kernel)
theorem dX8_carried_8 : decode cX8_carried 8 = .ok (.ifCond .lt 20, 3) := dq_155 (by decide +kernel)
theorem dX8_carried_11 : decode cX8_carried 11 = .ok (.iload_n 2, 1) := dq_28 (by decide +kernel)
theorem dX8_carried_12 : decode cX8_carried 12 = .ok (.iconst 3, 1) := dq_6 (by decide +kernel)
theorem dX8_carried_13 : decode cX8_carried 13 = .ok (.if_icmp .ge 15, 3) := dq_162 (by decide +kernel)
theorem dX8_carried_16 : decode cX8_carried 16 = .ok (.aload_n 0, 1) := dq_42 (by decide +kernel)
theorem dX8_carried_17 : decode cX8_carried 17 = .ok (.getfield 27, 3) := dq_180 (by decide +kernel)
theorem dX8_carried_20 : decode cX8_carried 20 = .ok (.iload_n 1, 1) := dq_27 (by decide +kernel)
theorem dX8_carried_21 : decode cX8_carried 21 = .ok (.aaload, 1) := dq_50 (by decide +kernel)
theorem dX8_carried_22 : decode cX8_carried 22 = .ok (.getfield 208, 3) := dq_180 (by decide +kernel)
theorem dX8_carried_25 : decode cX8_carried 25 = .ok (.ifCond .ne 6, 3) := dq_154 (by decide +kernel)
theorem dX8_carried_28 : decode cX8_carried 28 = .ok (.ldc 110, 2) := dq_18 (by decide +kernel)
theorem dX8_carried_30 : decode cX8_carried 30 = .ok (.ireturn, 1) := dq_172 (by decide +kernel)
theorem dX8_carried_31 : decode cX8_carried 31 = .ok (.aload_n 0, 1) := dq_42 (by decide +kernel)
theorem dX8_carried_32 : decode cX8_carried 32 = .ok (.getfield 27, 3) := dq_180 (by decide +kernel)
theorem dX8_carried_35 : decode cX8_carried 35 = .ok (.iload_n 1, 1) := dq_27 (by decide +kernel)
theorem dX8_carried_36 : decode cX8_carried 36 = .ok (.aaload, 1) := dq_50 (by decide +kernel)
theorem dX8_carried_37 : decode cX8_carried 37 = .ok (.astore 4, 2) := dq_58 (by decide +kernel)
theorem dX8_carried_39 : decode cX8_carried 39 = .ok (.iload_n 3, 1) := dq_29 (by decide +kernel)
theorem dX8_carried_40 : decode cX8_carried 40 = .ok (.tableswitch 64 0 3 #[32, 40, 48, 56], 32) := by decide +kernel
theorem dX8_carried_72 : decode cX8_carried 72 = .ok (.aload 4, 2) := dq_25 (by decide +kernel)
theorem dX8_carried_74 : decode cX8_carried 74 = .ok (.getfield 220, 3) := dq_180 (by decide +kernel)
theorem dX8_carried_77 : decode cX8_carried 77 = .ok (.iload_n 2, 1) := dq_28 (by decide +kernel)
theorem dX8_carried_78 : decode cX8_carried 78 = .ok (.iaload, 1) := dq_46 (by decide +kernel)
theorem dX8_carried_79 : decode cX8_carried 79 = .ok (.ireturn, 1) := dq_172 (by decide +kernel)
theorem dX8_carried_80 : decode cX8_carried 80 = .ok (.aload 4, 2) := dq_25 (by decide +kernel)
theorem dX8_carried_82 : decode cX8_carried 82 = .ok (.getfield 223, 3) := dq_180 (by decide +kernel)
theorem dX8_carried_85 : decode cX8_carried 85 = .ok (.iload_n 2, 1) := dq_28 (by decide +kernel)
theorem dX8_carried_86 : decode cX8_carried 86 = .ok (.iaload, 1) := dq_46 (by decide +kernel)
theorem dX8_carried_87 : decode cX8_carried 87 = .ok (.ireturn, 1) := dq_172 (by decide +kernel)
theorem dX8_carried_88 : decode cX8_carried 88 = .ok (.aload 4, 2) := dq_25 (by decide +kernel)
theorem dX8_carried_90 : decode cX8_carried 90 = .ok (.getfield 226, 3) := dq_180 (by decide +kernel)
theorem dX8_carried_93 : decode cX8_carried 93 = .ok (.iload_n 2, 1) := dq_28 (by decide +kernel)
theorem dX8_carried_94 : decode cX8_carried 94 = .ok (.iaload, 1) := dq_46 (by decide +kernel)
theorem dX8_carried_95 : decode cX8_carried 95 = .ok (.ireturn, 1) := dq_172 (by decide +kernel)
theorem dX8_carried_96 : decode cX8_carried 96 = .ok (.aload 4, 2) := dq_25 (by decide +kernel)
theorem dX8_carried_98 : decode cX8_carried 98 = .ok (.getfield 229, 3) := dq_180 (by decide +kernel)
theorem dX8_carried_101 : decode cX8_carried 101 = .ok (.iload_n 2, 1) := dq_28 (by decide +kernel)
theorem dX8_carried_102 : decode cX8_carried 102 = .ok (.iaload, 1) := dq_46 (by decide +kernel)
theorem dX8_carried_103 : decode cX8_carried 103 = .ok (.ireturn, 1) := dq_172 (by decide +kernel)
theorem dX8_carried_104 : decode cX8_carried 104 = .ok (.ldc 110, 2) := dq_18 (by decide +kernel)
theorem dX8_carried_106 : decode cX8_carried 106 = .ok (.ireturn, 1) := dq_172 (by decide +kernel)
theorem dX8_changed_0 : decode cX8_changed 0 = .ok (.iload_n 1, 1) := dq_27 (by decide +kernel)
theorem dX8_changed_1 : decode cX8_changed 1 = .ok (.invokestatic 92, 3) := dq_184 (by decide +kernel)
theorem dX8_changed_4 : decode cX8_changed 4 = .ok (.ifCond .eq 19, 3) := dq_153 (by decide +kernel)
theorem dX8_changed_7 : decode cX8_changed 7 = .ok (.iload_n 2, 1) := dq_28 (by decide +kernel)
theorem dX8_changed_8 : decode cX8_changed 8 = .ok (.iload_n 3, 1) := dq_29 (by decide +kernel)
theorem dX8_changed_9 : decode cX8_changed 9 = .ok (.invokestatic 149, 3) := dq_184 (by decide +kernel)
theorem dX8_changed_12 : decode cX8_changed 12 = .ok (.ifCond .eq 11, 3) := dq_153 (by decide +kernel)
theorem dX8_changed_15 : decode cX8_changed 15 = .ok (.iload 4, 2) := dq_21 (by decide +kernel)
theorem dX8_changed_17 : decode cX8_changed 17 = .ok (.invokestatic 125, 3) := dq_184 (by decide +kernel)
theorem dX8_changed_20 : decode cX8_changed 20 = .ok (.ifCond .ne 5, 3) := dq_154 (by decide +kernel)
theorem dX8_changed_23 : decode cX8_changed 23 = .ok (.iconst (-1), 1) := dq_2 (by decide +kernel)
theorem dX8_changed_24 : decode cX8_changed 24 = .ok (.ireturn, 1) := dq_172 (by decide +kernel)
theorem dX8_changed_25 : decode cX8_changed 25 = .ok (.aload_n 0, 1) := dq_42 (by decide +kernel)
theorem dX8_changed_26 : decode cX8_changed 26 = .ok (.iload_n 1, 1) := dq_27 (by decide +kernel)
theorem dX8_changed_27 : decode cX8_changed 27 = .ok (.invokevirtual 102, 3) := dq_182 (by decide +kernel)
theorem dX8_changed_30 : decode cX8_changed 30 = .ok (.astore 5, 2) := dq_58 (by decide +kernel)
theorem dX8_changed_32 : decode cX8_changed 32 = .ok (.aload 5, 2) := dq_25 (by decide +kernel)
theorem dX8_changed_34 : decode cX8_changed 34 = .ok (.ifnonnull 9, 3) := dq_199 (by decide +kernel)
theorem dX8_changed_37 : decode cX8_changed 37 = .ok (.aload_n 0, 1) := dq_42 (by decide +kernel)
theorem dX8_changed_38 : decode cX8_changed 38 = .ok (.iload_n 1, 1) := dq_27 (by decide +kernel)
theorem dX8_changed_39 : decode cX8_changed 39 = .ok (.invokevirtual 115, 3) := dq_182 (by decide +kernel)
theorem dX8_changed_42 : decode cX8_changed 42 = .ok (.ireturn, 1) := dq_172 (by decide +kernel)
theorem dX8_changed_43 : decode cX8_changed 43 = .ok (.iconst 0, 1) := dq_3 (by decide +kernel)
theorem dX8_changed_44 : decode cX8_changed 44 = .ok (.istore 6, 2) := dq_54 (by decide +kernel)
theorem dX8_changed_46 : decode cX8_changed 46 = .ok (.iload_n 2, 1) := dq_28 (by decide +kernel)
theorem dX8_changed_47 : decode cX8_changed 47 = .ok (.istore 7, 2) := dq_54 (by decide +kernel)
theorem dX8_changed_49 : decode cX8_changed 49 = .ok (.iload 7, 2) := dq_21 (by decide +kernel)
theorem dX8_changed_51 : decode cX8_changed 51 = .ok (.iload_n 3, 1) := dq_29 (by decide +kernel)
theorem dX8_changed_52 : decode cX8_changed 52 = .ok (.if_icmp .ge 40, 3) := dq_162 (by decide +kernel)
theorem dX8_changed_55 : decode cX8_changed 55 = .ok (.aload 5, 2) := dq_25 (by decide +kernel)
theorem dX8_changed_57 : decode cX8_changed 57 = .ok (.iload 7, 2) := dq_21 (by decide +kernel)
theorem dX8_changed_59 : decode cX8_changed 59 = .ok (.aload_n 0, 1) := dq_42 (by decide +kernel)
theorem dX8_changed_60 : decode cX8_changed 60 = .ok (.getfield 37, 3) := dq_180 (by decide +kernel)
theorem dX8_changed_63 : decode cX8_changed 63 = .ok (.iload 4, 2) := dq_21 (by decide +kernel)
theorem dX8_changed_65 : decode cX8_changed 65 = .ok (.invokevirtual 132, 3) := dq_182 (by decide +kernel)
theorem dX8_changed_68 : decode cX8_changed 68 = .ok (.aload 5, 2) := dq_25 (by decide +kernel)
theorem dX8_changed_70 : decode cX8_changed 70 = .ok (.iload 7, 2) := dq_21 (by decide +kernel)
theorem dX8_changed_72 : decode cX8_changed 72 = .ok (.aload_n 0, 1) := dq_42 (by decide +kernel)
theorem dX8_changed_73 : decode cX8_changed 73 = .ok (.getfield 37, 3) := dq_180 (by decide +kernel)
theorem dX8_changed_76 : decode cX8_changed 76 = .ok (.iconst (-1), 1) := dq_2 (by decide +kernel)
theorem dX8_changed_77 : decode cX8_changed 77 = .ok (.invokevirtual 132, 3) := dq_182 (by decide +kernel)
theorem dX8_changed_80 : decode cX8_changed 80 = .ok (.if_icmp .eq 6, 3) := dq_159 (by decide +kernel)
theorem dX8_changed_83 : decode cX8_changed 83 = .ok (.iinc 6 1, 3) := dq_132 (by decide +kernel)
theorem dX8_changed_86 : decode cX8_changed 86 = .ok (.iinc 7 1, 3) := dq_132 (by decide +kernel)
theorem dX8_changed_89 : decode cX8_changed 89 = .ok (.goto (-40), 3) := dq_167 (by decide +kernel)
theorem dX8_changed_92 : decode cX8_changed 92 = .ok (.iload 6, 2) := dq_21 (by decide +kernel)
theorem dX8_changed_94 : decode cX8_changed 94 = .ok (.ireturn, 1) := dq_172 (by decide +kernel)
theorem dX8_compare_0 : decode cX8_compare 0 = .ok (.iload_n 1, 1) := dq_27 (by decide +kernel)
theorem dX8_compare_1 : decode cX8_compare 1 = .ok (.invokestatic 92, 3) := dq_184 (by decide +kernel)
theorem dX8_compare_4 : decode cX8_compare 4 = .ok (.ifCond .eq 32, 3) := dq_153 (by decide +kernel)
theorem dX8_compare_7 : decode cX8_compare 7 = .ok (.aload_n 0, 1) := dq_42 (by decide +kernel)
theorem dX8_compare_8 : decode cX8_compare 8 = .ok (.iload_n 2, 1) := dq_28 (by decide +kernel)
theorem dX8_compare_9 : decode cX8_compare 9 = .ok (.invokevirtual 111, 3) := dq_182 (by decide +kernel)
theorem dX8_compare_12 : decode cX8_compare 12 = .ok (.ifCond .eq 24, 3) := dq_153 (by decide +kernel)
theorem dX8_compare_15 : decode cX8_compare 15 = .ok (.iload_n 3, 1) := dq_29 (by decide +kernel)
theorem dX8_compare_16 : decode cX8_compare 16 = .ok (.ldc 114, 2) := dq_18 (by decide +kernel)
theorem dX8_compare_18 : decode cX8_compare 18 = .ok (.invokestatic 88, 3) := dq_184 (by decide +kernel)
theorem dX8_compare_21 : decode cX8_compare 21 = .ok (.ifCond .eq 15, 3) := dq_153 (by decide +kernel)
theorem dX8_compare_24 : decode cX8_compare 24 = .ok (.iload 4, 2) := dq_21 (by decide +kernel)
theorem dX8_compare_26 : decode cX8_compare 26 = .ok (.ifCond .lt 10, 3) := dq_155 (by decide +kernel)
theorem dX8_compare_29 : decode cX8_compare 29 = .ok (.iload 4, 2) := dq_21 (by decide +kernel)
theorem dX8_compare_31 : decode cX8_compare 31 = .ok (.bipush 6, 2) := dq_16 (by decide +kernel)
theorem dX8_compare_33 : decode cX8_compare 33 = .ok (.if_icmp .lt 5, 3) := dq_161 (by decide +kernel)
theorem dX8_compare_36 : decode cX8_compare 36 = .ok (.iconst (-1), 1) := dq_2 (by decide +kernel)
theorem dX8_compare_37 : decode cX8_compare 37 = .ok (.ireturn, 1) := dq_172 (by decide +kernel)
theorem dX8_compare_38 : decode cX8_compare 38 = .ok (.aload_n 0, 1) := dq_42 (by decide +kernel)
theorem dX8_compare_39 : decode cX8_compare 39 = .ok (.iload_n 1, 1) := dq_27 (by decide +kernel)
theorem dX8_compare_40 : decode cX8_compare 40 = .ok (.invokevirtual 102, 3) := dq_182 (by decide +kernel)
theorem dX8_compare_43 : decode cX8_compare 43 = .ok (.astore 5, 2) := dq_58 (by decide +kernel)
theorem dX8_compare_45 : decode cX8_compare 45 = .ok (.aload 5, 2) := dq_25 (by decide +kernel)
theorem dX8_compare_47 : decode cX8_compare 47 = .ok (.ifnonnull 9, 3) := dq_199 (by decide +kernel)
theorem dX8_compare_50 : decode cX8_compare 50 = .ok (.aload_n 0, 1) := dq_42 (by decide +kernel)
theorem dX8_compare_51 : decode cX8_compare 51 = .ok (.iload_n 1, 1) := dq_27 (by decide +kernel)
theorem dX8_compare_52 : decode cX8_compare 52 = .ok (.invokevirtual 115, 3) := dq_182 (by decide +kernel)
theorem dX8_compare_55 : decode cX8_compare 55 = .ok (.ireturn, 1) := dq_172 (by decide +kernel)
theorem dX8_compare_56 : decode cX8_compare 56 = .ok (.aload 5, 2) := dq_25 (by decide +kernel)
theorem dX8_compare_58 : decode cX8_compare 58 = .ok (.iload_n 2, 1) := dq_28 (by decide +kernel)
theorem dX8_compare_59 : decode cX8_compare 59 = .ok (.invokevirtual 118, 3) := dq_182 (by decide +kernel)
theorem dX8_compare_62 : decode cX8_compare 62 = .ok (.ifCond .ne 13, 3) := dq_154 (by decide +kernel)
theorem dX8_compare_65 : decode cX8_compare 65 = .ok (.aload 5, 2) := dq_25 (by decide +kernel)
theorem dX8_compare_67 : decode cX8_compare 67 = .ok (.iload_n 2, 1) := dq_28 (by decide +kernel)
theorem dX8_compare_68 : decode cX8_compare 68 = .ok (.invokevirtual 106, 3) := dq_182 (by decide +kernel)
theorem dX8_compare_71 : decode cX8_compare 71 = .ok (.iconst (-1), 1) := dq_2 (by decide +kernel)
theorem dX8_compare_72 : decode cX8_compare 72 = .ok (.if_icmp .eq 6, 3) := dq_159 (by decide +kernel)
theorem dX8_compare_75 : decode cX8_compare 75 = .ok (.bipush (-4), 2) := dq_16 (by decide +kernel)
theorem dX8_compare_77 : decode cX8_compare 77 = .ok (.ireturn, 1) := dq_172 (by decide +kernel)
theorem dX8_compare_78 : decode cX8_compare 78 = .ok (.aload 5, 2) := dq_25 (by decide +kernel)
theorem dX8_compare_80 : decode cX8_compare 80 = .ok (.iload_n 2, 1) := dq_28 (by decide +kernel)
theorem dX8_compare_81 : decode cX8_compare 81 = .ok (.iload_n 3, 1) := dq_29 (by decide +kernel)
theorem dX8_compare_82 : decode cX8_compare 82 = .ok (.iload 4, 2) := dq_21 (by decide +kernel)
theorem dX8_compare_84 : decode cX8_compare 84 = .ok (.invokevirtual 121, 3) := dq_182 (by decide +kernel)
theorem dX8_compare_87 : decode cX8_compare 87 = .ok (.iconst 1, 1) := dq_4 (by decide +kernel)
theorem dX8_compare_88 : decode cX8_compare 88 = .ok (.ireturn, 1) := dq_172 (by decide +kernel)
theorem dX8_count_0 : decode cX8_count 0 = .ok (.iload_n 1, 1) := dq_27 (by decide +kernel)
theorem dX8_count_1 : decode cX8_count 1 = .ok (.tableswitch 95 0 6 #[43, 55, 60, 68, 73, 81, 87], 43) := by decide +kernel
theorem dX8_count_44 : decode cX8_count 44 = .ok (.aload_n 0, 1) := dq_42 (by decide +kernel)
theorem dX8_count_45 : decode cX8_count 45 = .ok (.iconst 0, 1) := dq_3 (by decide +kernel)
theorem dX8_count_46 : decode cX8_count 46 = .ok (.invokevirtual 295, 3) := dq_182 (by decide +kernel)
theorem dX8_count_49 : decode cX8_count 49 = .ok (.aload_n 0, 1) := dq_42 (by decide +kernel)
theorem dX8_count_50 : decode cX8_count 50 = .ok (.iconst 1, 1) := dq_4 (by decide +kernel)
theorem dX8_count_51 : decode cX8_count 51 = .ok (.invokevirtual 295, 3) := dq_182 (by decide +kernel)
theorem dX8_count_54 : decode cX8_count 54 = .ok (.iadd, 1) := dq_96 (by decide +kernel)
theorem dX8_count_55 : decode cX8_count 55 = .ok (.ireturn, 1) := dq_172 (by decide +kernel)
theorem dX8_count_56 : decode cX8_count 56 = .ok (.aload_n 0, 1) := dq_42 (by decide +kernel)
theorem dX8_count_57 : decode cX8_count 57 = .ok (.getfield 79, 3) := dq_180 (by decide +kernel)
theorem dX8_count_60 : decode cX8_count 60 = .ok (.ireturn, 1) := dq_172 (by decide +kernel)
theorem dX8_count_61 : decode cX8_count 61 = .ok (.aload_n 0, 1) := dq_42 (by decide +kernel)
theorem dX8_count_62 : decode cX8_count 62 = .ok (.getfield 37, 3) := dq_180 (by decide +kernel)
theorem dX8_count_65 : decode cX8_count 65 = .ok (.getfield 142, 3) := dq_180 (by decide +kernel)
theorem dX8_count_68 : decode cX8_count 68 = .ok (.ireturn, 1) := dq_172 (by decide +kernel)
theorem dX8_count_69 : decode cX8_count 69 = .ok (.aload_n 0, 1) := dq_42 (by decide +kernel)
theorem dX8_count_70 : decode cX8_count 70 = .ok (.invokevirtual 298, 3) := dq_182 (by decide +kernel)
theorem dX8_count_73 : decode cX8_count 73 = .ok (.ireturn, 1) := dq_172 (by decide +kernel)
theorem dX8_count_74 : decode cX8_count 74 = .ok (.aload_n 0, 1) := dq_42 (by decide +kernel)
theorem dX8_count_75 : decode cX8_count 75 = .ok (.getfield 58, 3) := dq_180 (by decide +kernel)
theorem dX8_count_78 : decode cX8_count 78 = .ok (.getfield 179, 3) := dq_180 (by decide +kernel)
theorem dX8_count_81 : decode cX8_count 81 = .ok (.ireturn, 1) := dq_172 (by decide +kernel)
theorem dX8_count_82 : decode cX8_count 82 = .ok (.aload_n 0, 1) := dq_42 (by decide +kernel)
theorem dX8_count_83 : decode cX8_count 83 = .ok (.iconst 2, 1) := dq_5 (by decide +kernel)
theorem dX8_count_84 : decode cX8_count 84 = .ok (.invokevirtual 295, 3) := dq_182 (by decide +kernel)
theorem dX8_count_87 : decode cX8_count 87 = .ok (.ireturn, 1) := dq_172 (by decide +kernel)
theorem dX8_count_88 : decode cX8_count 88 = .ok (.aload_n 0, 1) := dq_42 (by decide +kernel)
theorem dX8_count_89 : decode cX8_count 89 = .ok (.getfield 65, 3) := dq_180 (by decide +kernel)
theorem dX8_count_92 : decode cX8_count 92 = .ok (.getfield 275, 3) := dq_180 (by decide +kernel)
theorem dX8_count_95 : decode cX8_count 95 = .ok (.ireturn, 1) := dq_172 (by decide +kernel)
theorem dX8_count_96 : decode cX8_count 96 = .ok (.iconst (-1), 1) := dq_2 (by decide +kernel)
theorem dX8_count_97 : decode cX8_count 97 = .ok (.ireturn, 1) := dq_172 (by decide +kernel)
theorem dX8_days_0 : decode cX8_days 0 = .ok (.iload_n 1, 1) := dq_27 (by decide +kernel)
theorem dX8_days_1 : decode cX8_days 1 = .ok (.iconst 1, 1) := dq_4 (by decide +kernel)
theorem dX8_days_2 : decode cX8_days 2 = .ok (.if_icmp .lt 21, 3) := dq_161 (by decide +kernel)
theorem dX8_days_5 : decode cX8_days 5 = .ok (.iload_n 1, 1) := dq_27 (by decide +kernel)
theorem dX8_days_6 : decode cX8_days 6 = .ok (.bipush 100, 2) := dq_16 (by decide +kernel)
theorem dX8_days_8 : decode cX8_days 8 = .ok (.if_icmp .gt 15, 3) := dq_163 (by decide +kernel)
theorem dX8_days_11 : decode cX8_days 11 = .ok (.aload_n 0, 1) := dq_42 (by decide +kernel)
theorem dX8_days_12 : decode cX8_days 12 = .ok (.getfield 79, 3) := dq_180 (by decide +kernel)
theorem dX8_days_15 : decode cX8_days 15 = .ok (.iload_n 1, 1) := dq_27 (by decide +kernel)
theorem dX8_days_16 : decode cX8_days 16 = .ok (.iadd, 1) := dq_96 (by decide +kernel)
theorem dX8_days_17 : decode cX8_days 17 = .ok (.sipush 400, 3) := dq_17 (by decide +kernel)
theorem dX8_days_20 : decode cX8_days 20 = .ok (.if_icmp .lt 5, 3) := dq_161 (by decide +kernel)
theorem dX8_days_23 : decode cX8_days 23 = .ok (.iconst (-1), 1) := dq_2 (by decide +kernel)
theorem dX8_days_24 : decode cX8_days 24 = .ok (.ireturn, 1) := dq_172 (by decide +kernel)
theorem dX8_days_25 : decode cX8_days 25 = .ok (.aload_n 0, 1) := dq_42 (by decide +kernel)
theorem dX8_days_26 : decode cX8_days 26 = .ok (.dup, 1) := dq_89 (by decide +kernel)
theorem dX8_days_27 : decode cX8_days 27 = .ok (.getfield 79, 3) := dq_180 (by decide +kernel)
theorem dX8_days_30 : decode cX8_days 30 = .ok (.iload_n 1, 1) := dq_27 (by decide +kernel)
theorem dX8_days_31 : decode cX8_days 31 = .ok (.iadd, 1) := dq_96 (by decide +kernel)
theorem dX8_days_32 : decode cX8_days 32 = .ok (.putfield 79, 3) := dq_181 (by decide +kernel)
theorem dX8_days_35 : decode cX8_days 35 = .ok (.aload_n 0, 1) := dq_42 (by decide +kernel)
theorem dX8_days_36 : decode cX8_days 36 = .ok (.getfield 79, 3) := dq_180 (by decide +kernel)
theorem dX8_days_39 : decode cX8_days 39 = .ok (.ireturn, 1) := dq_172 (by decide +kernel)
theorem dX8_deal_0 : decode cX8_deal 0 = .ok (.iload_n 1, 1) := dq_27 (by decide +kernel)
theorem dX8_deal_1 : decode cX8_deal 1 = .ok (.iconst 1, 1) := dq_4 (by decide +kernel)
theorem dX8_deal_2 : decode cX8_deal 2 = .ok (.if_icmp .lt 40, 3) := dq_161 (by decide +kernel)
theorem dX8_deal_5 : decode cX8_deal 5 = .ok (.iload_n 1, 1) := dq_27 (by decide +kernel)
theorem dX8_deal_6 : decode cX8_deal 6 = .ok (.sipush 400, 3) := dq_17 (by decide +kernel)
theorem dX8_deal_9 : decode cX8_deal 9 = .ok (.if_icmp .gt 33, 3) := dq_163 (by decide +kernel)
theorem dX8_deal_12 : decode cX8_deal 12 = .ok (.iload_n 2, 1) := dq_28 (by decide +kernel)
theorem dX8_deal_13 : decode cX8_deal 13 = .ok (.ifCond .lt 29, 3) := dq_155 (by decide +kernel)
theorem dX8_deal_16 : decode cX8_deal 16 = .ok (.iload_n 2, 1) := dq_28 (by decide +kernel)
theorem dX8_deal_17 : decode cX8_deal 17 = .ok (.sipush 400, 3) := dq_17 (by decide +kernel)
theorem dX8_deal_20 : decode cX8_deal 20 = .ok (.if_icmp .gt 22, 3) := dq_163 (by decide +kernel)
theorem dX8_deal_23 : decode cX8_deal 23 = .ok (.iload_n 3, 1) := dq_29 (by decide +kernel)
theorem dX8_deal_24 : decode cX8_deal 24 = .ok (.ifCond .lt 18, 3) := dq_155 (by decide +kernel)
theorem dX8_deal_27 : decode cX8_deal 27 = .ok (.iload_n 3, 1) := dq_29 (by decide +kernel)
theorem dX8_deal_28 : decode cX8_deal 28 = .ok (.sipush 400, 3) := dq_17 (by decide +kernel)
theorem dX8_deal_31 : decode cX8_deal 31 = .ok (.if_icmp .gt 11, 3) := dq_163 (by decide +kernel)
theorem dX8_deal_34 : decode cX8_deal 34 = .ok (.iload_n 2, 1) := dq_28 (by decide +kernel)
theorem dX8_deal_35 : decode cX8_deal 35 = .ok (.ifCond .ne 9, 3) := dq_154 (by decide +kernel)
theorem dX8_deal_38 : decode cX8_deal 38 = .ok (.iload_n 3, 1) := dq_29 (by decide +kernel)
theorem dX8_deal_39 : decode cX8_deal 39 = .ok (.ifCond .eq 5, 3) := dq_153 (by decide +kernel)
theorem dX8_deal_42 : decode cX8_deal 42 = .ok (.iconst (-1), 1) := dq_2 (by decide +kernel)
theorem dX8_deal_43 : decode cX8_deal 43 = .ok (.ireturn, 1) := dq_172 (by decide +kernel)
theorem dX8_deal_44 : decode cX8_deal 44 = .ok (.iload_n 2, 1) := dq_28 (by decide +kernel)
theorem dX8_deal_45 : decode cX8_deal 45 = .ok (.ifCond .ne 7, 3) := dq_154 (by decide +kernel)
theorem dX8_deal_48 : decode cX8_deal 48 = .ok (.iconst 1, 1) := dq_4 (by decide +kernel)
theorem dX8_deal_49 : decode cX8_deal 49 = .ok (.goto 12, 3) := dq_167 (by decide +kernel)
theorem dX8_deal_52 : decode cX8_deal 52 = .ok (.iload_n 3, 1) := dq_29 (by decide +kernel)
theorem dX8_deal_53 : decode cX8_deal 53 = .ok (.ifCond .ne 7, 3) := dq_154 (by decide +kernel)
theorem dX8_deal_56 : decode cX8_deal 56 = .ok (.iconst 2, 1) := dq_5 (by decide +kernel)
theorem dX8_deal_57 : decode cX8_deal 57 = .ok (.goto 4, 3) := dq_167 (by decide +kernel)
theorem dX8_deal_60 : decode cX8_deal 60 = .ok (.iconst 3, 1) := dq_6 (by decide +kernel)
theorem dX8_deal_61 : decode cX8_deal 61 = .ok (.istore 4, 2) := dq_54 (by decide +kernel)
theorem dX8_deal_63 : decode cX8_deal 63 = .ok (.aload_n 0, 1) := dq_42 (by decide +kernel)
theorem dX8_deal_64 : decode cX8_deal 64 = .ok (.getfield 65, 3) := dq_180 (by decide +kernel)
theorem dX8_deal_67 : decode cX8_deal 67 = .ok (.getfield 275, 3) := dq_180 (by decide +kernel)
theorem dX8_deal_70 : decode cX8_deal 70 = .ok (.iconst 3, 1) := dq_6 (by decide +kernel)
theorem dX8_deal_71 : decode cX8_deal 71 = .ok (.iload 4, 2) := dq_21 (by decide +kernel)
theorem dX8_deal_73 : decode cX8_deal 73 = .ok (.imul, 1) := dq_104 (by decide +kernel)
theorem dX8_deal_74 : decode cX8_deal 74 = .ok (.if_icmp .ge 6, 3) := dq_162 (by decide +kernel)
theorem dX8_deal_77 : decode cX8_deal 77 = .ok (.bipush (-4), 2) := dq_16 (by decide +kernel)
theorem dX8_deal_79 : decode cX8_deal 79 = .ok (.ireturn, 1) := dq_172 (by decide +kernel)
theorem dX8_deal_80 : decode cX8_deal 80 = .ok (.aload_n 0, 1) := dq_42 (by decide +kernel)
theorem dX8_deal_81 : decode cX8_deal 81 = .ok (.getfield 65, 3) := dq_180 (by decide +kernel)
theorem dX8_deal_84 : decode cX8_deal 84 = .ok (.iload 4, 2) := dq_21 (by decide +kernel)
theorem dX8_deal_86 : decode cX8_deal 86 = .ok (.iload_n 1, 1) := dq_27 (by decide +kernel)
theorem dX8_deal_87 : decode cX8_deal 87 = .ok (.iload_n 2, 1) := dq_28 (by decide +kernel)
theorem dX8_deal_88 : decode cX8_deal 88 = .ok (.iload_n 3, 1) := dq_29 (by decide +kernel)
theorem dX8_deal_89 : decode cX8_deal 89 = .ok (.invokevirtual 279, 3) := dq_182 (by decide +kernel)
theorem dX8_deal_92 : decode cX8_deal 92 = .ok (.ireturn, 1) := dq_172 (by decide +kernel)
theorem dX8_dealt_0 : decode cX8_dealt 0 = .ok (.iload_n 1, 1) := dq_27 (by decide +kernel)
theorem dX8_dealt_1 : decode cX8_dealt 1 = .ok (.ifCond .lt 14, 3) := dq_155 (by decide +kernel)
theorem dX8_dealt_4 : decode cX8_dealt 4 = .ok (.iload_n 1, 1) := dq_27 (by decide +kernel)
theorem dX8_dealt_5 : decode cX8_dealt 5 = .ok (.aload_n 0, 1) := dq_42 (by decide +kernel)
theorem dX8_dealt_6 : decode cX8_dealt 6 = .ok (.getfield 65, 3) := dq_180 (by decide +kernel)
theorem dX8_dealt_9 : decode cX8_dealt 9 = .ok (.getfield 282, 3) := dq_180 (by decide +kernel)
theorem dX8_dealt_12 : decode cX8_dealt 12 = .ok (.if_icmp .lt 8, 3) := dq_161 (by decide +kernel)
theorem dX8_dealt_15 : decode cX8_dealt 15 = .ok (.ldc 110, 2) := dq_18 (by decide +kernel)
theorem dX8_dealt_17 : decode cX8_dealt 17 = .ok (.goto 12, 3) := dq_167 (by decide +kernel)
theorem dX8_dealt_20 : decode cX8_dealt 20 = .ok (.aload_n 0, 1) := dq_42 (by decide +kernel)
theorem dX8_dealt_21 : decode cX8_dealt 21 = .ok (.getfield 65, 3) := dq_180 (by decide +kernel)
theorem dX8_dealt_24 : decode cX8_dealt 24 = .ok (.getfield 285, 3) := dq_180 (by decide +kernel)
theorem dX8_dealt_27 : decode cX8_dealt 27 = .ok (.iload_n 1, 1) := dq_27 (by decide +kernel)
theorem dX8_dealt_28 : decode cX8_dealt 28 = .ok (.iaload, 1) := dq_46 (by decide +kernel)
theorem dX8_dealt_29 : decode cX8_dealt 29 = .ok (.ireturn, 1) := dq_172 (by decide +kernel)
theorem dX8_doubt_0 : decode cX8_doubt 0 = .ok (.iload_n 1, 1) := dq_27 (by decide +kernel)
theorem dX8_doubt_1 : decode cX8_doubt 1 = .ok (.iconst 1, 1) := dq_4 (by decide +kernel)
theorem dX8_doubt_2 : decode cX8_doubt 2 = .ok (.if_icmp .lt 10, 3) := dq_161 (by decide +kernel)
theorem dX8_doubt_5 : decode cX8_doubt 5 = .ok (.iload_n 1, 1) := dq_27 (by decide +kernel)
theorem dX8_doubt_6 : decode cX8_doubt 6 = .ok (.sipush 9999, 3) := dq_17 (by decide +kernel)
theorem dX8_doubt_9 : decode cX8_doubt 9 = .ok (.if_icmp .le 5, 3) := dq_164 (by decide +kernel)
theorem dX8_doubt_12 : decode cX8_doubt 12 = .ok (.iconst (-1), 1) := dq_2 (by decide +kernel)
theorem dX8_doubt_13 : decode cX8_doubt 13 = .ok (.ireturn, 1) := dq_172 (by decide +kernel)
theorem dX8_doubt_14 : decode cX8_doubt 14 = .ok (.aload_n 0, 1) := dq_42 (by decide +kernel)
theorem dX8_doubt_15 : decode cX8_doubt 15 = .ok (.getfield 65, 3) := dq_180 (by decide +kernel)
theorem dX8_doubt_18 : decode cX8_doubt 18 = .ok (.getfield 275, 3) := dq_180 (by decide +kernel)
theorem dX8_doubt_21 : decode cX8_doubt 21 = .ok (.bipush 9, 2) := dq_16 (by decide +kernel)
theorem dX8_doubt_23 : decode cX8_doubt 23 = .ok (.if_icmp .lt 6, 3) := dq_161 (by decide +kernel)
theorem dX8_doubt_26 : decode cX8_doubt 26 = .ok (.bipush (-5), 2) := dq_16 (by decide +kernel)
theorem dX8_doubt_28 : decode cX8_doubt 28 = .ok (.ireturn, 1) := dq_172 (by decide +kernel)
theorem dX8_doubt_29 : decode cX8_doubt 29 = .ok (.aload_n 0, 1) := dq_42 (by decide +kernel)
theorem dX8_doubt_30 : decode cX8_doubt 30 = .ok (.getfield 65, 3) := dq_180 (by decide +kernel)
theorem dX8_doubt_33 : decode cX8_doubt 33 = .ok (.iload_n 1, 1) := dq_27 (by decide +kernel)
theorem dX8_doubt_34 : decode cX8_doubt 34 = .ok (.invokevirtual 278, 3) := dq_182 (by decide +kernel)
theorem dX8_doubt_37 : decode cX8_doubt 37 = .ok (.aload_n 0, 1) := dq_42 (by decide +kernel)
theorem dX8_doubt_38 : decode cX8_doubt 38 = .ok (.getfield 65, 3) := dq_180 (by decide +kernel)
theorem dX8_doubt_41 : decode cX8_doubt 41 = .ok (.getfield 275, 3) := dq_180 (by decide +kernel)
theorem dX8_doubt_44 : decode cX8_doubt 44 = .ok (.ireturn, 1) := dq_172 (by decide +kernel)
theorem dX8_droppedOf_0 : decode cX8_droppedOf 0 = .ok (.iconst (-1), 1) := dq_2 (by decide +kernel)
theorem dX8_droppedOf_1 : decode cX8_droppedOf 1 = .ok (.istore_n 3, 1) := dq_62 (by decide +kernel)
theorem dX8_droppedOf_2 : decode cX8_droppedOf 2 = .ok (.aload_n 0, 1) := dq_42 (by decide +kernel)
theorem dX8_droppedOf_3 : decode cX8_droppedOf 3 = .ok (.getfield 76, 3) := dq_180 (by decide +kernel)
theorem dX8_droppedOf_6 : decode cX8_droppedOf 6 = .ok (.getfield 327, 3) := dq_180 (by decide +kernel)
theorem dX8_droppedOf_9 : decode cX8_droppedOf 9 = .ok (.ifCond .ne 5, 3) := dq_154 (by decide +kernel)
theorem dX8_droppedOf_12 : decode cX8_droppedOf 12 = .ok (.iload_n 3, 1) := dq_29 (by decide +kernel)
theorem dX8_droppedOf_13 : decode cX8_droppedOf 13 = .ok (.ireturn, 1) := dq_172 (by decide +kernel)
theorem dX8_droppedOf_14 : decode cX8_droppedOf 14 = .ok (.iconst 0, 1) := dq_3 (by decide +kernel)
theorem dX8_droppedOf_15 : decode cX8_droppedOf 15 = .ok (.istore 4, 2) := dq_54 (by decide +kernel)
theorem dX8_droppedOf_17 : decode cX8_droppedOf 17 = .ok (.iconst 0, 1) := dq_3 (by decide +kernel)
theorem dX8_droppedOf_18 : decode cX8_droppedOf 18 = .ok (.istore 5, 2) := dq_54 (by decide +kernel)
theorem dX8_droppedOf_20 : decode cX8_droppedOf 20 = .ok (.iload 5, 2) := dq_21 (by decide +kernel)
theorem dX8_droppedOf_22 : decode cX8_droppedOf 22 = .ok (.iconst 3, 1) := dq_6 (by decide +kernel)
theorem dX8_droppedOf_23 : decode cX8_droppedOf 23 = .ok (.if_icmp .ge 81, 3) := dq_162 (by decide +kernel)
theorem dX8_droppedOf_26 : decode cX8_droppedOf 26 = .ok (.aload_n 0, 1) := dq_42 (by decide +kernel)
theorem dX8_droppedOf_27 : decode cX8_droppedOf 27 = .ok (.getfield 31, 3) := dq_180 (by decide +kernel)
theorem dX8_droppedOf_30 : decode cX8_droppedOf 30 = .ok (.iconst 0, 1) := dq_3 (by decide +kernel)
theorem dX8_droppedOf_31 : decode cX8_droppedOf 31 = .ok (.aload_n 1, 1) := dq_43 (by decide +kernel)
theorem dX8_droppedOf_32 : decode cX8_droppedOf 32 = .ok (.iload_n 2, 1) := dq_28 (by decide +kernel)
theorem dX8_droppedOf_33 : decode cX8_droppedOf 33 = .ok (.iload 5, 2) := dq_21 (by decide +kernel)
theorem dX8_droppedOf_35 : decode cX8_droppedOf 35 = .ok (.invokevirtual 371, 3) := dq_182 (by decide +kernel)
theorem dX8_droppedOf_38 : decode cX8_droppedOf 38 = .ok (.iastore, 1) := dq_79 (by decide +kernel)
theorem dX8_droppedOf_39 : decode cX8_droppedOf 39 = .ok (.aload_n 0, 1) := dq_42 (by decide +kernel)
theorem dX8_droppedOf_40 : decode cX8_droppedOf 40 = .ok (.getfield 31, 3) := dq_180 (by decide +kernel)
theorem dX8_droppedOf_43 : decode cX8_droppedOf 43 = .ok (.iconst 1, 1) := dq_4 (by decide +kernel)
theorem dX8_droppedOf_44 : decode cX8_droppedOf 44 = .ok (.aload_n 1, 1) := dq_43 (by decide +kernel)
theorem dX8_droppedOf_45 : decode cX8_droppedOf 45 = .ok (.getfield 229, 3) := dq_180 (by decide +kernel)
theorem dX8_droppedOf_48 : decode cX8_droppedOf 48 = .ok (.iload 5, 2) := dq_21 (by decide +kernel)
theorem dX8_droppedOf_50 : decode cX8_droppedOf 50 = .ok (.iaload, 1) := dq_46 (by decide +kernel)
theorem dX8_droppedOf_51 : decode cX8_droppedOf 51 = .ok (.iastore, 1) := dq_79 (by decide +kernel)
theorem dX8_droppedOf_52 : decode cX8_droppedOf 52 = .ok (.aload_n 0, 1) := dq_42 (by decide +kernel)
theorem dX8_droppedOf_53 : decode cX8_droppedOf 53 = .ok (.getfield 31, 3) := dq_180 (by decide +kernel)
theorem dX8_droppedOf_56 : decode cX8_droppedOf 56 = .ok (.iconst 2, 1) := dq_5 (by decide +kernel)
theorem dX8_droppedOf_57 : decode cX8_droppedOf 57 = .ok (.aload_n 1, 1) := dq_43 (by decide +kernel)
theorem dX8_droppedOf_58 : decode cX8_droppedOf 58 = .ok (.iload_n 2, 1) := dq_28 (by decide +kernel)
theorem dX8_droppedOf_59 : decode cX8_droppedOf 59 = .ok (.invokevirtual 374, 3) := dq_182 (by decide +kernel)
theorem dX8_droppedOf_62 : decode cX8_droppedOf 62 = .ok (.iastore, 1) := dq_79 (by decide +kernel)
theorem dX8_droppedOf_63 : decode cX8_droppedOf 63 = .ok (.aload_n 0, 1) := dq_42 (by decide +kernel)
theorem dX8_droppedOf_64 : decode cX8_droppedOf 64 = .ok (.getfield 31, 3) := dq_180 (by decide +kernel)
theorem dX8_droppedOf_67 : decode cX8_droppedOf 67 = .ok (.iconst 3, 1) := dq_6 (by decide +kernel)
theorem dX8_droppedOf_68 : decode cX8_droppedOf 68 = .ok (.iload 5, 2) := dq_21 (by decide +kernel)
theorem dX8_droppedOf_70 : decode cX8_droppedOf 70 = .ok (.iastore, 1) := dq_79 (by decide +kernel)
theorem dX8_droppedOf_71 : decode cX8_droppedOf 71 = .ok (.aload_n 0, 1) := dq_42 (by decide +kernel)
theorem dX8_droppedOf_72 : decode cX8_droppedOf 72 = .ok (.getfield 76, 3) := dq_180 (by decide +kernel)
theorem dX8_droppedOf_75 : decode cX8_droppedOf 75 = .ok (.aload_n 0, 1) := dq_42 (by decide +kernel)
theorem dX8_droppedOf_76 : decode cX8_droppedOf 76 = .ok (.getfield 31, 3) := dq_180 (by decide +kernel)
theorem dX8_droppedOf_79 : decode cX8_droppedOf 79 = .ok (.invokevirtual 346, 3) := dq_182 (by decide +kernel)
theorem dX8_droppedOf_82 : decode cX8_droppedOf 82 = .ok (.istore 6, 2) := dq_54 (by decide +kernel)
theorem dX8_droppedOf_84 : decode cX8_droppedOf 84 = .ok (.iload 6, 2) := dq_21 (by decide +kernel)
theorem dX8_droppedOf_86 : decode cX8_droppedOf 86 = .ok (.iload 4, 2) := dq_21 (by decide +kernel)
theorem dX8_droppedOf_88 : decode cX8_droppedOf 88 = .ok (.if_icmp .le 10, 3) := dq_164 (by decide +kernel)
theorem dX8_droppedOf_91 : decode cX8_droppedOf 91 = .ok (.iload 6, 2) := dq_21 (by decide +kernel)
theorem dX8_droppedOf_93 : decode cX8_droppedOf 93 = .ok (.istore 4, 2) := dq_54 (by decide +kernel)
theorem dX8_droppedOf_95 : decode cX8_droppedOf 95 = .ok (.iload 5, 2) := dq_21 (by decide +kernel)
theorem dX8_droppedOf_97 : decode cX8_droppedOf 97 = .ok (.istore_n 3, 1) := dq_62 (by decide +kernel)
theorem dX8_droppedOf_98 : decode cX8_droppedOf 98 = .ok (.iinc 5 1, 3) := dq_132 (by decide +kernel)
theorem dX8_droppedOf_101 : decode cX8_droppedOf 101 = .ok (.goto (-81), 3) := dq_167 (by decide +kernel)
theorem dX8_droppedOf_104 : decode cX8_droppedOf 104 = .ok (.iload_n 3, 1) := dq_29 (by decide +kernel)
theorem dX8_droppedOf_105 : decode cX8_droppedOf 105 = .ok (.ireturn, 1) := dq_172 (by decide +kernel)
theorem dX8_error_0 : decode cX8_error 0 = .ok (.aload_n 0, 1) := dq_42 (by decide +kernel)
theorem dX8_error_1 : decode cX8_error 1 = .ok (.iload_n 1, 1) := dq_27 (by decide +kernel)
theorem dX8_error_2 : decode cX8_error 2 = .ok (.invokevirtual 102, 3) := dq_182 (by decide +kernel)
theorem dX8_error_5 : decode cX8_error 5 = .ok (.astore 4, 2) := dq_58 (by decide +kernel)
theorem dX8_error_7 : decode cX8_error 7 = .ok (.aload 4, 2) := dq_25 (by decide +kernel)
theorem dX8_error_9 : decode cX8_error 9 = .ok (.ifnull 17, 3) := dq_198 (by decide +kernel)
theorem dX8_error_12 : decode cX8_error 12 = .ok (.iload_n 2, 1) := dq_28 (by decide +kernel)
theorem dX8_error_13 : decode cX8_error 13 = .ok (.invokestatic 84, 3) := dq_184 (by decide +kernel)
theorem dX8_error_16 : decode cX8_error 16 = .ok (.ifCond .eq 10, 3) := dq_153 (by decide +kernel)
theorem dX8_error_19 : decode cX8_error 19 = .ok (.iload_n 3, 1) := dq_29 (by decide +kernel)
theorem dX8_error_20 : decode cX8_error 20 = .ok (.invokestatic 125, 3) := dq_184 (by decide +kernel)
theorem dX8_error_23 : decode cX8_error 23 = .ok (.ifCond .ne 6, 3) := dq_154 (by decide +kernel)
theorem dX8_error_26 : decode cX8_error 26 = .ok (.ldc 110, 2) := dq_18 (by decide +kernel)
theorem dX8_error_28 : decode cX8_error 28 = .ok (.ireturn, 1) := dq_172 (by decide +kernel)
theorem dX8_error_29 : decode cX8_error 29 = .ok (.aload 4, 2) := dq_25 (by decide +kernel)
theorem dX8_error_31 : decode cX8_error 31 = .ok (.iload_n 2, 1) := dq_28 (by decide +kernel)
theorem dX8_error_32 : decode cX8_error 32 = .ok (.aload_n 0, 1) := dq_42 (by decide +kernel)
theorem dX8_error_33 : decode cX8_error 33 = .ok (.getfield 37, 3) := dq_180 (by decide +kernel)
theorem dX8_error_36 : decode cX8_error 36 = .ok (.iload_n 3, 1) := dq_29 (by decide +kernel)
theorem dX8_error_37 : decode cX8_error 37 = .ok (.invokevirtual 128, 3) := dq_182 (by decide +kernel)
theorem dX8_error_40 : decode cX8_error 40 = .ok (.ireturn, 1) := dq_172 (by decide +kernel)
theorem dX8_feed_0 : decode cX8_feed 0 = .ok (.iload_n 1, 1) := dq_27 (by decide +kernel)
theorem dX8_feed_1 : decode cX8_feed 1 = .ok (.iconst 1, 1) := dq_4 (by decide +kernel)
theorem dX8_feed_2 : decode cX8_feed 2 = .ok (.if_icmp .lt 8, 3) := dq_161 (by decide +kernel)
theorem dX8_feed_5 : decode cX8_feed 5 = .ok (.iload_n 1, 1) := dq_27 (by decide +kernel)
theorem dX8_feed_6 : decode cX8_feed 6 = .ok (.iconst 4, 1) := dq_7 (by decide +kernel)
theorem dX8_feed_7 : decode cX8_feed 7 = .ok (.if_icmp .le 5, 3) := dq_164 (by decide +kernel)
theorem dX8_feed_10 : decode cX8_feed 10 = .ok (.iconst (-1), 1) := dq_2 (by decide +kernel)
theorem dX8_feed_11 : decode cX8_feed 11 = .ok (.ireturn, 1) := dq_172 (by decide +kernel)
theorem dX8_feed_12 : decode cX8_feed 12 = .ok (.aload_n 0, 1) := dq_42 (by decide +kernel)
theorem dX8_feed_13 : decode cX8_feed 13 = .ok (.getfield 58, 3) := dq_180 (by decide +kernel)
theorem dX8_feed_16 : decode cX8_feed 16 = .ok (.getfield 179, 3) := dq_180 (by decide +kernel)
theorem dX8_feed_19 : decode cX8_feed 19 = .ok (.iload_n 1, 1) := dq_27 (by decide +kernel)
theorem dX8_feed_20 : decode cX8_feed 20 = .ok (.iadd, 1) := dq_96 (by decide +kernel)
theorem dX8_feed_21 : decode cX8_feed 21 = .ok (.bipush 120, 2) := dq_16 (by decide +kernel)
theorem dX8_feed_23 : decode cX8_feed 23 = .ok (.if_icmp .le 6, 3) := dq_164 (by decide +kernel)
theorem dX8_feed_26 : decode cX8_feed 26 = .ok (.bipush (-5), 2) := dq_16 (by decide +kernel)
theorem dX8_feed_28 : decode cX8_feed 28 = .ok (.ireturn, 1) := dq_172 (by decide +kernel)
theorem dX8_feed_29 : decode cX8_feed 29 = .ok (.iconst 0, 1) := dq_3 (by decide +kernel)
theorem dX8_feed_30 : decode cX8_feed 30 = .ok (.istore_n 3, 1) := dq_62 (by decide +kernel)
theorem dX8_feed_31 : decode cX8_feed 31 = .ok (.iload_n 3, 1) := dq_29 (by decide +kernel)
theorem dX8_feed_32 : decode cX8_feed 32 = .ok (.iload_n 1, 1) := dq_27 (by decide +kernel)
theorem dX8_feed_33 : decode cX8_feed 33 = .ok (.if_icmp .ge 26, 3) := dq_162 (by decide +kernel)
theorem dX8_feed_36 : decode cX8_feed 36 = .ok (.aload_n 0, 1) := dq_42 (by decide +kernel)
theorem dX8_feed_37 : decode cX8_feed 37 = .ok (.getfield 58, 3) := dq_180 (by decide +kernel)
theorem dX8_feed_40 : decode cX8_feed 40 = .ok (.iload_n 2, 1) := dq_28 (by decide +kernel)
theorem dX8_feed_41 : decode cX8_feed 41 = .ok (.bipush 8, 2) := dq_16 (by decide +kernel)
theorem dX8_feed_43 : decode cX8_feed 43 = .ok (.iload_n 3, 1) := dq_29 (by decide +kernel)
theorem dX8_feed_44 : decode cX8_feed 44 = .ok (.imul, 1) := dq_104 (by decide +kernel)
theorem dX8_feed_45 : decode cX8_feed 45 = .ok (.ishr, 1) := dq_122 (by decide +kernel)
theorem dX8_feed_46 : decode cX8_feed 46 = .ok (.sipush 255, 3) := dq_17 (by decide +kernel)
theorem dX8_feed_49 : decode cX8_feed 49 = .ok (.iand, 1) := dq_126 (by decide +kernel)
theorem dX8_feed_50 : decode cX8_feed 50 = .ok (.invokevirtual 180, 3) := dq_182 (by decide +kernel)
theorem dX8_feed_53 : decode cX8_feed 53 = .ok (.iinc 3 1, 3) := dq_132 (by decide +kernel)
theorem dX8_feed_56 : decode cX8_feed 56 = .ok (.goto (-25), 3) := dq_167 (by decide +kernel)
theorem dX8_feed_59 : decode cX8_feed 59 = .ok (.aload_n 0, 1) := dq_42 (by decide +kernel)
theorem dX8_feed_60 : decode cX8_feed 60 = .ok (.getfield 58, 3) := dq_180 (by decide +kernel)
theorem dX8_feed_63 : decode cX8_feed 63 = .ok (.getfield 179, 3) := dq_180 (by decide +kernel)
theorem dX8_feed_66 : decode cX8_feed 66 = .ok (.ireturn, 1) := dq_172 (by decide +kernel)
theorem dX8_firstLack_0 : decode cX8_firstLack 0 = .ok (.aload_n 0, 1) := dq_42 (by decide +kernel)
theorem dX8_firstLack_1 : decode cX8_firstLack 1 = .ok (.iload_n 1, 1) := dq_27 (by decide +kernel)
theorem dX8_firstLack_2 : decode cX8_firstLack 2 = .ok (.invokevirtual 102, 3) := dq_182 (by decide +kernel)
theorem dX8_firstLack_5 : decode cX8_firstLack 5 = .ok (.ifnonnull 9, 3) := dq_199 (by decide +kernel)
theorem dX8_firstLack_8 : decode cX8_firstLack 8 = .ok (.aload_n 0, 1) := dq_42 (by decide +kernel)
theorem dX8_firstLack_9 : decode cX8_firstLack 9 = .ok (.iload_n 1, 1) := dq_27 (by decide +kernel)
theorem dX8_firstLack_10 : decode cX8_firstLack 10 = .ok (.invokevirtual 115, 3) := dq_182 (by decide +kernel)
theorem dX8_firstLack_13 : decode cX8_firstLack 13 = .ok (.ireturn, 1) := dq_172 (by decide +kernel)
theorem dX8_firstLack_14 : decode cX8_firstLack 14 = .ok (.aload_n 0, 1) := dq_42 (by decide +kernel)
theorem dX8_firstLack_15 : decode cX8_firstLack 15 = .ok (.iload_n 2, 1) := dq_28 (by decide +kernel)
theorem dX8_firstLack_16 : decode cX8_firstLack 16 = .ok (.invokevirtual 102, 3) := dq_182 (by decide +kernel)
theorem dX8_firstLack_19 : decode cX8_firstLack 19 = .ok (.ifnonnull 9, 3) := dq_199 (by decide +kernel)
theorem dX8_firstLack_22 : decode cX8_firstLack 22 = .ok (.aload_n 0, 1) := dq_42 (by decide +kernel)
theorem dX8_firstLack_23 : decode cX8_firstLack 23 = .ok (.iload_n 2, 1) := dq_28 (by decide +kernel)
theorem dX8_firstLack_24 : decode cX8_firstLack 24 = .ok (.invokevirtual 115, 3) := dq_182 (by decide +kernel)
theorem dX8_firstLack_27 : decode cX8_firstLack 27 = .ok (.ireturn, 1) := dq_172 (by decide +kernel)
theorem dX8_firstLack_28 : decode cX8_firstLack 28 = .ok (.aload_n 0, 1) := dq_42 (by decide +kernel)
theorem dX8_firstLack_29 : decode cX8_firstLack 29 = .ok (.iload_n 3, 1) := dq_29 (by decide +kernel)
theorem dX8_firstLack_30 : decode cX8_firstLack 30 = .ok (.invokevirtual 102, 3) := dq_182 (by decide +kernel)
theorem dX8_firstLack_33 : decode cX8_firstLack 33 = .ok (.ifnonnull 11, 3) := dq_199 (by decide +kernel)
theorem dX8_firstLack_36 : decode cX8_firstLack 36 = .ok (.aload_n 0, 1) := dq_42 (by decide +kernel)
theorem dX8_firstLack_37 : decode cX8_firstLack 37 = .ok (.iload_n 3, 1) := dq_29 (by decide +kernel)
theorem dX8_firstLack_38 : decode cX8_firstLack 38 = .ok (.invokevirtual 115, 3) := dq_182 (by decide +kernel)
theorem dX8_firstLack_41 : decode cX8_firstLack 41 = .ok (.goto 4, 3) := dq_167 (by decide +kernel)
theorem dX8_firstLack_44 : decode cX8_firstLack 44 = .ok (.iconst 0, 1) := dq_3 (by decide +kernel)
theorem dX8_firstLack_45 : decode cX8_firstLack 45 = .ok (.ireturn, 1) := dq_172 (by decide +kernel)
theorem dX8_fitLaw_0 : decode cX8_fitLaw 0 = .ok (.aload_n 0, 1) := dq_42 (by decide +kernel)
theorem dX8_fitLaw_1 : decode cX8_fitLaw 1 = .ok (.getfield 51, 3) := dq_180 (by decide +kernel)
theorem dX8_fitLaw_4 : decode cX8_fitLaw 4 = .ok (.invokevirtual 308, 3) := dq_182 (by decide +kernel)
theorem dX8_fitLaw_7 : decode cX8_fitLaw 7 = .ok (.aload_n 0, 1) := dq_42 (by decide +kernel)
theorem dX8_fitLaw_8 : decode cX8_fitLaw 8 = .ok (.iload_n 1, 1) := dq_27 (by decide +kernel)
theorem dX8_fitLaw_9 : decode cX8_fitLaw 9 = .ok (.invokevirtual 102, 3) := dq_182 (by decide +kernel)
theorem dX8_fitLaw_12 : decode cX8_fitLaw 12 = .ok (.astore 4, 2) := dq_58 (by decide +kernel)
theorem dX8_fitLaw_14 : decode cX8_fitLaw 14 = .ok (.aload 4, 2) := dq_25 (by decide +kernel)
theorem dX8_fitLaw_16 : decode cX8_fitLaw 16 = .ok (.ifnonnull 4, 3) := dq_199 (by decide +kernel)
theorem dX8_fitLaw_19 : decode cX8_fitLaw 19 = .ok (.return_, 1) := dq_177 (by decide +kernel)
theorem dX8_fitLaw_20 : decode cX8_fitLaw 20 = .ok (.aload_n 0, 1) := dq_42 (by decide +kernel)
theorem dX8_fitLaw_21 : decode cX8_fitLaw 21 = .ok (.getfield 44, 3) := dq_180 (by decide +kernel)
theorem dX8_fitLaw_24 : decode cX8_fitLaw 24 = .ok (.aload 4, 2) := dq_25 (by decide +kernel)
theorem dX8_fitLaw_26 : decode cX8_fitLaw 26 = .ok (.aload_n 0, 1) := dq_42 (by decide +kernel)
theorem dX8_fitLaw_27 : decode cX8_fitLaw 27 = .ok (.getfield 37, 3) := dq_180 (by decide +kernel)
theorem dX8_fitLaw_30 : decode cX8_fitLaw 30 = .ok (.iload_n 2, 1) := dq_28 (by decide +kernel)
theorem dX8_fitLaw_31 : decode cX8_fitLaw 31 = .ok (.iload_n 3, 1) := dq_29 (by decide +kernel)
theorem dX8_fitLaw_32 : decode cX8_fitLaw 32 = .ok (.invokevirtual 172, 3) := dq_182 (by decide +kernel)
theorem dX8_fitLaw_35 : decode cX8_fitLaw 35 = .ok (.iconst 0, 1) := dq_3 (by decide +kernel)
theorem dX8_fitLaw_36 : decode cX8_fitLaw 36 = .ok (.istore 5, 2) := dq_54 (by decide +kernel)
theorem dX8_fitLaw_38 : decode cX8_fitLaw 38 = .ok (.iload 5, 2) := dq_21 (by decide +kernel)
theorem dX8_fitLaw_40 : decode cX8_fitLaw 40 = .ok (.aload_n 0, 1) := dq_42 (by decide +kernel)
theorem dX8_fitLaw_41 : decode cX8_fitLaw 41 = .ok (.getfield 44, 3) := dq_180 (by decide +kernel)
theorem dX8_fitLaw_44 : decode cX8_fitLaw 44 = .ok (.getfield 311, 3) := dq_180 (by decide +kernel)
theorem dX8_fitLaw_47 : decode cX8_fitLaw 47 = .ok (.if_icmp .ge 66, 3) := dq_162 (by decide +kernel)
theorem dX8_fitLaw_50 : decode cX8_fitLaw 50 = .ok (.aload_n 0, 1) := dq_42 (by decide +kernel)
theorem dX8_fitLaw_51 : decode cX8_fitLaw 51 = .ok (.getfield 44, 3) := dq_180 (by decide +kernel)
theorem dX8_fitLaw_54 : decode cX8_fitLaw 54 = .ok (.getfield 312, 3) := dq_180 (by decide +kernel)
theorem dX8_fitLaw_57 : decode cX8_fitLaw 57 = .ok (.iload 5, 2) := dq_21 (by decide +kernel)
theorem dX8_fitLaw_59 : decode cX8_fitLaw 59 = .ok (.iaload, 1) := dq_46 (by decide +kernel)
theorem dX8_fitLaw_60 : decode cX8_fitLaw 60 = .ok (.istore 6, 2) := dq_54 (by decide +kernel)
theorem dX8_fitLaw_62 : decode cX8_fitLaw 62 = .ok (.aload_n 0, 1) := dq_42 (by decide +kernel)
theorem dX8_fitLaw_63 : decode cX8_fitLaw 63 = .ok (.iload_n 1, 1) := dq_27 (by decide +kernel)
theorem dX8_fitLaw_64 : decode cX8_fitLaw 64 = .ok (.iload 6, 2) := dq_21 (by decide +kernel)
theorem dX8_fitLaw_66 : decode cX8_fitLaw 66 = .ok (.invokevirtual 315, 3) := dq_182 (by decide +kernel)
theorem dX8_fitLaw_69 : decode cX8_fitLaw 69 = .ok (.istore 7, 2) := dq_54 (by decide +kernel)
theorem dX8_fitLaw_71 : decode cX8_fitLaw 71 = .ok (.iload 7, 2) := dq_21 (by decide +kernel)
theorem dX8_fitLaw_73 : decode cX8_fitLaw 73 = .ok (.bipush (-100), 2) := dq_16 (by decide +kernel)
theorem dX8_fitLaw_75 : decode cX8_fitLaw 75 = .ok (.if_icmp .eq 32, 3) := dq_159 (by decide +kernel)
theorem dX8_fitLaw_78 : decode cX8_fitLaw 78 = .ok (.aload_n 0, 1) := dq_42 (by decide +kernel)
theorem dX8_fitLaw_79 : decode cX8_fitLaw 79 = .ok (.getfield 51, 3) := dq_180 (by decide +kernel)
theorem dX8_fitLaw_82 : decode cX8_fitLaw 82 = .ok (.aload_n 0, 1) := dq_42 (by decide +kernel)
theorem dX8_fitLaw_83 : decode cX8_fitLaw 83 = .ok (.getfield 44, 3) := dq_180 (by decide +kernel)
theorem dX8_fitLaw_86 : decode cX8_fitLaw 86 = .ok (.getfield 318, 3) := dq_180 (by decide +kernel)
theorem dX8_fitLaw_89 : decode cX8_fitLaw 89 = .ok (.iload 5, 2) := dq_21 (by decide +kernel)
theorem dX8_fitLaw_91 : decode cX8_fitLaw 91 = .ok (.iaload, 1) := dq_46 (by decide +kernel)
theorem dX8_fitLaw_92 : decode cX8_fitLaw 92 = .ok (.i2l, 1) := dq_133 (by decide +kernel)
theorem dX8_fitLaw_93 : decode cX8_fitLaw 93 = .ok (.iload 7, 2) := dq_21 (by decide +kernel)
theorem dX8_fitLaw_95 : decode cX8_fitLaw 95 = .ok (.i2l, 1) := dq_133 (by decide +kernel)
theorem dX8_fitLaw_96 : decode cX8_fitLaw 96 = .ok (.aload 4, 2) := dq_25 (by decide +kernel)
theorem dX8_fitLaw_98 : decode cX8_fitLaw 98 = .ok (.iload 6, 2) := dq_21 (by decide +kernel)
theorem dX8_fitLaw_100 : decode cX8_fitLaw 100 = .ok (.invokevirtual 139, 3) := dq_182 (by decide +kernel)
theorem dX8_fitLaw_103 : decode cX8_fitLaw 103 = .ok (.i2l, 1) := dq_133 (by decide +kernel)
theorem dX8_fitLaw_104 : decode cX8_fitLaw 104 = .ok (.invokevirtual 321, 3) := dq_182 (by decide +kernel)
theorem dX8_fitLaw_107 : decode cX8_fitLaw 107 = .ok (.iinc 5 1, 3) := dq_132 (by decide +kernel)
theorem dX8_fitLaw_110 : decode cX8_fitLaw 110 = .ok (.goto (-72), 3) := dq_167 (by decide +kernel)
theorem dX8_fitLaw_113 : decode cX8_fitLaw 113 = .ok (.aload_n 0, 1) := dq_42 (by decide +kernel)
theorem dX8_fitLaw_114 : decode cX8_fitLaw 114 = .ok (.getfield 51, 3) := dq_180 (by decide +kernel)
theorem dX8_fitLaw_117 : decode cX8_fitLaw 117 = .ok (.invokevirtual 324, 3) := dq_182 (by decide +kernel)
theorem dX8_fitLaw_120 : decode cX8_fitLaw 120 = .ok (.return_, 1) := dq_177 (by decide +kernel)
theorem dX8_foretold_0 : decode cX8_foretold 0 = .ok (.aload_n 0, 1) := dq_42 (by decide +kernel)
theorem dX8_foretold_1 : decode cX8_foretold 1 = .ok (.iload_n 1, 1) := dq_27 (by decide +kernel)
theorem dX8_foretold_2 : decode cX8_foretold 2 = .ok (.iload_n 2, 1) := dq_28 (by decide +kernel)
theorem dX8_foretold_3 : decode cX8_foretold 3 = .ok (.iload_n 3, 1) := dq_29 (by decide +kernel)
theorem dX8_foretold_4 : decode cX8_foretold 4 = .ok (.invokevirtual 152, 3) := dq_182 (by decide +kernel)
theorem dX8_foretold_7 : decode cX8_foretold 7 = .ok (.ifCond .ne 21, 3) := dq_154 (by decide +kernel)
theorem dX8_foretold_10 : decode cX8_foretold 10 = .ok (.iload 4, 2) := dq_21 (by decide +kernel)
theorem dX8_foretold_12 : decode cX8_foretold 12 = .ok (.bipush 50, 2) := dq_16 (by decide +kernel)
theorem dX8_foretold_14 : decode cX8_foretold 14 = .ok (.invokestatic 88, 3) := dq_184 (by decide +kernel)
theorem dX8_foretold_17 : decode cX8_foretold 17 = .ok (.ifCond .eq 11, 3) := dq_153 (by decide +kernel)
theorem dX8_foretold_20 : decode cX8_foretold 20 = .ok (.iload 5, 2) := dq_21 (by decide +kernel)
theorem dX8_foretold_22 : decode cX8_foretold 22 = .ok (.invokestatic 84, 3) := dq_184 (by decide +kernel)
theorem dX8_foretold_25 : decode cX8_foretold 25 = .ok (.ifCond .ne 6, 3) := dq_154 (by decide +kernel)
theorem dX8_foretold_28 : decode cX8_foretold 28 = .ok (.ldc 110, 2) := dq_18 (by decide +kernel)
theorem dX8_foretold_30 : decode cX8_foretold 30 = .ok (.ireturn, 1) := dq_172 (by decide +kernel)
theorem dX8_foretold_31 : decode cX8_foretold 31 = .ok (.aload_n 0, 1) := dq_42 (by decide +kernel)
theorem dX8_foretold_32 : decode cX8_foretold 32 = .ok (.iload_n 1, 1) := dq_27 (by decide +kernel)
theorem dX8_foretold_33 : decode cX8_foretold 33 = .ok (.iload_n 2, 1) := dq_28 (by decide +kernel)
theorem dX8_foretold_34 : decode cX8_foretold 34 = .ok (.iload_n 3, 1) := dq_29 (by decide +kernel)
theorem dX8_foretold_35 : decode cX8_foretold 35 = .ok (.invokevirtual 155, 3) := dq_182 (by decide +kernel)
theorem dX8_foretold_38 : decode cX8_foretold 38 = .ok (.aload_n 0, 1) := dq_42 (by decide +kernel)
theorem dX8_foretold_39 : decode cX8_foretold 39 = .ok (.getfield 51, 3) := dq_180 (by decide +kernel)
theorem dX8_foretold_42 : decode cX8_foretold 42 = .ok (.invokevirtual 158, 3) := dq_182 (by decide +kernel)
theorem dX8_foretold_45 : decode cX8_foretold 45 = .ok (.ifCond .ne 6, 3) := dq_154 (by decide +kernel)
theorem dX8_foretold_48 : decode cX8_foretold 48 = .ok (.ldc 110, 2) := dq_18 (by decide +kernel)
theorem dX8_foretold_50 : decode cX8_foretold 50 = .ok (.ireturn, 1) := dq_172 (by decide +kernel)
theorem dX8_foretold_51 : decode cX8_foretold 51 = .ok (.aload_n 0, 1) := dq_42 (by decide +kernel)
theorem dX8_foretold_52 : decode cX8_foretold 52 = .ok (.getfield 51, 3) := dq_180 (by decide +kernel)
theorem dX8_foretold_55 : decode cX8_foretold 55 = .ok (.iload 4, 2) := dq_21 (by decide +kernel)
theorem dX8_foretold_57 : decode cX8_foretold 57 = .ok (.iload 5, 2) := dq_21 (by decide +kernel)
theorem dX8_foretold_59 : decode cX8_foretold 59 = .ok (.invokevirtual 164, 3) := dq_182 (by decide +kernel)
theorem dX8_foretold_62 : decode cX8_foretold 62 = .ok (.lstore 6, 2) := dq_55 (by decide +kernel)
theorem dX8_foretold_64 : decode cX8_foretold 64 = .ok (.lload 6, 2) := dq_22 (by decide +kernel)
theorem dX8_foretold_66 : decode cX8_foretold 66 = .ok (.ldc2_w 168, 3) := dq_20 (by decide +kernel)
theorem dX8_foretold_69 : decode cX8_foretold 69 = .ok (.lcmp, 1) := dq_148 (by decide +kernel)
theorem dX8_foretold_70 : decode cX8_foretold 70 = .ok (.ifCond .gt 12, 3) := dq_157 (by decide +kernel)
theorem dX8_foretold_73 : decode cX8_foretold 73 = .ok (.lload 6, 2) := dq_22 (by decide +kernel)
theorem dX8_foretold_75 : decode cX8_foretold 75 = .ok (.ldc2_w 170, 3) := dq_20 (by decide +kernel)
theorem dX8_foretold_78 : decode cX8_foretold 78 = .ok (.lcmp, 1) := dq_148 (by decide +kernel)
theorem dX8_foretold_79 : decode cX8_foretold 79 = .ok (.ifCond .ge 6, 3) := dq_156 (by decide +kernel)
theorem dX8_foretold_82 : decode cX8_foretold 82 = .ok (.ldc 110, 2) := dq_18 (by decide +kernel)
theorem dX8_foretold_84 : decode cX8_foretold 84 = .ok (.ireturn, 1) := dq_172 (by decide +kernel)
theorem dX8_foretold_85 : decode cX8_foretold 85 = .ok (.lload 6, 2) := dq_22 (by decide +kernel)
theorem dX8_foretold_87 : decode cX8_foretold 87 = .ok (.l2i, 1) := dq_136 (by decide +kernel)
theorem dX8_foretold_88 : decode cX8_foretold 88 = .ok (.ireturn, 1) := dq_172 (by decide +kernel)
theorem dX8_gatherBeforeSailing_0 : decode cX8_gatherBeforeSailing 0 = .ok (.aload_n 0, 1) := dq_42 (by decide +kernel)
theorem dX8_gatherBeforeSailing_1 : decode cX8_gatherBeforeSailing 1 = .ok (.getfield 44, 3) := dq_180 (by decide +kernel)
theorem dX8_gatherBeforeSailing_4 : decode cX8_gatherBeforeSailing 4 = .ok (.aload_n 1, 1) := dq_43 (by decide +kernel)
theorem dX8_gatherBeforeSailing_5 : decode cX8_gatherBeforeSailing 5 = .ok (.aload_n 0, 1) := dq_42 (by decide +kernel)
theorem dX8_gatherBeforeSailing_6 : decode cX8_gatherBeforeSailing 6 = .ok (.getfield 37, 3) := dq_180 (by decide +kernel)
theorem dX8_gatherBeforeSailing_9 : decode cX8_gatherBeforeSailing 9 = .ok (.iconst 0, 1) := dq_3 (by decide +kernel)
theorem dX8_gatherBeforeSailing_10 : decode cX8_gatherBeforeSailing 10 = .ok (.aload_n 0, 1) := dq_42 (by decide +kernel)
theorem dX8_gatherBeforeSailing_11 : decode cX8_gatherBeforeSailing 11 = .ok (.getfield 79, 3) := dq_180 (by decide +kernel)
theorem dX8_gatherBeforeSailing_14 : decode cX8_gatherBeforeSailing 14 = .ok (.bipush 30, 2) := dq_16 (by decide +kernel)
theorem dX8_gatherBeforeSailing_16 : decode cX8_gatherBeforeSailing 16 = .ok (.isub, 1) := dq_100 (by decide +kernel)
theorem dX8_gatherBeforeSailing_17 : decode cX8_gatherBeforeSailing 17 = .ok (.invokestatic 355, 3) := dq_184 (by decide +kernel)
theorem dX8_gatherBeforeSailing_20 : decode cX8_gatherBeforeSailing 20 = .ok (.aload_n 0, 1) := dq_42 (by decide +kernel)
theorem dX8_gatherBeforeSailing_21 : decode cX8_gatherBeforeSailing 21 = .ok (.getfield 79, 3) := dq_180 (by decide +kernel)
theorem dX8_gatherBeforeSailing_24 : decode cX8_gatherBeforeSailing 24 = .ok (.invokevirtual 172, 3) := dq_182 (by decide +kernel)
theorem dX8_gatherBeforeSailing_27 : decode cX8_gatherBeforeSailing 27 = .ok (.return_, 1) := dq_177 (by decide +kernel)
theorem dX8_hasTrial_0 : decode cX8_hasTrial 0 = .ok (.aload_n 0, 1) := dq_42 (by decide +kernel)
theorem dX8_hasTrial_1 : decode cX8_hasTrial 1 = .ok (.iload_n 1, 1) := dq_27 (by decide +kernel)
theorem dX8_hasTrial_2 : decode cX8_hasTrial 2 = .ok (.invokevirtual 102, 3) := dq_182 (by decide +kernel)
theorem dX8_hasTrial_5 : decode cX8_hasTrial 5 = .ok (.astore 4, 2) := dq_58 (by decide +kernel)
theorem dX8_hasTrial_7 : decode cX8_hasTrial 7 = .ok (.aload 4, 2) := dq_25 (by decide +kernel)
theorem dX8_hasTrial_9 : decode cX8_hasTrial 9 = .ok (.ifnull 13, 3) := dq_198 (by decide +kernel)
theorem dX8_hasTrial_12 : decode cX8_hasTrial 12 = .ok (.aload_n 0, 1) := dq_42 (by decide +kernel)
theorem dX8_hasTrial_13 : decode cX8_hasTrial 13 = .ok (.getfield 72, 3) := dq_180 (by decide +kernel)
theorem dX8_hasTrial_16 : decode cX8_hasTrial 16 = .ok (.getfield 327, 3) := dq_180 (by decide +kernel)
theorem dX8_hasTrial_19 : decode cX8_hasTrial 19 = .ok (.ifCond .ne 5, 3) := dq_154 (by decide +kernel)
theorem dX8_hasTrial_22 : decode cX8_hasTrial 22 = .ok (.iconst 0, 1) := dq_3 (by decide +kernel)
theorem dX8_hasTrial_23 : decode cX8_hasTrial 23 = .ok (.ireturn, 1) := dq_172 (by decide +kernel)
theorem dX8_hasTrial_24 : decode cX8_hasTrial 24 = .ok (.aload_n 0, 1) := dq_42 (by decide +kernel)
theorem dX8_hasTrial_25 : decode cX8_hasTrial 25 = .ok (.getfield 44, 3) := dq_180 (by decide +kernel)
theorem dX8_hasTrial_28 : decode cX8_hasTrial 28 = .ok (.aload 4, 2) := dq_25 (by decide +kernel)
theorem dX8_hasTrial_30 : decode cX8_hasTrial 30 = .ok (.aload_n 0, 1) := dq_42 (by decide +kernel)
theorem dX8_hasTrial_31 : decode cX8_hasTrial 31 = .ok (.getfield 37, 3) := dq_180 (by decide +kernel)
theorem dX8_hasTrial_34 : decode cX8_hasTrial 34 = .ok (.iload_n 2, 1) := dq_28 (by decide +kernel)
theorem dX8_hasTrial_35 : decode cX8_hasTrial 35 = .ok (.iload_n 3, 1) := dq_29 (by decide +kernel)
theorem dX8_hasTrial_36 : decode cX8_hasTrial 36 = .ok (.invokevirtual 172, 3) := dq_182 (by decide +kernel)
theorem dX8_hasTrial_39 : decode cX8_hasTrial 39 = .ok (.aload_n 0, 1) := dq_42 (by decide +kernel)
theorem dX8_hasTrial_40 : decode cX8_hasTrial 40 = .ok (.getfield 44, 3) := dq_180 (by decide +kernel)
theorem dX8_hasTrial_43 : decode cX8_hasTrial 43 = .ok (.getfield 311, 3) := dq_180 (by decide +kernel)
theorem dX8_hasTrial_46 : decode cX8_hasTrial 46 = .ok (.ifCond .le 7, 3) := dq_158 (by decide +kernel)
theorem dX8_hasTrial_49 : decode cX8_hasTrial 49 = .ok (.iconst 1, 1) := dq_4 (by decide +kernel)
theorem dX8_hasTrial_50 : decode cX8_hasTrial 50 = .ok (.goto 4, 3) := dq_167 (by decide +kernel)
theorem dX8_hasTrial_53 : decode cX8_hasTrial 53 = .ok (.iconst 0, 1) := dq_3 (by decide +kernel)
theorem dX8_hasTrial_54 : decode cX8_hasTrial 54 = .ok (.ireturn, 1) := dq_172 (by decide +kernel)
theorem dX8_holder_0 : decode cX8_holder 0 = .ok (.aload_n 0, 1) := dq_42 (by decide +kernel)
theorem dX8_holder_1 : decode cX8_holder 1 = .ok (.iload_n 1, 1) := dq_27 (by decide +kernel)
theorem dX8_holder_2 : decode cX8_holder 2 = .ok (.invokevirtual 102, 3) := dq_182 (by decide +kernel)
theorem dX8_holder_5 : decode cX8_holder 5 = .ok (.astore_n 3, 1) := dq_78 (by decide +kernel)
theorem dX8_holder_6 : decode cX8_holder 6 = .ok (.aload_n 3, 1) := dq_45 (by decide +kernel)
theorem dX8_holder_7 : decode cX8_holder 7 = .ok (.ifnull 11, 3) := dq_198 (by decide +kernel)
theorem dX8_holder_10 : decode cX8_holder 10 = .ok (.aload_n 0, 1) := dq_42 (by decide +kernel)
theorem dX8_holder_11 : decode cX8_holder 11 = .ok (.iload_n 2, 1) := dq_28 (by decide +kernel)
theorem dX8_holder_12 : decode cX8_holder 12 = .ok (.invokevirtual 111, 3) := dq_182 (by decide +kernel)
theorem dX8_holder_15 : decode cX8_holder 15 = .ok (.ifCond .ne 8, 3) := dq_154 (by decide +kernel)
theorem dX8_holder_18 : decode cX8_holder 18 = .ok (.ldc 110, 2) := dq_18 (by decide +kernel)
theorem dX8_holder_20 : decode cX8_holder 20 = .ok (.goto 8, 3) := dq_167 (by decide +kernel)
theorem dX8_holder_23 : decode cX8_holder 23 = .ok (.aload_n 3, 1) := dq_45 (by decide +kernel)
theorem dX8_holder_24 : decode cX8_holder 24 = .ok (.iload_n 2, 1) := dq_28 (by decide +kernel)
theorem dX8_holder_25 : decode cX8_holder 25 = .ok (.invokevirtual 106, 3) := dq_182 (by decide +kernel)
theorem dX8_holder_28 : decode cX8_holder 28 = .ok (.ireturn, 1) := dq_172 (by decide +kernel)
theorem dX8_holds_0 : decode cX8_holds 0 = .ok (.iload_n 1, 1) := dq_27 (by decide +kernel)
theorem dX8_holds_1 : decode cX8_holds 1 = .ok (.invokestatic 92, 3) := dq_184 (by decide +kernel)
theorem dX8_holds_4 : decode cX8_holds 4 = .ok (.ifCond .eq 12, 3) := dq_153 (by decide +kernel)
theorem dX8_holds_7 : decode cX8_holds 7 = .ok (.aload_n 0, 1) := dq_42 (by decide +kernel)
theorem dX8_holds_8 : decode cX8_holds 8 = .ok (.getfield 13, 3) := dq_180 (by decide +kernel)
theorem dX8_holds_11 : decode cX8_holds 11 = .ok (.iload_n 1, 1) := dq_27 (by decide +kernel)
theorem dX8_holds_12 : decode cX8_holds 12 = .ok (.iaload, 1) := dq_46 (by decide +kernel)
theorem dX8_holds_13 : decode cX8_holds 13 = .ok (.goto 4, 3) := dq_167 (by decide +kernel)
theorem dX8_holds_16 : decode cX8_holds 16 = .ok (.iconst (-1), 1) := dq_2 (by decide +kernel)
theorem dX8_holds_17 : decode cX8_holds 17 = .ok (.ireturn, 1) := dq_172 (by decide +kernel)
theorem dX8_home_0 : decode cX8_home 0 = .ok (.iload_n 1, 1) := dq_27 (by decide +kernel)
theorem dX8_home_1 : decode cX8_home 1 = .ok (.invokestatic 92, 3) := dq_184 (by decide +kernel)
theorem dX8_home_4 : decode cX8_home 4 = .ok (.ifCond .ne 5, 3) := dq_154 (by decide +kernel)
theorem dX8_home_7 : decode cX8_home 7 = .ok (.iconst (-1), 1) := dq_2 (by decide +kernel)
theorem dX8_home_8 : decode cX8_home 8 = .ok (.ireturn, 1) := dq_172 (by decide +kernel)
theorem dX8_home_9 : decode cX8_home 9 = .ok (.aload_n 0, 1) := dq_42 (by decide +kernel)
theorem dX8_home_10 : decode cX8_home 10 = .ok (.iload_n 1, 1) := dq_27 (by decide +kernel)
theorem dX8_home_11 : decode cX8_home 11 = .ok (.invokevirtual 102, 3) := dq_182 (by decide +kernel)
theorem dX8_home_14 : decode cX8_home 14 = .ok (.astore_n 2, 1) := dq_77 (by decide +kernel)
theorem dX8_home_15 : decode cX8_home 15 = .ok (.aload_n 2, 1) := dq_44 (by decide +kernel)
theorem dX8_home_16 : decode cX8_home 16 = .ok (.ifnonnull 9, 3) := dq_199 (by decide +kernel)
theorem dX8_home_19 : decode cX8_home 19 = .ok (.aload_n 0, 1) := dq_42 (by decide +kernel)
theorem dX8_home_20 : decode cX8_home 20 = .ok (.iload_n 1, 1) := dq_27 (by decide +kernel)
theorem dX8_home_21 : decode cX8_home 21 = .ok (.invokevirtual 115, 3) := dq_182 (by decide +kernel)
theorem dX8_home_24 : decode cX8_home 24 = .ok (.ireturn, 1) := dq_172 (by decide +kernel)
theorem dX8_home_25 : decode cX8_home 25 = .ok (.aload_n 2, 1) := dq_44 (by decide +kernel)
theorem dX8_home_26 : decode cX8_home 26 = .ok (.aload_n 0, 1) := dq_42 (by decide +kernel)
theorem dX8_home_27 : decode cX8_home 27 = .ok (.getfield 79, 3) := dq_180 (by decide +kernel)
theorem dX8_home_30 : decode cX8_home 30 = .ok (.invokevirtual 106, 3) := dq_182 (by decide +kernel)
theorem dX8_home_33 : decode cX8_home 33 = .ok (.istore_n 3, 1) := dq_62 (by decide +kernel)
theorem dX8_home_34 : decode cX8_home 34 = .ok (.iload_n 3, 1) := dq_29 (by decide +kernel)
theorem dX8_home_35 : decode cX8_home 35 = .ok (.ifCond .lt 9, 3) := dq_155 (by decide +kernel)
theorem dX8_home_38 : decode cX8_home 38 = .ok (.iload_n 3, 1) := dq_29 (by decide +kernel)
theorem dX8_home_39 : decode cX8_home 39 = .ok (.bipush 20, 2) := dq_16 (by decide +kernel)
theorem dX8_home_41 : decode cX8_home 41 = .ok (.if_icmp .lt 6, 3) := dq_161 (by decide +kernel)
theorem dX8_home_44 : decode cX8_home 44 = .ok (.bipush (-4), 2) := dq_16 (by decide +kernel)
theorem dX8_home_46 : decode cX8_home 46 = .ok (.ireturn, 1) := dq_172 (by decide +kernel)
theorem dX8_home_47 : decode cX8_home 47 = .ok (.aload_n 2, 1) := dq_44 (by decide +kernel)
theorem dX8_home_48 : decode cX8_home 48 = .ok (.iconst (-1), 1) := dq_2 (by decide +kernel)
theorem dX8_home_49 : decode cX8_home 49 = .ok (.aload_n 0, 1) := dq_42 (by decide +kernel)
theorem dX8_home_50 : decode cX8_home 50 = .ok (.getfield 79, 3) := dq_180 (by decide +kernel)
theorem dX8_home_53 : decode cX8_home 53 = .ok (.invokevirtual 288, 3) := dq_182 (by decide +kernel)
theorem dX8_home_56 : decode cX8_home 56 = .ok (.iconst 1, 1) := dq_4 (by decide +kernel)
theorem dX8_home_57 : decode cX8_home 57 = .ok (.ireturn, 1) := dq_172 (by decide +kernel)
theorem dX8_init_0 : decode cX8_init 0 = .ok (.aload_n 0, 1) := dq_42 (by decide +kernel)
theorem dX8_init_1 : decode cX8_init 1 = .ok (.invokespecial 1, 3) := dq_183 (by decide +kernel)
theorem dX8_init_4 : decode cX8_init 4 = .ok (.aload_n 0, 1) := dq_42 (by decide +kernel)
theorem dX8_init_5 : decode cX8_init 5 = .ok (.sipush 400, 3) := dq_17 (by decide +kernel)
theorem dX8_init_8 : decode cX8_init 8 = .ok (.newarray .int, 2) := dq_188_10 (by decide +kernel)
theorem dX8_init_10 : decode cX8_init 10 = .ok (.putfield 9, 3) := dq_181 (by decide +kernel)
theorem dX8_init_13 : decode cX8_init 13 = .ok (.aload_n 0, 1) := dq_42 (by decide +kernel)
theorem dX8_init_14 : decode cX8_init 14 = .ok (.bipush 16, 2) := dq_16 (by decide +kernel)
theorem dX8_init_16 : decode cX8_init 16 = .ok (.newarray .int, 2) := dq_188_10 (by decide +kernel)
theorem dX8_init_18 : decode cX8_init 18 = .ok (.putfield 13, 3) := dq_181 (by decide +kernel)
theorem dX8_init_21 : decode cX8_init 21 = .ok (.aload_n 0, 1) := dq_42 (by decide +kernel)
theorem dX8_init_22 : decode cX8_init 22 = .ok (.bipush 16, 2) := dq_16 (by decide +kernel)
theorem dX8_init_24 : decode cX8_init 24 = .ok (.newarray .int, 2) := dq_188_10 (by decide +kernel)
theorem dX8_init_26 : decode cX8_init 26 = .ok (.putfield 16, 3) := dq_181 (by decide +kernel)
theorem dX8_init_29 : decode cX8_init 29 = .ok (.aload_n 0, 1) := dq_42 (by decide +kernel)
theorem dX8_init_30 : decode cX8_init 30 = .ok (.bipush 16, 2) := dq_16 (by decide +kernel)
theorem dX8_init_32 : decode cX8_init 32 = .ok (.anewarray 19, 3) := dq_189 (by decide +kernel)
theorem dX8_init_35 : decode cX8_init 35 = .ok (.putfield 21, 3) := dq_181 (by decide +kernel)
theorem dX8_init_38 : decode cX8_init 38 = .ok (.aload_n 0, 1) := dq_42 (by decide +kernel)
theorem dX8_init_39 : decode cX8_init 39 = .ok (.iconst 5, 1) := dq_8 (by decide +kernel)
theorem dX8_init_40 : decode cX8_init 40 = .ok (.anewarray 25, 3) := dq_189 (by decide +kernel)
theorem dX8_init_43 : decode cX8_init 43 = .ok (.putfield 27, 3) := dq_181 (by decide +kernel)
theorem dX8_init_46 : decode cX8_init 46 = .ok (.aload_n 0, 1) := dq_42 (by decide +kernel)
theorem dX8_init_47 : decode cX8_init 47 = .ok (.bipush 9, 2) := dq_16 (by decide +kernel)
theorem dX8_init_49 : decode cX8_init 49 = .ok (.newarray .int, 2) := dq_188_10 (by decide +kernel)
theorem dX8_init_51 : decode cX8_init 51 = .ok (.putfield 31, 3) := dq_181 (by decide +kernel)
theorem dX8_init_54 : decode cX8_init 54 = .ok (.aload_n 0, 1) := dq_42 (by decide +kernel)
theorem dX8_init_55 : decode cX8_init 55 = .ok (.new 34, 3) := dq_187 (by decide +kernel)
theorem dX8_init_58 : decode cX8_init 58 = .ok (.dup, 1) := dq_89 (by decide +kernel)
theorem dX8_init_59 : decode cX8_init 59 = .ok (.invokespecial 36, 3) := dq_183 (by decide +kernel)
theorem dX8_init_62 : decode cX8_init 62 = .ok (.putfield 37, 3) := dq_181 (by decide +kernel)
theorem dX8_init_65 : decode cX8_init 65 = .ok (.aload_n 0, 1) := dq_42 (by decide +kernel)
theorem dX8_init_66 : decode cX8_init 66 = .ok (.new 41, 3) := dq_187 (by decide +kernel)
theorem dX8_init_69 : decode cX8_init 69 = .ok (.dup, 1) := dq_89 (by decide +kernel)
theorem dX8_init_70 : decode cX8_init 70 = .ok (.invokespecial 43, 3) := dq_183 (by decide +kernel)
theorem dX8_init_73 : decode cX8_init 73 = .ok (.putfield 44, 3) := dq_181 (by decide +kernel)
theorem dX8_init_76 : decode cX8_init 76 = .ok (.aload_n 0, 1) := dq_42 (by decide +kernel)
theorem dX8_init_77 : decode cX8_init 77 = .ok (.new 48, 3) := dq_187 (by decide +kernel)
theorem dX8_init_80 : decode cX8_init 80 = .ok (.dup, 1) := dq_89 (by decide +kernel)
theorem dX8_init_81 : decode cX8_init 81 = .ok (.invokespecial 50, 3) := dq_183 (by decide +kernel)
theorem dX8_init_84 : decode cX8_init 84 = .ok (.putfield 51, 3) := dq_181 (by decide +kernel)
theorem dX8_init_87 : decode cX8_init 87 = .ok (.aload_n 0, 1) := dq_42 (by decide +kernel)
theorem dX8_init_88 : decode cX8_init 88 = .ok (.new 55, 3) := dq_187 (by decide +kernel)
theorem dX8_init_91 : decode cX8_init 91 = .ok (.dup, 1) := dq_89 (by decide +kernel)
theorem dX8_init_92 : decode cX8_init 92 = .ok (.invokespecial 57, 3) := dq_183 (by decide +kernel)
theorem dX8_init_95 : decode cX8_init 95 = .ok (.putfield 58, 3) := dq_181 (by decide +kernel)
theorem dX8_init_98 : decode cX8_init 98 = .ok (.aload_n 0, 1) := dq_42 (by decide +kernel)
theorem dX8_init_99 : decode cX8_init 99 = .ok (.new 62, 3) := dq_187 (by decide +kernel)
theorem dX8_init_102 : decode cX8_init 102 = .ok (.dup, 1) := dq_89 (by decide +kernel)
theorem dX8_init_103 : decode cX8_init 103 = .ok (.invokespecial 64, 3) := dq_183 (by decide +kernel)
theorem dX8_init_106 : decode cX8_init 106 = .ok (.putfield 65, 3) := dq_181 (by decide +kernel)
theorem dX8_init_109 : decode cX8_init 109 = .ok (.aload_n 0, 1) := dq_42 (by decide +kernel)
theorem dX8_init_110 : decode cX8_init 110 = .ok (.new 69, 3) := dq_187 (by decide +kernel)
theorem dX8_init_113 : decode cX8_init 113 = .ok (.dup, 1) := dq_89 (by decide +kernel)
theorem dX8_init_114 : decode cX8_init 114 = .ok (.invokespecial 71, 3) := dq_183 (by decide +kernel)
theorem dX8_init_117 : decode cX8_init 117 = .ok (.putfield 72, 3) := dq_181 (by decide +kernel)
theorem dX8_init_120 : decode cX8_init 120 = .ok (.aload_n 0, 1) := dq_42 (by decide +kernel)
theorem dX8_init_121 : decode cX8_init 121 = .ok (.new 69, 3) := dq_187 (by decide +kernel)
theorem dX8_init_124 : decode cX8_init 124 = .ok (.dup, 1) := dq_89 (by decide +kernel)
theorem dX8_init_125 : decode cX8_init 125 = .ok (.invokespecial 71, 3) := dq_183 (by decide +kernel)
theorem dX8_init_128 : decode cX8_init 128 = .ok (.putfield 76, 3) := dq_181 (by decide +kernel)
theorem dX8_init_131 : decode cX8_init 131 = .ok (.aload_n 0, 1) := dq_42 (by decide +kernel)
theorem dX8_init_132 : decode cX8_init 132 = .ok (.iconst 0, 1) := dq_3 (by decide +kernel)
theorem dX8_init_133 : decode cX8_init 133 = .ok (.putfield 79, 3) := dq_181 (by decide +kernel)
theorem dX8_init_136 : decode cX8_init 136 = .ok (.iconst 0, 1) := dq_3 (by decide +kernel)
theorem dX8_init_137 : decode cX8_init 137 = .ok (.istore_n 1, 1) := dq_60 (by decide +kernel)
theorem dX8_init_138 : decode cX8_init 138 = .ok (.iload_n 1, 1) := dq_27 (by decide +kernel)
theorem dX8_init_139 : decode cX8_init 139 = .ok (.sipush 400, 3) := dq_17 (by decide +kernel)
theorem dX8_init_142 : decode cX8_init 142 = .ok (.if_icmp .ge 17, 3) := dq_162 (by decide +kernel)
theorem dX8_init_145 : decode cX8_init 145 = .ok (.aload_n 0, 1) := dq_42 (by decide +kernel)
theorem dX8_init_146 : decode cX8_init 146 = .ok (.getfield 9, 3) := dq_180 (by decide +kernel)
theorem dX8_init_149 : decode cX8_init 149 = .ok (.iload_n 1, 1) := dq_27 (by decide +kernel)
theorem dX8_init_150 : decode cX8_init 150 = .ok (.bipush (-100), 2) := dq_16 (by decide +kernel)
theorem dX8_init_152 : decode cX8_init 152 = .ok (.iastore, 1) := dq_79 (by decide +kernel)
theorem dX8_init_153 : decode cX8_init 153 = .ok (.iinc 1 1, 3) := dq_132 (by decide +kernel)
theorem dX8_init_156 : decode cX8_init 156 = .ok (.goto (-18), 3) := dq_167 (by decide +kernel)
theorem dX8_init_159 : decode cX8_init 159 = .ok (.iconst 0, 1) := dq_3 (by decide +kernel)
theorem dX8_init_160 : decode cX8_init 160 = .ok (.istore_n 1, 1) := dq_60 (by decide +kernel)
theorem dX8_init_161 : decode cX8_init 161 = .ok (.iload_n 1, 1) := dq_27 (by decide +kernel)
theorem dX8_init_162 : decode cX8_init 162 = .ok (.bipush 16, 2) := dq_16 (by decide +kernel)
theorem dX8_init_164 : decode cX8_init 164 = .ok (.if_icmp .ge 17, 3) := dq_162 (by decide +kernel)
theorem dX8_init_167 : decode cX8_init 167 = .ok (.aload_n 0, 1) := dq_42 (by decide +kernel)
theorem dX8_init_168 : decode cX8_init 168 = .ok (.getfield 13, 3) := dq_180 (by decide +kernel)
theorem dX8_init_171 : decode cX8_init 171 = .ok (.iload_n 1, 1) := dq_27 (by decide +kernel)
theorem dX8_init_172 : decode cX8_init 172 = .ok (.bipush (-5), 2) := dq_16 (by decide +kernel)
theorem dX8_init_174 : decode cX8_init 174 = .ok (.iastore, 1) := dq_79 (by decide +kernel)
theorem dX8_init_175 : decode cX8_init 175 = .ok (.iinc 1 1, 3) := dq_132 (by decide +kernel)
theorem dX8_init_178 : decode cX8_init 178 = .ok (.goto (-17), 3) := dq_167 (by decide +kernel)
theorem dX8_init_181 : decode cX8_init 181 = .ok (.iconst 0, 1) := dq_3 (by decide +kernel)
theorem dX8_init_182 : decode cX8_init 182 = .ok (.istore_n 1, 1) := dq_60 (by decide +kernel)
theorem dX8_init_183 : decode cX8_init 183 = .ok (.iload_n 1, 1) := dq_27 (by decide +kernel)
theorem dX8_init_184 : decode cX8_init 184 = .ok (.iconst 5, 1) := dq_8 (by decide +kernel)
theorem dX8_init_185 : decode cX8_init 185 = .ok (.if_icmp .ge 22, 3) := dq_162 (by decide +kernel)
theorem dX8_init_188 : decode cX8_init 188 = .ok (.aload_n 0, 1) := dq_42 (by decide +kernel)
theorem dX8_init_189 : decode cX8_init 189 = .ok (.getfield 27, 3) := dq_180 (by decide +kernel)
theorem dX8_init_192 : decode cX8_init 192 = .ok (.iload_n 1, 1) := dq_27 (by decide +kernel)
theorem dX8_init_193 : decode cX8_init 193 = .ok (.new 25, 3) := dq_187 (by decide +kernel)
theorem dX8_init_196 : decode cX8_init 196 = .ok (.dup, 1) := dq_89 (by decide +kernel)
theorem dX8_init_197 : decode cX8_init 197 = .ok (.invokespecial 83, 3) := dq_183 (by decide +kernel)
theorem dX8_init_200 : decode cX8_init 200 = .ok (.aastore, 1) := dq_83 (by decide +kernel)
theorem dX8_init_201 : decode cX8_init 201 = .ok (.iinc 1 1, 3) := dq_132 (by decide +kernel)
theorem dX8_init_204 : decode cX8_init 204 = .ok (.goto (-21), 3) := dq_167 (by decide +kernel)
theorem dX8_init_207 : decode cX8_init 207 = .ok (.return_, 1) := dq_177 (by decide +kernel)
theorem dX8_isFitToSail_0 : decode cX8_isFitToSail 0 = .ok (.aload_n 0, 1) := dq_42 (by decide +kernel)
theorem dX8_isFitToSail_1 : decode cX8_isFitToSail 1 = .ok (.iload_n 1, 1) := dq_27 (by decide +kernel)
theorem dX8_isFitToSail_2 : decode cX8_isFitToSail 2 = .ok (.invokevirtual 102, 3) := dq_182 (by decide +kernel)
theorem dX8_isFitToSail_5 : decode cX8_isFitToSail 5 = .ok (.astore_n 2, 1) := dq_77 (by decide +kernel)
theorem dX8_isFitToSail_6 : decode cX8_isFitToSail 6 = .ok (.aload_n 2, 1) := dq_44 (by decide +kernel)
theorem dX8_isFitToSail_7 : decode cX8_isFitToSail 7 = .ok (.ifnull 26, 3) := dq_198 (by decide +kernel)
theorem dX8_isFitToSail_10 : decode cX8_isFitToSail 10 = .ok (.aload_n 2, 1) := dq_44 (by decide +kernel)
theorem dX8_isFitToSail_11 : decode cX8_isFitToSail 11 = .ok (.aload_n 0, 1) := dq_42 (by decide +kernel)
theorem dX8_isFitToSail_12 : decode cX8_isFitToSail 12 = .ok (.getfield 79, 3) := dq_180 (by decide +kernel)
theorem dX8_isFitToSail_15 : decode cX8_isFitToSail 15 = .ok (.invokevirtual 106, 3) := dq_182 (by decide +kernel)
theorem dX8_isFitToSail_18 : decode cX8_isFitToSail 18 = .ok (.iconst (-1), 1) := dq_2 (by decide +kernel)
theorem dX8_isFitToSail_19 : decode cX8_isFitToSail 19 = .ok (.if_icmp .ne 14, 3) := dq_160 (by decide +kernel)
theorem dX8_isFitToSail_22 : decode cX8_isFitToSail 22 = .ok (.aload_n 2, 1) := dq_44 (by decide +kernel)
theorem dX8_isFitToSail_23 : decode cX8_isFitToSail 23 = .ok (.aload_n 0, 1) := dq_42 (by decide +kernel)
theorem dX8_isFitToSail_24 : decode cX8_isFitToSail 24 = .ok (.getfield 79, 3) := dq_180 (by decide +kernel)
theorem dX8_isFitToSail_27 : decode cX8_isFitToSail 27 = .ok (.invokevirtual 118, 3) := dq_182 (by decide +kernel)
theorem dX8_isFitToSail_30 : decode cX8_isFitToSail 30 = .ok (.ifCond .ne 5, 3) := dq_154 (by decide +kernel)
theorem dX8_isFitToSail_33 : decode cX8_isFitToSail 33 = .ok (.iconst 0, 1) := dq_3 (by decide +kernel)
theorem dX8_isFitToSail_34 : decode cX8_isFitToSail 34 = .ok (.ireturn, 1) := dq_172 (by decide +kernel)
theorem dX8_isFitToSail_35 : decode cX8_isFitToSail 35 = .ok (.aload_n 0, 1) := dq_42 (by decide +kernel)
theorem dX8_isFitToSail_36 : decode cX8_isFitToSail 36 = .ok (.aload_n 2, 1) := dq_44 (by decide +kernel)
theorem dX8_isFitToSail_37 : decode cX8_isFitToSail 37 = .ok (.invokevirtual 358, 3) := dq_182 (by decide +kernel)
theorem dX8_isFitToSail_40 : decode cX8_isFitToSail 40 = .ok (.aload_n 0, 1) := dq_42 (by decide +kernel)
theorem dX8_isFitToSail_41 : decode cX8_isFitToSail 41 = .ok (.getfield 44, 3) := dq_180 (by decide +kernel)
theorem dX8_isFitToSail_44 : decode cX8_isFitToSail 44 = .ok (.getfield 311, 3) := dq_180 (by decide +kernel)
theorem dX8_isFitToSail_47 : decode cX8_isFitToSail 47 = .ok (.iconst 2, 1) := dq_5 (by decide +kernel)
theorem dX8_isFitToSail_48 : decode cX8_isFitToSail 48 = .ok (.if_icmp .lt 7, 3) := dq_161 (by decide +kernel)
theorem dX8_isFitToSail_51 : decode cX8_isFitToSail 51 = .ok (.iconst 1, 1) := dq_4 (by decide +kernel)
theorem dX8_isFitToSail_52 : decode cX8_isFitToSail 52 = .ok (.goto 4, 3) := dq_167 (by decide +kernel)
theorem dX8_isFitToSail_55 : decode cX8_isFitToSail 55 = .ok (.iconst 0, 1) := dq_3 (by decide +kernel)
theorem dX8_isFitToSail_56 : decode cX8_isFitToSail 56 = .ok (.ireturn, 1) := dq_172 (by decide +kernel)
theorem dX8_isPast_0 : decode cX8_isPast 0 = .ok (.iload_n 1, 1) := dq_27 (by decide +kernel)
theorem dX8_isPast_1 : decode cX8_isPast 1 = .ok (.ifCond .lt 15, 3) := dq_155 (by decide +kernel)
theorem dX8_isPast_4 : decode cX8_isPast 4 = .ok (.iload_n 1, 1) := dq_27 (by decide +kernel)
theorem dX8_isPast_5 : decode cX8_isPast 5 = .ok (.aload_n 0, 1) := dq_42 (by decide +kernel)
theorem dX8_isPast_6 : decode cX8_isPast 6 = .ok (.getfield 79, 3) := dq_180 (by decide +kernel)
theorem dX8_isPast_9 : decode cX8_isPast 9 = .ok (.if_icmp .gt 7, 3) := dq_163 (by decide +kernel)
theorem dX8_isPast_12 : decode cX8_isPast 12 = .ok (.iconst 1, 1) := dq_4 (by decide +kernel)
theorem dX8_isPast_13 : decode cX8_isPast 13 = .ok (.goto 4, 3) := dq_167 (by decide +kernel)
theorem dX8_isPast_16 : decode cX8_isPast 16 = .ok (.iconst 0, 1) := dq_3 (by decide +kernel)
theorem dX8_isPast_17 : decode cX8_isPast 17 = .ok (.ireturn, 1) := dq_172 (by decide +kernel)
theorem dX8_jump_0 : decode cX8_jump 0 = .ok (.iload 4, 2) := dq_21 (by decide +kernel)
theorem dX8_jump_2 : decode cX8_jump 2 = .ok (.ifCond .lt 11, 3) := dq_155 (by decide +kernel)
theorem dX8_jump_5 : decode cX8_jump 5 = .ok (.iload 4, 2) := dq_21 (by decide +kernel)
theorem dX8_jump_7 : decode cX8_jump 7 = .ok (.sipush 2000, 3) := dq_17 (by decide +kernel)
theorem dX8_jump_10 : decode cX8_jump 10 = .ok (.if_icmp .le 5, 3) := dq_164 (by decide +kernel)
theorem dX8_jump_13 : decode cX8_jump 13 = .ok (.iconst (-1), 1) := dq_2 (by decide +kernel)
theorem dX8_jump_14 : decode cX8_jump 14 = .ok (.ireturn, 1) := dq_172 (by decide +kernel)
theorem dX8_jump_15 : decode cX8_jump 15 = .ok (.aload_n 0, 1) := dq_42 (by decide +kernel)
theorem dX8_jump_16 : decode cX8_jump 16 = .ok (.iload_n 1, 1) := dq_27 (by decide +kernel)
theorem dX8_jump_17 : decode cX8_jump 17 = .ok (.iload_n 2, 1) := dq_28 (by decide +kernel)
theorem dX8_jump_18 : decode cX8_jump 18 = .ok (.iload_n 3, 1) := dq_29 (by decide +kernel)
theorem dX8_jump_19 : decode cX8_jump 19 = .ok (.invokevirtual 152, 3) := dq_182 (by decide +kernel)
theorem dX8_jump_22 : decode cX8_jump 22 = .ok (.istore 5, 2) := dq_54 (by decide +kernel)
theorem dX8_jump_24 : decode cX8_jump 24 = .ok (.iload 5, 2) := dq_21 (by decide +kernel)
theorem dX8_jump_26 : decode cX8_jump 26 = .ok (.ifCond .eq 6, 3) := dq_153 (by decide +kernel)
theorem dX8_jump_29 : decode cX8_jump 29 = .ok (.iload 5, 2) := dq_21 (by decide +kernel)
theorem dX8_jump_31 : decode cX8_jump 31 = .ok (.ireturn, 1) := dq_172 (by decide +kernel)
theorem dX8_jump_32 : decode cX8_jump 32 = .ok (.aload_n 0, 1) := dq_42 (by decide +kernel)
theorem dX8_jump_33 : decode cX8_jump 33 = .ok (.getfield 44, 3) := dq_180 (by decide +kernel)
theorem dX8_jump_36 : decode cX8_jump 36 = .ok (.aload_n 0, 1) := dq_42 (by decide +kernel)
theorem dX8_jump_37 : decode cX8_jump 37 = .ok (.iload_n 1, 1) := dq_27 (by decide +kernel)
theorem dX8_jump_38 : decode cX8_jump 38 = .ok (.invokevirtual 102, 3) := dq_182 (by decide +kernel)
theorem dX8_jump_41 : decode cX8_jump 41 = .ok (.aload_n 0, 1) := dq_42 (by decide +kernel)
theorem dX8_jump_42 : decode cX8_jump 42 = .ok (.getfield 37, 3) := dq_180 (by decide +kernel)
theorem dX8_jump_45 : decode cX8_jump 45 = .ok (.iload_n 2, 1) := dq_28 (by decide +kernel)
theorem dX8_jump_46 : decode cX8_jump 46 = .ok (.iload_n 3, 1) := dq_29 (by decide +kernel)
theorem dX8_jump_47 : decode cX8_jump 47 = .ok (.invokevirtual 172, 3) := dq_182 (by decide +kernel)
theorem dX8_jump_50 : decode cX8_jump 50 = .ok (.aload_n 0, 1) := dq_42 (by decide +kernel)
theorem dX8_jump_51 : decode cX8_jump 51 = .ok (.getfield 44, 3) := dq_180 (by decide +kernel)
theorem dX8_jump_54 : decode cX8_jump 54 = .ok (.iload 4, 2) := dq_21 (by decide +kernel)
theorem dX8_jump_56 : decode cX8_jump 56 = .ok (.invokevirtual 176, 3) := dq_182 (by decide +kernel)
theorem dX8_jump_59 : decode cX8_jump 59 = .ok (.ireturn, 1) := dq_172 (by decide +kernel)
theorem dX8_lackAt_0 : decode cX8_lackAt 0 = .ok (.iload_n 1, 1) := dq_27 (by decide +kernel)
theorem dX8_lackAt_1 : decode cX8_lackAt 1 = .ok (.invokestatic 92, 3) := dq_184 (by decide +kernel)
theorem dX8_lackAt_4 : decode cX8_lackAt 4 = .ok (.ifCond .ne 5, 3) := dq_154 (by decide +kernel)
theorem dX8_lackAt_7 : decode cX8_lackAt 7 = .ok (.iconst (-1), 1) := dq_2 (by decide +kernel)
theorem dX8_lackAt_8 : decode cX8_lackAt 8 = .ok (.ireturn, 1) := dq_172 (by decide +kernel)
theorem dX8_lackAt_9 : decode cX8_lackAt 9 = .ok (.aload_n 0, 1) := dq_42 (by decide +kernel)
theorem dX8_lackAt_10 : decode cX8_lackAt 10 = .ok (.getfield 13, 3) := dq_180 (by decide +kernel)
theorem dX8_lackAt_13 : decode cX8_lackAt 13 = .ok (.iload_n 1, 1) := dq_27 (by decide +kernel)
theorem dX8_lackAt_14 : decode cX8_lackAt 14 = .ok (.iaload, 1) := dq_46 (by decide +kernel)
theorem dX8_lackAt_15 : decode cX8_lackAt 15 = .ok (.bipush (-5), 2) := dq_16 (by decide +kernel)
theorem dX8_lackAt_17 : decode cX8_lackAt 17 = .ok (.if_icmp .ne 8, 3) := dq_160 (by decide +kernel)
theorem dX8_lackAt_20 : decode cX8_lackAt 20 = .ok (.bipush (-2), 2) := dq_16 (by decide +kernel)
theorem dX8_lackAt_22 : decode cX8_lackAt 22 = .ok (.goto 5, 3) := dq_167 (by decide +kernel)
theorem dX8_lackAt_25 : decode cX8_lackAt 25 = .ok (.bipush (-3), 2) := dq_16 (by decide +kernel)
theorem dX8_lackAt_27 : decode cX8_lackAt 27 = .ok (.ireturn, 1) := dq_172 (by decide +kernel)
theorem dX8_late_0 : decode cX8_late 0 = .ok (.aload_n 0, 1) := dq_42 (by decide +kernel)
theorem dX8_late_1 : decode cX8_late 1 = .ok (.iload_n 1, 1) := dq_27 (by decide +kernel)
theorem dX8_late_2 : decode cX8_late 2 = .ok (.iload_n 2, 1) := dq_28 (by decide +kernel)
theorem dX8_late_3 : decode cX8_late 3 = .ok (.iconst 2, 1) := dq_5 (by decide +kernel)
theorem dX8_late_4 : decode cX8_late 4 = .ok (.invokevirtual 135, 3) := dq_182 (by decide +kernel)
theorem dX8_late_7 : decode cX8_late 7 = .ok (.ireturn, 1) := dq_172 (by decide +kernel)
theorem dX8_law_0 : decode cX8_law 0 = .ok (.aload_n 0, 1) := dq_42 (by decide +kernel)
theorem dX8_law_1 : decode cX8_law 1 = .ok (.iload_n 1, 1) := dq_27 (by decide +kernel)
theorem dX8_law_2 : decode cX8_law 2 = .ok (.iload_n 2, 1) := dq_28 (by decide +kernel)
theorem dX8_law_3 : decode cX8_law 3 = .ok (.iload_n 3, 1) := dq_29 (by decide +kernel)
theorem dX8_law_4 : decode cX8_law 4 = .ok (.invokevirtual 152, 3) := dq_182 (by decide +kernel)
theorem dX8_law_7 : decode cX8_law 7 = .ok (.istore 4, 2) := dq_54 (by decide +kernel)
theorem dX8_law_9 : decode cX8_law 9 = .ok (.iload 4, 2) := dq_21 (by decide +kernel)
theorem dX8_law_11 : decode cX8_law 11 = .ok (.ifCond .eq 6, 3) := dq_153 (by decide +kernel)
theorem dX8_law_14 : decode cX8_law 14 = .ok (.iload 4, 2) := dq_21 (by decide +kernel)
theorem dX8_law_16 : decode cX8_law 16 = .ok (.ireturn, 1) := dq_172 (by decide +kernel)
theorem dX8_law_17 : decode cX8_law 17 = .ok (.aload_n 0, 1) := dq_42 (by decide +kernel)
theorem dX8_law_18 : decode cX8_law 18 = .ok (.iload_n 1, 1) := dq_27 (by decide +kernel)
theorem dX8_law_19 : decode cX8_law 19 = .ok (.iload_n 2, 1) := dq_28 (by decide +kernel)
theorem dX8_law_20 : decode cX8_law 20 = .ok (.iload_n 3, 1) := dq_29 (by decide +kernel)
theorem dX8_law_21 : decode cX8_law 21 = .ok (.invokevirtual 155, 3) := dq_182 (by decide +kernel)
theorem dX8_law_24 : decode cX8_law 24 = .ok (.aload_n 0, 1) := dq_42 (by decide +kernel)
theorem dX8_law_25 : decode cX8_law 25 = .ok (.getfield 51, 3) := dq_180 (by decide +kernel)
theorem dX8_law_28 : decode cX8_law 28 = .ok (.invokevirtual 158, 3) := dq_182 (by decide +kernel)
theorem dX8_law_31 : decode cX8_law 31 = .ok (.ireturn, 1) := dq_172 (by decide +kernel)
theorem dX8_lend_0 : decode cX8_lend 0 = .ok (.iload_n 1, 1) := dq_27 (by decide +kernel)
theorem dX8_lend_1 : decode cX8_lend 1 = .ok (.invokestatic 92, 3) := dq_184 (by decide +kernel)
theorem dX8_lend_4 : decode cX8_lend 4 = .ok (.ifCond .eq 13, 3) := dq_153 (by decide +kernel)
theorem dX8_lend_7 : decode cX8_lend 7 = .ok (.iload_n 2, 1) := dq_28 (by decide +kernel)
theorem dX8_lend_8 : decode cX8_lend 8 = .ok (.ifCond .lt 9, 3) := dq_155 (by decide +kernel)
theorem dX8_lend_11 : decode cX8_lend 11 = .ok (.iload_n 2, 1) := dq_28 (by decide +kernel)
theorem dX8_lend_12 : decode cX8_lend 12 = .ok (.bipush 20, 2) := dq_16 (by decide +kernel)
theorem dX8_lend_14 : decode cX8_lend 14 = .ok (.if_icmp .lt 5, 3) := dq_161 (by decide +kernel)
theorem dX8_lend_17 : decode cX8_lend 17 = .ok (.iconst (-1), 1) := dq_2 (by decide +kernel)
theorem dX8_lend_18 : decode cX8_lend 18 = .ok (.ireturn, 1) := dq_172 (by decide +kernel)
theorem dX8_lend_19 : decode cX8_lend 19 = .ok (.aload_n 0, 1) := dq_42 (by decide +kernel)
theorem dX8_lend_20 : decode cX8_lend 20 = .ok (.iload_n 1, 1) := dq_27 (by decide +kernel)
theorem dX8_lend_21 : decode cX8_lend 21 = .ok (.invokevirtual 102, 3) := dq_182 (by decide +kernel)
theorem dX8_lend_24 : decode cX8_lend 24 = .ok (.astore_n 3, 1) := dq_78 (by decide +kernel)
theorem dX8_lend_25 : decode cX8_lend 25 = .ok (.aload_n 3, 1) := dq_45 (by decide +kernel)
theorem dX8_lend_26 : decode cX8_lend 26 = .ok (.ifnonnull 9, 3) := dq_199 (by decide +kernel)
theorem dX8_lend_29 : decode cX8_lend 29 = .ok (.aload_n 0, 1) := dq_42 (by decide +kernel)
theorem dX8_lend_30 : decode cX8_lend 30 = .ok (.iload_n 1, 1) := dq_27 (by decide +kernel)
theorem dX8_lend_31 : decode cX8_lend 31 = .ok (.invokevirtual 115, 3) := dq_182 (by decide +kernel)
theorem dX8_lend_34 : decode cX8_lend 34 = .ok (.ireturn, 1) := dq_172 (by decide +kernel)
theorem dX8_lend_35 : decode cX8_lend 35 = .ok (.aload_n 3, 1) := dq_45 (by decide +kernel)
theorem dX8_lend_36 : decode cX8_lend 36 = .ok (.aload_n 0, 1) := dq_42 (by decide +kernel)
theorem dX8_lend_37 : decode cX8_lend 37 = .ok (.getfield 79, 3) := dq_180 (by decide +kernel)
theorem dX8_lend_40 : decode cX8_lend 40 = .ok (.invokevirtual 106, 3) := dq_182 (by decide +kernel)
theorem dX8_lend_43 : decode cX8_lend 43 = .ok (.iconst (-1), 1) := dq_2 (by decide +kernel)
theorem dX8_lend_44 : decode cX8_lend 44 = .ok (.if_icmp .eq 6, 3) := dq_159 (by decide +kernel)
theorem dX8_lend_47 : decode cX8_lend 47 = .ok (.bipush (-4), 2) := dq_16 (by decide +kernel)
theorem dX8_lend_49 : decode cX8_lend 49 = .ok (.ireturn, 1) := dq_172 (by decide +kernel)
theorem dX8_lend_50 : decode cX8_lend 50 = .ok (.aload_n 3, 1) := dq_45 (by decide +kernel)
theorem dX8_lend_51 : decode cX8_lend 51 = .ok (.iload_n 2, 1) := dq_28 (by decide +kernel)
theorem dX8_lend_52 : decode cX8_lend 52 = .ok (.aload_n 0, 1) := dq_42 (by decide +kernel)
theorem dX8_lend_53 : decode cX8_lend 53 = .ok (.getfield 79, 3) := dq_180 (by decide +kernel)
theorem dX8_lend_56 : decode cX8_lend 56 = .ok (.invokevirtual 288, 3) := dq_182 (by decide +kernel)
theorem dX8_lend_59 : decode cX8_lend 59 = .ok (.iconst 1, 1) := dq_4 (by decide +kernel)
theorem dX8_lend_60 : decode cX8_lend 60 = .ok (.ireturn, 1) := dq_172 (by decide +kernel)
theorem dX8_markOn_0 : decode cX8_markOn 0 = .ok (.iload_n 1, 1) := dq_27 (by decide +kernel)
theorem dX8_markOn_1 : decode cX8_markOn 1 = .ok (.invokestatic 92, 3) := dq_184 (by decide +kernel)
theorem dX8_markOn_4 : decode cX8_markOn 4 = .ok (.ifCond .eq 11, 3) := dq_153 (by decide +kernel)
theorem dX8_markOn_7 : decode cX8_markOn 7 = .ok (.aload_n 0, 1) := dq_42 (by decide +kernel)
theorem dX8_markOn_8 : decode cX8_markOn 8 = .ok (.iload_n 2, 1) := dq_28 (by decide +kernel)
theorem dX8_markOn_9 : decode cX8_markOn 9 = .ok (.invokevirtual 111, 3) := dq_182 (by decide +kernel)
theorem dX8_markOn_12 : decode cX8_markOn 12 = .ok (.ifCond .ne 5, 3) := dq_154 (by decide +kernel)
theorem dX8_markOn_15 : decode cX8_markOn 15 = .ok (.iconst (-1), 1) := dq_2 (by decide +kernel)
theorem dX8_markOn_16 : decode cX8_markOn 16 = .ok (.ireturn, 1) := dq_172 (by decide +kernel)
theorem dX8_markOn_17 : decode cX8_markOn 17 = .ok (.aload_n 0, 1) := dq_42 (by decide +kernel)
theorem dX8_markOn_18 : decode cX8_markOn 18 = .ok (.iload_n 1, 1) := dq_27 (by decide +kernel)
theorem dX8_markOn_19 : decode cX8_markOn 19 = .ok (.invokevirtual 102, 3) := dq_182 (by decide +kernel)
theorem dX8_markOn_22 : decode cX8_markOn 22 = .ok (.astore 4, 2) := dq_58 (by decide +kernel)
theorem dX8_markOn_24 : decode cX8_markOn 24 = .ok (.aload 4, 2) := dq_25 (by decide +kernel)
theorem dX8_markOn_26 : decode cX8_markOn 26 = .ok (.ifnonnull 9, 3) := dq_199 (by decide +kernel)
theorem dX8_markOn_29 : decode cX8_markOn 29 = .ok (.aload_n 0, 1) := dq_42 (by decide +kernel)
theorem dX8_markOn_30 : decode cX8_markOn 30 = .ok (.iload_n 1, 1) := dq_27 (by decide +kernel)
theorem dX8_markOn_31 : decode cX8_markOn 31 = .ok (.invokevirtual 115, 3) := dq_182 (by decide +kernel)
theorem dX8_markOn_34 : decode cX8_markOn 34 = .ok (.ireturn, 1) := dq_172 (by decide +kernel)
theorem dX8_markOn_35 : decode cX8_markOn 35 = .ok (.aload 4, 2) := dq_25 (by decide +kernel)
theorem dX8_markOn_37 : decode cX8_markOn 37 = .ok (.iload_n 2, 1) := dq_28 (by decide +kernel)
theorem dX8_markOn_38 : decode cX8_markOn 38 = .ok (.iload_n 3, 1) := dq_29 (by decide +kernel)
theorem dX8_markOn_39 : decode cX8_markOn 39 = .ok (.invokevirtual 305, 3) := dq_182 (by decide +kernel)
theorem dX8_markOn_42 : decode cX8_markOn 42 = .ok (.ifCond .eq 7, 3) := dq_153 (by decide +kernel)
theorem dX8_markOn_45 : decode cX8_markOn 45 = .ok (.iconst 1, 1) := dq_4 (by decide +kernel)
theorem dX8_markOn_46 : decode cX8_markOn 46 = .ok (.goto 4, 3) := dq_167 (by decide +kernel)
theorem dX8_markOn_49 : decode cX8_markOn 49 = .ok (.iconst 0, 1) := dq_3 (by decide +kernel)
theorem dX8_markOn_50 : decode cX8_markOn 50 = .ok (.ireturn, 1) := dq_172 (by decide +kernel)
theorem dX8_off_0 : decode cX8_off 0 = .ok (.iload_n 1, 1) := dq_27 (by decide +kernel)
theorem dX8_off_1 : decode cX8_off 1 = .ok (.iconst 1, 1) := dq_4 (by decide +kernel)
theorem dX8_off_2 : decode cX8_off 2 = .ok (.if_icmp .lt 39, 3) := dq_161 (by decide +kernel)
theorem dX8_off_5 : decode cX8_off 5 = .ok (.iload_n 1, 1) := dq_27 (by decide +kernel)
theorem dX8_off_6 : decode cX8_off 6 = .ok (.bipush 6, 2) := dq_16 (by decide +kernel)
theorem dX8_off_8 : decode cX8_off 8 = .ok (.if_icmp .ge 33, 3) := dq_162 (by decide +kernel)
theorem dX8_off_11 : decode cX8_off 11 = .ok (.iload_n 2, 1) := dq_28 (by decide +kernel)
theorem dX8_off_12 : decode cX8_off 12 = .ok (.invokestatic 84, 3) := dq_184 (by decide +kernel)
theorem dX8_off_15 : decode cX8_off 15 = .ok (.ifCond .eq 26, 3) := dq_153 (by decide +kernel)
theorem dX8_off_18 : decode cX8_off 18 = .ok (.iload_n 3, 1) := dq_29 (by decide +kernel)
theorem dX8_off_19 : decode cX8_off 19 = .ok (.invokestatic 84, 3) := dq_184 (by decide +kernel)
theorem dX8_off_22 : decode cX8_off 22 = .ok (.ifCond .eq 19, 3) := dq_153 (by decide +kernel)
theorem dX8_off_25 : decode cX8_off 25 = .ok (.iload_n 2, 1) := dq_28 (by decide +kernel)
theorem dX8_off_26 : decode cX8_off 26 = .ok (.iload_n 3, 1) := dq_29 (by decide +kernel)
theorem dX8_off_27 : decode cX8_off 27 = .ok (.if_icmp .gt 14, 3) := dq_163 (by decide +kernel)
theorem dX8_off_30 : decode cX8_off 30 = .ok (.iload 4, 2) := dq_21 (by decide +kernel)
theorem dX8_off_32 : decode cX8_off 32 = .ok (.sipush 10000, 3) := dq_17 (by decide +kernel)
theorem dX8_off_35 : decode cX8_off 35 = .ok (.invokestatic 88, 3) := dq_184 (by decide +kernel)
theorem dX8_off_38 : decode cX8_off 38 = .ok (.ifCond .ne 5, 3) := dq_154 (by decide +kernel)
theorem dX8_off_41 : decode cX8_off 41 = .ok (.iconst (-1), 1) := dq_2 (by decide +kernel)
theorem dX8_off_42 : decode cX8_off 42 = .ok (.ireturn, 1) := dq_172 (by decide +kernel)
theorem dX8_off_43 : decode cX8_off 43 = .ok (.aload_n 0, 1) := dq_42 (by decide +kernel)
theorem dX8_off_44 : decode cX8_off 44 = .ok (.getfield 37, 3) := dq_180 (by decide +kernel)
theorem dX8_off_47 : decode cX8_off 47 = .ok (.getfield 142, 3) := dq_180 (by decide +kernel)
theorem dX8_off_50 : decode cX8_off 50 = .ok (.bipush 60, 2) := dq_16 (by decide +kernel)
theorem dX8_off_52 : decode cX8_off 52 = .ok (.if_icmp .lt 6, 3) := dq_161 (by decide +kernel)
theorem dX8_off_55 : decode cX8_off 55 = .ok (.bipush (-5), 2) := dq_16 (by decide +kernel)
theorem dX8_off_57 : decode cX8_off 57 = .ok (.ireturn, 1) := dq_172 (by decide +kernel)
theorem dX8_off_58 : decode cX8_off 58 = .ok (.aload_n 0, 1) := dq_42 (by decide +kernel)
theorem dX8_off_59 : decode cX8_off 59 = .ok (.getfield 37, 3) := dq_180 (by decide +kernel)
theorem dX8_off_62 : decode cX8_off 62 = .ok (.iload_n 1, 1) := dq_27 (by decide +kernel)
theorem dX8_off_63 : decode cX8_off 63 = .ok (.iload_n 2, 1) := dq_28 (by decide +kernel)
theorem dX8_off_64 : decode cX8_off 64 = .ok (.iload_n 3, 1) := dq_29 (by decide +kernel)
theorem dX8_off_65 : decode cX8_off 65 = .ok (.iload 4, 2) := dq_21 (by decide +kernel)
theorem dX8_off_67 : decode cX8_off 67 = .ok (.aload_n 0, 1) := dq_42 (by decide +kernel)
theorem dX8_off_68 : decode cX8_off 68 = .ok (.getfield 79, 3) := dq_180 (by decide +kernel)
theorem dX8_off_71 : decode cX8_off 71 = .ok (.invokevirtual 145, 3) := dq_182 (by decide +kernel)
theorem dX8_off_74 : decode cX8_off 74 = .ok (.aload_n 0, 1) := dq_42 (by decide +kernel)
theorem dX8_off_75 : decode cX8_off 75 = .ok (.getfield 37, 3) := dq_180 (by decide +kernel)
theorem dX8_off_78 : decode cX8_off 78 = .ok (.getfield 142, 3) := dq_180 (by decide +kernel)
theorem dX8_off_81 : decode cX8_off 81 = .ok (.ireturn, 1) := dq_172 (by decide +kernel)
theorem dX8_order_0 : decode cX8_order 0 = .ok (.aload_n 0, 1) := dq_42 (by decide +kernel)
theorem dX8_order_1 : decode cX8_order 1 = .ok (.iload_n 1, 1) := dq_27 (by decide +kernel)
theorem dX8_order_2 : decode cX8_order 2 = .ok (.iload_n 2, 1) := dq_28 (by decide +kernel)
theorem dX8_order_3 : decode cX8_order 3 = .ok (.iload_n 3, 1) := dq_29 (by decide +kernel)
theorem dX8_order_4 : decode cX8_order 4 = .ok (.invokevirtual 152, 3) := dq_182 (by decide +kernel)
theorem dX8_order_7 : decode cX8_order 7 = .ok (.istore 4, 2) := dq_54 (by decide +kernel)
theorem dX8_order_9 : decode cX8_order 9 = .ok (.iload 4, 2) := dq_21 (by decide +kernel)
theorem dX8_order_11 : decode cX8_order 11 = .ok (.ifCond .eq 6, 3) := dq_153 (by decide +kernel)
theorem dX8_order_14 : decode cX8_order 14 = .ok (.iload 4, 2) := dq_21 (by decide +kernel)
theorem dX8_order_16 : decode cX8_order 16 = .ok (.ireturn, 1) := dq_172 (by decide +kernel)
theorem dX8_order_17 : decode cX8_order 17 = .ok (.aload_n 0, 1) := dq_42 (by decide +kernel)
theorem dX8_order_18 : decode cX8_order 18 = .ok (.iload_n 1, 1) := dq_27 (by decide +kernel)
theorem dX8_order_19 : decode cX8_order 19 = .ok (.iload_n 2, 1) := dq_28 (by decide +kernel)
theorem dX8_order_20 : decode cX8_order 20 = .ok (.iload_n 3, 1) := dq_29 (by decide +kernel)
theorem dX8_order_21 : decode cX8_order 21 = .ok (.invokevirtual 194, 3) := dq_182 (by decide +kernel)
theorem dX8_order_24 : decode cX8_order 24 = .ok (.ifCond .ne 6, 3) := dq_154 (by decide +kernel)
theorem dX8_order_27 : decode cX8_order 27 = .ok (.bipush (-4), 2) := dq_16 (by decide +kernel)
theorem dX8_order_29 : decode cX8_order 29 = .ok (.ireturn, 1) := dq_172 (by decide +kernel)
theorem dX8_order_30 : decode cX8_order 30 = .ok (.aload_n 0, 1) := dq_42 (by decide +kernel)
theorem dX8_order_31 : decode cX8_order 31 = .ok (.iload_n 1, 1) := dq_27 (by decide +kernel)
theorem dX8_order_32 : decode cX8_order 32 = .ok (.iload_n 3, 1) := dq_29 (by decide +kernel)
theorem dX8_order_33 : decode cX8_order 33 = .ok (.iload_n 2, 1) := dq_28 (by decide +kernel)
theorem dX8_order_34 : decode cX8_order 34 = .ok (.isub, 1) := dq_100 (by decide +kernel)
theorem dX8_order_35 : decode cX8_order 35 = .ok (.invokevirtual 198, 3) := dq_182 (by decide +kernel)
theorem dX8_order_38 : decode cX8_order 38 = .ok (.istore 5, 2) := dq_54 (by decide +kernel)
theorem dX8_order_40 : decode cX8_order 40 = .ok (.iconst 0, 1) := dq_3 (by decide +kernel)
theorem dX8_order_41 : decode cX8_order 41 = .ok (.istore 6, 2) := dq_54 (by decide +kernel)
theorem dX8_order_43 : decode cX8_order 43 = .ok (.iconst 0, 1) := dq_3 (by decide +kernel)
theorem dX8_order_44 : decode cX8_order 44 = .ok (.istore 7, 2) := dq_54 (by decide +kernel)
theorem dX8_order_46 : decode cX8_order 46 = .ok (.iload 7, 2) := dq_21 (by decide +kernel)
theorem dX8_order_48 : decode cX8_order 48 = .ok (.bipush 16, 2) := dq_16 (by decide +kernel)
theorem dX8_order_50 : decode cX8_order 50 = .ok (.if_icmp .ge 37, 3) := dq_162 (by decide +kernel)
theorem dX8_order_53 : decode cX8_order 53 = .ok (.aload_n 0, 1) := dq_42 (by decide +kernel)
theorem dX8_order_54 : decode cX8_order 54 = .ok (.iload 7, 2) := dq_21 (by decide +kernel)
theorem dX8_order_56 : decode cX8_order 56 = .ok (.iload_n 2, 1) := dq_28 (by decide +kernel)
theorem dX8_order_57 : decode cX8_order 57 = .ok (.iload_n 3, 1) := dq_29 (by decide +kernel)
theorem dX8_order_58 : decode cX8_order 58 = .ok (.invokevirtual 194, 3) := dq_182 (by decide +kernel)
theorem dX8_order_61 : decode cX8_order 61 = .ok (.ifCond .eq 20, 3) := dq_153 (by decide +kernel)
theorem dX8_order_64 : decode cX8_order 64 = .ok (.aload_n 0, 1) := dq_42 (by decide +kernel)
theorem dX8_order_65 : decode cX8_order 65 = .ok (.iload 7, 2) := dq_21 (by decide +kernel)
theorem dX8_order_67 : decode cX8_order 67 = .ok (.iload_n 3, 1) := dq_29 (by decide +kernel)
theorem dX8_order_68 : decode cX8_order 68 = .ok (.iload_n 2, 1) := dq_28 (by decide +kernel)
theorem dX8_order_69 : decode cX8_order 69 = .ok (.isub, 1) := dq_100 (by decide +kernel)
theorem dX8_order_70 : decode cX8_order 70 = .ok (.invokevirtual 198, 3) := dq_182 (by decide +kernel)
theorem dX8_order_73 : decode cX8_order 73 = .ok (.iload 5, 2) := dq_21 (by decide +kernel)
theorem dX8_order_75 : decode cX8_order 75 = .ok (.if_icmp .ge 6, 3) := dq_162 (by decide +kernel)
theorem dX8_order_78 : decode cX8_order 78 = .ok (.iinc 6 1, 3) := dq_132 (by decide +kernel)
theorem dX8_order_81 : decode cX8_order 81 = .ok (.iinc 7 1, 3) := dq_132 (by decide +kernel)
theorem dX8_order_84 : decode cX8_order 84 = .ok (.goto (-38), 3) := dq_167 (by decide +kernel)
theorem dX8_order_87 : decode cX8_order 87 = .ok (.iconst 1, 1) := dq_4 (by decide +kernel)
theorem dX8_order_88 : decode cX8_order 88 = .ok (.iload 6, 2) := dq_21 (by decide +kernel)
theorem dX8_order_90 : decode cX8_order 90 = .ok (.iadd, 1) := dq_96 (by decide +kernel)
theorem dX8_order_91 : decode cX8_order 91 = .ok (.ireturn, 1) := dq_172 (by decide +kernel)
theorem dX8_placesWith_0 : decode cX8_placesWith 0 = .ok (.iconst 0, 1) := dq_3 (by decide +kernel)
theorem dX8_placesWith_1 : decode cX8_placesWith 1 = .ok (.istore_n 2, 1) := dq_61 (by decide +kernel)
theorem dX8_placesWith_2 : decode cX8_placesWith 2 = .ok (.iconst 0, 1) := dq_3 (by decide +kernel)
theorem dX8_placesWith_3 : decode cX8_placesWith 3 = .ok (.istore_n 3, 1) := dq_62 (by decide +kernel)
theorem dX8_placesWith_4 : decode cX8_placesWith 4 = .ok (.iload_n 3, 1) := dq_29 (by decide +kernel)
theorem dX8_placesWith_5 : decode cX8_placesWith 5 = .ok (.bipush 16, 2) := dq_16 (by decide +kernel)
theorem dX8_placesWith_7 : decode cX8_placesWith 7 = .ok (.if_icmp .ge 22, 3) := dq_162 (by decide +kernel)
theorem dX8_placesWith_10 : decode cX8_placesWith 10 = .ok (.aload_n 0, 1) := dq_42 (by decide +kernel)
theorem dX8_placesWith_11 : decode cX8_placesWith 11 = .ok (.getfield 13, 3) := dq_180 (by decide +kernel)
theorem dX8_placesWith_14 : decode cX8_placesWith 14 = .ok (.iload_n 3, 1) := dq_29 (by decide +kernel)
theorem dX8_placesWith_15 : decode cX8_placesWith 15 = .ok (.iaload, 1) := dq_46 (by decide +kernel)
theorem dX8_placesWith_16 : decode cX8_placesWith 16 = .ok (.iload_n 1, 1) := dq_27 (by decide +kernel)
theorem dX8_placesWith_17 : decode cX8_placesWith 17 = .ok (.if_icmp .ne 6, 3) := dq_160 (by decide +kernel)
theorem dX8_placesWith_20 : decode cX8_placesWith 20 = .ok (.iinc 2 1, 3) := dq_132 (by decide +kernel)
theorem dX8_placesWith_23 : decode cX8_placesWith 23 = .ok (.iinc 3 1, 3) := dq_132 (by decide +kernel)
theorem dX8_placesWith_26 : decode cX8_placesWith 26 = .ok (.goto (-22), 3) := dq_167 (by decide +kernel)
theorem dX8_placesWith_29 : decode cX8_placesWith 29 = .ok (.iload_n 2, 1) := dq_28 (by decide +kernel)
theorem dX8_placesWith_30 : decode cX8_placesWith 30 = .ok (.ireturn, 1) := dq_172 (by decide +kernel)
theorem dX8_put_0 : decode cX8_put 0 = .ok (.iload_n 1, 1) := dq_27 (by decide +kernel)
theorem dX8_put_1 : decode cX8_put 1 = .ok (.invokestatic 92, 3) := dq_184 (by decide +kernel)
theorem dX8_put_4 : decode cX8_put 4 = .ok (.ifCond .eq 11, 3) := dq_153 (by decide +kernel)
theorem dX8_put_7 : decode cX8_put 7 = .ok (.iload_n 2, 1) := dq_28 (by decide +kernel)
theorem dX8_put_8 : decode cX8_put 8 = .ok (.iload_n 3, 1) := dq_29 (by decide +kernel)
theorem dX8_put_9 : decode cX8_put 9 = .ok (.invokestatic 95, 3) := dq_184 (by decide +kernel)
theorem dX8_put_12 : decode cX8_put 12 = .ok (.ifCond .ne 5, 3) := dq_154 (by decide +kernel)
theorem dX8_put_15 : decode cX8_put 15 = .ok (.iconst (-1), 1) := dq_2 (by decide +kernel)
theorem dX8_put_16 : decode cX8_put 16 = .ok (.ireturn, 1) := dq_172 (by decide +kernel)
theorem dX8_put_17 : decode cX8_put 17 = .ok (.aload_n 0, 1) := dq_42 (by decide +kernel)
theorem dX8_put_18 : decode cX8_put 18 = .ok (.getfield 13, 3) := dq_180 (by decide +kernel)
theorem dX8_put_21 : decode cX8_put 21 = .ok (.iload_n 1, 1) := dq_27 (by decide +kernel)
theorem dX8_put_22 : decode cX8_put 22 = .ok (.iaload, 1) := dq_46 (by decide +kernel)
theorem dX8_put_23 : decode cX8_put 23 = .ok (.bipush (-5), 2) := dq_16 (by decide +kernel)
theorem dX8_put_25 : decode cX8_put 25 = .ok (.if_icmp .eq 6, 3) := dq_159 (by decide +kernel)
theorem dX8_put_28 : decode cX8_put 28 = .ok (.bipush (-4), 2) := dq_16 (by decide +kernel)
theorem dX8_put_30 : decode cX8_put 30 = .ok (.ireturn, 1) := dq_172 (by decide +kernel)
theorem dX8_put_31 : decode cX8_put 31 = .ok (.aload_n 0, 1) := dq_42 (by decide +kernel)
theorem dX8_put_32 : decode cX8_put 32 = .ok (.getfield 13, 3) := dq_180 (by decide +kernel)
theorem dX8_put_35 : decode cX8_put 35 = .ok (.iload_n 1, 1) := dq_27 (by decide +kernel)
theorem dX8_put_36 : decode cX8_put 36 = .ok (.iload_n 2, 1) := dq_28 (by decide +kernel)
theorem dX8_put_37 : decode cX8_put 37 = .ok (.iastore, 1) := dq_79 (by decide +kernel)
theorem dX8_put_38 : decode cX8_put 38 = .ok (.aload_n 0, 1) := dq_42 (by decide +kernel)
theorem dX8_put_39 : decode cX8_put 39 = .ok (.getfield 16, 3) := dq_180 (by decide +kernel)
theorem dX8_put_42 : decode cX8_put 42 = .ok (.iload_n 1, 1) := dq_27 (by decide +kernel)
theorem dX8_put_43 : decode cX8_put 43 = .ok (.iload_n 3, 1) := dq_29 (by decide +kernel)
theorem dX8_put_44 : decode cX8_put 44 = .ok (.iastore, 1) := dq_79 (by decide +kernel)
theorem dX8_put_45 : decode cX8_put 45 = .ok (.iload_n 2, 1) := dq_28 (by decide +kernel)
theorem dX8_put_46 : decode cX8_put 46 = .ok (.iconst 2, 1) := dq_5 (by decide +kernel)
theorem dX8_put_47 : decode cX8_put 47 = .ok (.if_icmp .eq 8, 3) := dq_159 (by decide +kernel)
theorem dX8_put_50 : decode cX8_put 50 = .ok (.aload_n 0, 1) := dq_42 (by decide +kernel)
theorem dX8_put_51 : decode cX8_put 51 = .ok (.iload_n 1, 1) := dq_27 (by decide +kernel)
theorem dX8_put_52 : decode cX8_put 52 = .ok (.invokevirtual 98, 3) := dq_182 (by decide +kernel)
theorem dX8_put_55 : decode cX8_put 55 = .ok (.iconst 1, 1) := dq_4 (by decide +kernel)
theorem dX8_put_56 : decode cX8_put 56 = .ok (.ireturn, 1) := dq_172 (by decide +kernel)
theorem dX8_rate_0 : decode cX8_rate 0 = .ok (.aload_n 0, 1) := dq_42 (by decide +kernel)
theorem dX8_rate_1 : decode cX8_rate 1 = .ok (.iload_n 1, 1) := dq_27 (by decide +kernel)
theorem dX8_rate_2 : decode cX8_rate 2 = .ok (.invokevirtual 102, 3) := dq_182 (by decide +kernel)
theorem dX8_rate_5 : decode cX8_rate 5 = .ok (.astore 4, 2) := dq_58 (by decide +kernel)
theorem dX8_rate_7 : decode cX8_rate 7 = .ok (.aload 4, 2) := dq_25 (by decide +kernel)
theorem dX8_rate_9 : decode cX8_rate 9 = .ok (.ifnull 17, 3) := dq_198 (by decide +kernel)
theorem dX8_rate_12 : decode cX8_rate 12 = .ok (.iload_n 2, 1) := dq_28 (by decide +kernel)
theorem dX8_rate_13 : decode cX8_rate 13 = .ok (.invokestatic 84, 3) := dq_184 (by decide +kernel)
theorem dX8_rate_16 : decode cX8_rate 16 = .ok (.ifCond .eq 10, 3) := dq_153 (by decide +kernel)
theorem dX8_rate_19 : decode cX8_rate 19 = .ok (.iload_n 3, 1) := dq_29 (by decide +kernel)
theorem dX8_rate_20 : decode cX8_rate 20 = .ok (.invokestatic 125, 3) := dq_184 (by decide +kernel)
theorem dX8_rate_23 : decode cX8_rate 23 = .ok (.ifCond .ne 6, 3) := dq_154 (by decide +kernel)
theorem dX8_rate_26 : decode cX8_rate 26 = .ok (.ldc 110, 2) := dq_18 (by decide +kernel)
theorem dX8_rate_28 : decode cX8_rate 28 = .ok (.ireturn, 1) := dq_172 (by decide +kernel)
theorem dX8_rate_29 : decode cX8_rate 29 = .ok (.aload 4, 2) := dq_25 (by decide +kernel)
theorem dX8_rate_31 : decode cX8_rate 31 = .ok (.iload_n 2, 1) := dq_28 (by decide +kernel)
theorem dX8_rate_32 : decode cX8_rate 32 = .ok (.aload_n 0, 1) := dq_42 (by decide +kernel)
theorem dX8_rate_33 : decode cX8_rate 33 = .ok (.getfield 37, 3) := dq_180 (by decide +kernel)
theorem dX8_rate_36 : decode cX8_rate 36 = .ok (.iload_n 3, 1) := dq_29 (by decide +kernel)
theorem dX8_rate_37 : decode cX8_rate 37 = .ok (.invokevirtual 132, 3) := dq_182 (by decide +kernel)
theorem dX8_rate_40 : decode cX8_rate 40 = .ok (.ireturn, 1) := dq_172 (by decide +kernel)
theorem dX8_read_0 : decode cX8_read 0 = .ok (.iload_n 1, 1) := dq_27 (by decide +kernel)
theorem dX8_read_1 : decode cX8_read 1 = .ok (.invokestatic 92, 3) := dq_184 (by decide +kernel)
theorem dX8_read_4 : decode cX8_read 4 = .ok (.ifCond .eq 23, 3) := dq_153 (by decide +kernel)
theorem dX8_read_7 : decode cX8_read 7 = .ok (.aload_n 0, 1) := dq_42 (by decide +kernel)
theorem dX8_read_8 : decode cX8_read 8 = .ok (.getfield 13, 3) := dq_180 (by decide +kernel)
theorem dX8_read_11 : decode cX8_read 11 = .ok (.iload_n 1, 1) := dq_27 (by decide +kernel)
theorem dX8_read_12 : decode cX8_read 12 = .ok (.iaload, 1) := dq_46 (by decide +kernel)
theorem dX8_read_13 : decode cX8_read 13 = .ok (.iconst 1, 1) := dq_4 (by decide +kernel)
theorem dX8_read_14 : decode cX8_read 14 = .ok (.if_icmp .eq 16, 3) := dq_159 (by decide +kernel)
theorem dX8_read_17 : decode cX8_read 17 = .ok (.aload_n 0, 1) := dq_42 (by decide +kernel)
theorem dX8_read_18 : decode cX8_read 18 = .ok (.getfield 13, 3) := dq_180 (by decide +kernel)
theorem dX8_read_21 : decode cX8_read 21 = .ok (.iload_n 1, 1) := dq_27 (by decide +kernel)
theorem dX8_read_22 : decode cX8_read 22 = .ok (.iaload, 1) := dq_46 (by decide +kernel)
theorem dX8_read_23 : decode cX8_read 23 = .ok (.iconst 2, 1) := dq_5 (by decide +kernel)
theorem dX8_read_24 : decode cX8_read 24 = .ok (.if_icmp .eq 6, 3) := dq_159 (by decide +kernel)
theorem dX8_read_27 : decode cX8_read 27 = .ok (.ldc 110, 2) := dq_18 (by decide +kernel)
theorem dX8_read_29 : decode cX8_read 29 = .ok (.ireturn, 1) := dq_172 (by decide +kernel)
theorem dX8_read_30 : decode cX8_read 30 = .ok (.aload_n 0, 1) := dq_42 (by decide +kernel)
theorem dX8_read_31 : decode cX8_read 31 = .ok (.getfield 16, 3) := dq_180 (by decide +kernel)
theorem dX8_read_34 : decode cX8_read 34 = .ok (.iload_n 1, 1) := dq_27 (by decide +kernel)
theorem dX8_read_35 : decode cX8_read 35 = .ok (.iaload, 1) := dq_46 (by decide +kernel)
theorem dX8_read_36 : decode cX8_read 36 = .ok (.ireturn, 1) := dq_172 (by decide +kernel)
theorem dX8_refusalOfStretch_0 : decode cX8_refusalOfStretch 0 = .ok (.iload_n 1, 1) := dq_27 (by decide +kernel)
theorem dX8_refusalOfStretch_1 : decode cX8_refusalOfStretch 1 = .ok (.invokestatic 92, 3) := dq_184 (by decide +kernel)
theorem dX8_refusalOfStretch_4 : decode cX8_refusalOfStretch 4 = .ok (.ifCond .eq 11, 3) := dq_153 (by decide +kernel)
theorem dX8_refusalOfStretch_7 : decode cX8_refusalOfStretch 7 = .ok (.iload_n 2, 1) := dq_28 (by decide +kernel)
theorem dX8_refusalOfStretch_8 : decode cX8_refusalOfStretch 8 = .ok (.iload_n 3, 1) := dq_29 (by decide +kernel)
theorem dX8_refusalOfStretch_9 : decode cX8_refusalOfStretch 9 = .ok (.invokestatic 149, 3) := dq_184 (by decide +kernel)
theorem dX8_refusalOfStretch_12 : decode cX8_refusalOfStretch 12 = .ok (.ifCond .ne 5, 3) := dq_154 (by decide +kernel)
theorem dX8_refusalOfStretch_15 : decode cX8_refusalOfStretch 15 = .ok (.iconst (-1), 1) := dq_2 (by decide +kernel)
theorem dX8_refusalOfStretch_16 : decode cX8_refusalOfStretch 16 = .ok (.ireturn, 1) := dq_172 (by decide +kernel)
theorem dX8_refusalOfStretch_17 : decode cX8_refusalOfStretch 17 = .ok (.aload_n 0, 1) := dq_42 (by decide +kernel)
theorem dX8_refusalOfStretch_18 : decode cX8_refusalOfStretch 18 = .ok (.iload_n 1, 1) := dq_27 (by decide +kernel)
theorem dX8_refusalOfStretch_19 : decode cX8_refusalOfStretch 19 = .ok (.invokevirtual 102, 3) := dq_182 (by decide +kernel)
theorem dX8_refusalOfStretch_22 : decode cX8_refusalOfStretch 22 = .ok (.ifnonnull 11, 3) := dq_199 (by decide +kernel)
theorem dX8_refusalOfStretch_25 : decode cX8_refusalOfStretch 25 = .ok (.aload_n 0, 1) := dq_42 (by decide +kernel)
theorem dX8_refusalOfStretch_26 : decode cX8_refusalOfStretch 26 = .ok (.iload_n 1, 1) := dq_27 (by decide +kernel)
theorem dX8_refusalOfStretch_27 : decode cX8_refusalOfStretch 27 = .ok (.invokevirtual 115, 3) := dq_182 (by decide +kernel)
theorem dX8_refusalOfStretch_30 : decode cX8_refusalOfStretch 30 = .ok (.goto 4, 3) := dq_167 (by decide +kernel)
theorem dX8_refusalOfStretch_33 : decode cX8_refusalOfStretch 33 = .ok (.iconst 0, 1) := dq_3 (by decide +kernel)
theorem dX8_refusalOfStretch_34 : decode cX8_refusalOfStretch 34 = .ok (.ireturn, 1) := dq_172 (by decide +kernel)
theorem dX8_repair_0 : decode cX8_repair 0 = .ok (.aload_n 0, 1) := dq_42 (by decide +kernel)
theorem dX8_repair_1 : decode cX8_repair 1 = .ok (.iload_n 1, 1) := dq_27 (by decide +kernel)
theorem dX8_repair_2 : decode cX8_repair 2 = .ok (.iload_n 2, 1) := dq_28 (by decide +kernel)
theorem dX8_repair_3 : decode cX8_repair 3 = .ok (.iconst 1, 1) := dq_4 (by decide +kernel)
theorem dX8_repair_4 : decode cX8_repair 4 = .ok (.invokevirtual 135, 3) := dq_182 (by decide +kernel)
theorem dX8_repair_7 : decode cX8_repair 7 = .ok (.ireturn, 1) := dq_172 (by decide +kernel)
theorem dX8_rule_0 : decode cX8_rule 0 = .ok (.iload_n 1, 1) := dq_27 (by decide +kernel)
theorem dX8_rule_1 : decode cX8_rule 1 = .ok (.ifCond .eq 10, 3) := dq_153 (by decide +kernel)
theorem dX8_rule_4 : decode cX8_rule 4 = .ok (.iload_n 1, 1) := dq_27 (by decide +kernel)
theorem dX8_rule_5 : decode cX8_rule 5 = .ok (.iconst 1, 1) := dq_4 (by decide +kernel)
theorem dX8_rule_6 : decode cX8_rule 6 = .ok (.if_icmp .eq 5, 3) := dq_159 (by decide +kernel)
theorem dX8_rule_9 : decode cX8_rule 9 = .ok (.iconst (-1), 1) := dq_2 (by decide +kernel)
theorem dX8_rule_10 : decode cX8_rule 10 = .ok (.ireturn, 1) := dq_172 (by decide +kernel)
theorem dX8_rule_11 : decode cX8_rule 11 = .ok (.aload_n 0, 1) := dq_42 (by decide +kernel)
theorem dX8_rule_12 : decode cX8_rule 12 = .ok (.getfield 58, 3) := dq_180 (by decide +kernel)
theorem dX8_rule_15 : decode cX8_rule 15 = .ok (.iload_n 1, 1) := dq_27 (by decide +kernel)
theorem dX8_rule_16 : decode cX8_rule 16 = .ok (.ifCond .ne 8, 3) := dq_154 (by decide +kernel)
theorem dX8_rule_19 : decode cX8_rule 19 = .ok (.ldc 182, 2) := dq_18 (by decide +kernel)
theorem dX8_rule_21 : decode cX8_rule 21 = .ok (.goto 5, 3) := dq_167 (by decide +kernel)
theorem dX8_rule_24 : decode cX8_rule 24 = .ok (.ldc 184, 2) := dq_18 (by decide +kernel)
theorem dX8_rule_26 : decode cX8_rule 26 = .ok (.invokevirtual 186, 3) := dq_182 (by decide +kernel)
theorem dX8_rule_29 : decode cX8_rule 29 = .ok (.istore_n 2, 1) := dq_61 (by decide +kernel)
theorem dX8_rule_30 : decode cX8_rule 30 = .ok (.aload_n 0, 1) := dq_42 (by decide +kernel)
theorem dX8_rule_31 : decode cX8_rule 31 = .ok (.getfield 58, 3) := dq_180 (by decide +kernel)
theorem dX8_rule_34 : decode cX8_rule 34 = .ok (.iconst 0, 1) := dq_3 (by decide +kernel)
theorem dX8_rule_35 : decode cX8_rule 35 = .ok (.putfield 179, 3) := dq_181 (by decide +kernel)
theorem dX8_rule_38 : decode cX8_rule 38 = .ok (.iload_n 2, 1) := dq_28 (by decide +kernel)
theorem dX8_rule_39 : decode cX8_rule 39 = .ok (.iconst (-1), 1) := dq_2 (by decide +kernel)
theorem dX8_rule_40 : decode cX8_rule 40 = .ok (.if_icmp .eq 8, 3) := dq_159 (by decide +kernel)
theorem dX8_rule_43 : decode cX8_rule 43 = .ok (.bipush (-100), 2) := dq_16 (by decide +kernel)
theorem dX8_rule_45 : decode cX8_rule 45 = .ok (.iload_n 2, 1) := dq_28 (by decide +kernel)
theorem dX8_rule_46 : decode cX8_rule 46 = .ok (.isub, 1) := dq_100 (by decide +kernel)
theorem dX8_rule_47 : decode cX8_rule 47 = .ok (.ireturn, 1) := dq_172 (by decide +kernel)
theorem dX8_rule_48 : decode cX8_rule 48 = .ok (.iload_n 1, 1) := dq_27 (by decide +kernel)
theorem dX8_rule_49 : decode cX8_rule 49 = .ok (.ifCond .ne 21, 3) := dq_154 (by decide +kernel)
theorem dX8_rule_52 : decode cX8_rule 52 = .ok (.aload_n 0, 1) := dq_42 (by decide +kernel)
theorem dX8_rule_53 : decode cX8_rule 53 = .ok (.aload_n 0, 1) := dq_42 (by decide +kernel)
theorem dX8_rule_54 : decode cX8_rule 54 = .ok (.getfield 58, 3) := dq_180 (by decide +kernel)
theorem dX8_rule_57 : decode cX8_rule 57 = .ok (.aload_n 0, 1) := dq_42 (by decide +kernel)
theorem dX8_rule_58 : decode cX8_rule 58 = .ok (.getfield 72, 3) := dq_180 (by decide +kernel)
theorem dX8_rule_61 : decode cX8_rule 61 = .ok (.invokevirtual 190, 3) := dq_182 (by decide +kernel)
theorem dX8_rule_64 : decode cX8_rule 64 = .ok (.putfield 72, 3) := dq_181 (by decide +kernel)
theorem dX8_rule_67 : decode cX8_rule 67 = .ok (.goto 18, 3) := dq_167 (by decide +kernel)
theorem dX8_rule_70 : decode cX8_rule 70 = .ok (.aload_n 0, 1) := dq_42 (by decide +kernel)
theorem dX8_rule_71 : decode cX8_rule 71 = .ok (.aload_n 0, 1) := dq_42 (by decide +kernel)
theorem dX8_rule_72 : decode cX8_rule 72 = .ok (.getfield 58, 3) := dq_180 (by decide +kernel)
theorem dX8_rule_75 : decode cX8_rule 75 = .ok (.aload_n 0, 1) := dq_42 (by decide +kernel)
theorem dX8_rule_76 : decode cX8_rule 76 = .ok (.getfield 76, 3) := dq_180 (by decide +kernel)
theorem dX8_rule_79 : decode cX8_rule 79 = .ok (.invokevirtual 190, 3) := dq_182 (by decide +kernel)
theorem dX8_rule_82 : decode cX8_rule 82 = .ok (.putfield 76, 3) := dq_181 (by decide +kernel)
theorem dX8_rule_85 : decode cX8_rule 85 = .ok (.iconst 1, 1) := dq_4 (by decide +kernel)
theorem dX8_rule_86 : decode cX8_rule 86 = .ok (.ireturn, 1) := dq_172 (by decide +kernel)
theorem dX8_sail_0 : decode cX8_sail 0 = .ok (.iload_n 1, 1) := dq_27 (by decide +kernel)
theorem dX8_sail_1 : decode cX8_sail 1 = .ok (.invokestatic 202, 3) := dq_184 (by decide +kernel)
theorem dX8_sail_4 : decode cX8_sail 4 = .ok (.ifCond .eq 42, 3) := dq_153 (by decide +kernel)
theorem dX8_sail_7 : decode cX8_sail 7 = .ok (.iload_n 2, 1) := dq_28 (by decide +kernel)
theorem dX8_sail_8 : decode cX8_sail 8 = .ok (.invokestatic 92, 3) := dq_184 (by decide +kernel)
theorem dX8_sail_11 : decode cX8_sail 11 = .ok (.ifCond .eq 35, 3) := dq_153 (by decide +kernel)
theorem dX8_sail_14 : decode cX8_sail 14 = .ok (.iload_n 3, 1) := dq_29 (by decide +kernel)
theorem dX8_sail_15 : decode cX8_sail 15 = .ok (.invokestatic 92, 3) := dq_184 (by decide +kernel)
theorem dX8_sail_18 : decode cX8_sail 18 = .ok (.ifCond .eq 28, 3) := dq_153 (by decide +kernel)
theorem dX8_sail_21 : decode cX8_sail 21 = .ok (.iload 4, 2) := dq_21 (by decide +kernel)
theorem dX8_sail_23 : decode cX8_sail 23 = .ok (.invokestatic 92, 3) := dq_184 (by decide +kernel)
theorem dX8_sail_26 : decode cX8_sail 26 = .ok (.ifCond .eq 20, 3) := dq_153 (by decide +kernel)
theorem dX8_sail_29 : decode cX8_sail 29 = .ok (.iload_n 2, 1) := dq_28 (by decide +kernel)
theorem dX8_sail_30 : decode cX8_sail 30 = .ok (.iload_n 3, 1) := dq_29 (by decide +kernel)
theorem dX8_sail_31 : decode cX8_sail 31 = .ok (.if_icmp .eq 15, 3) := dq_159 (by decide +kernel)
theorem dX8_sail_34 : decode cX8_sail 34 = .ok (.iload_n 2, 1) := dq_28 (by decide +kernel)
theorem dX8_sail_35 : decode cX8_sail 35 = .ok (.iload 4, 2) := dq_21 (by decide +kernel)
theorem dX8_sail_37 : decode cX8_sail 37 = .ok (.if_icmp .eq 9, 3) := dq_159 (by decide +kernel)
theorem dX8_sail_40 : decode cX8_sail 40 = .ok (.iload_n 3, 1) := dq_29 (by decide +kernel)
theorem dX8_sail_41 : decode cX8_sail 41 = .ok (.iload 4, 2) := dq_21 (by decide +kernel)
theorem dX8_sail_43 : decode cX8_sail 43 = .ok (.if_icmp .ne 5, 3) := dq_160 (by decide +kernel)
theorem dX8_sail_46 : decode cX8_sail 46 = .ok (.iconst (-1), 1) := dq_2 (by decide +kernel)
theorem dX8_sail_47 : decode cX8_sail 47 = .ok (.ireturn, 1) := dq_172 (by decide +kernel)
theorem dX8_sail_48 : decode cX8_sail 48 = .ok (.aload_n 0, 1) := dq_42 (by decide +kernel)
theorem dX8_sail_49 : decode cX8_sail 49 = .ok (.iload_n 2, 1) := dq_28 (by decide +kernel)
theorem dX8_sail_50 : decode cX8_sail 50 = .ok (.iload_n 3, 1) := dq_29 (by decide +kernel)
theorem dX8_sail_51 : decode cX8_sail 51 = .ok (.iload 4, 2) := dq_21 (by decide +kernel)
theorem dX8_sail_53 : decode cX8_sail 53 = .ok (.invokevirtual 205, 3) := dq_182 (by decide +kernel)
theorem dX8_sail_56 : decode cX8_sail 56 = .ok (.istore 5, 2) := dq_54 (by decide +kernel)
theorem dX8_sail_58 : decode cX8_sail 58 = .ok (.iload 5, 2) := dq_21 (by decide +kernel)
theorem dX8_sail_60 : decode cX8_sail 60 = .ok (.ifCond .eq 6, 3) := dq_153 (by decide +kernel)
theorem dX8_sail_63 : decode cX8_sail 63 = .ok (.iload 5, 2) := dq_21 (by decide +kernel)
theorem dX8_sail_65 : decode cX8_sail 65 = .ok (.ireturn, 1) := dq_172 (by decide +kernel)
theorem dX8_sail_66 : decode cX8_sail 66 = .ok (.aload_n 0, 1) := dq_42 (by decide +kernel)
theorem dX8_sail_67 : decode cX8_sail 67 = .ok (.getfield 27, 3) := dq_180 (by decide +kernel)
theorem dX8_sail_70 : decode cX8_sail 70 = .ok (.iload_n 1, 1) := dq_27 (by decide +kernel)
theorem dX8_sail_71 : decode cX8_sail 71 = .ok (.aaload, 1) := dq_50 (by decide +kernel)
theorem dX8_sail_72 : decode cX8_sail 72 = .ok (.astore 6, 2) := dq_58 (by decide +kernel)
theorem dX8_sail_74 : decode cX8_sail 74 = .ok (.aload 6, 2) := dq_25 (by decide +kernel)
theorem dX8_sail_76 : decode cX8_sail 76 = .ok (.getfield 208, 3) := dq_180 (by decide +kernel)
theorem dX8_sail_79 : decode cX8_sail 79 = .ok (.iconst 1, 1) := dq_4 (by decide +kernel)
theorem dX8_sail_80 : decode cX8_sail 80 = .ok (.if_icmp .eq 28, 3) := dq_159 (by decide +kernel)
theorem dX8_sail_83 : decode cX8_sail 83 = .ok (.aload_n 0, 1) := dq_42 (by decide +kernel)
theorem dX8_sail_84 : decode cX8_sail 84 = .ok (.iload_n 2, 1) := dq_28 (by decide +kernel)
theorem dX8_sail_85 : decode cX8_sail 85 = .ok (.invokevirtual 211, 3) := dq_182 (by decide +kernel)
theorem dX8_sail_88 : decode cX8_sail 88 = .ok (.ifCond .eq 20, 3) := dq_153 (by decide +kernel)
theorem dX8_sail_91 : decode cX8_sail 91 = .ok (.aload_n 0, 1) := dq_42 (by decide +kernel)
theorem dX8_sail_92 : decode cX8_sail 92 = .ok (.iload_n 3, 1) := dq_29 (by decide +kernel)
theorem dX8_sail_93 : decode cX8_sail 93 = .ok (.invokevirtual 211, 3) := dq_182 (by decide +kernel)
theorem dX8_sail_96 : decode cX8_sail 96 = .ok (.ifCond .eq 12, 3) := dq_153 (by decide +kernel)
theorem dX8_sail_99 : decode cX8_sail 99 = .ok (.aload_n 0, 1) := dq_42 (by decide +kernel)
theorem dX8_sail_100 : decode cX8_sail 100 = .ok (.iload 4, 2) := dq_21 (by decide +kernel)
theorem dX8_sail_102 : decode cX8_sail 102 = .ok (.invokevirtual 211, 3) := dq_182 (by decide +kernel)
theorem dX8_sail_105 : decode cX8_sail 105 = .ok (.ifCond .ne 6, 3) := dq_154 (by decide +kernel)
theorem dX8_sail_108 : decode cX8_sail 108 = .ok (.bipush (-4), 2) := dq_16 (by decide +kernel)
theorem dX8_sail_110 : decode cX8_sail 110 = .ok (.ireturn, 1) := dq_172 (by decide +kernel)
theorem dX8_sail_111 : decode cX8_sail 111 = .ok (.aload 6, 2) := dq_25 (by decide +kernel)
theorem dX8_sail_113 : decode cX8_sail 113 = .ok (.aload_n 0, 1) := dq_42 (by decide +kernel)
theorem dX8_sail_114 : decode cX8_sail 114 = .ok (.getfield 79, 3) := dq_180 (by decide +kernel)
theorem dX8_sail_117 : decode cX8_sail 117 = .ok (.invokevirtual 214, 3) := dq_182 (by decide +kernel)
theorem dX8_sail_120 : decode cX8_sail 120 = .ok (.aload_n 0, 1) := dq_42 (by decide +kernel)
theorem dX8_sail_121 : decode cX8_sail 121 = .ok (.iload_n 1, 1) := dq_27 (by decide +kernel)
theorem dX8_sail_122 : decode cX8_sail 122 = .ok (.iconst 0, 1) := dq_3 (by decide +kernel)
theorem dX8_sail_123 : decode cX8_sail 123 = .ok (.iload_n 2, 1) := dq_28 (by decide +kernel)
theorem dX8_sail_124 : decode cX8_sail 124 = .ok (.invokevirtual 217, 3) := dq_182 (by decide +kernel)
theorem dX8_sail_127 : decode cX8_sail 127 = .ok (.aload_n 0, 1) := dq_42 (by decide +kernel)
theorem dX8_sail_128 : decode cX8_sail 128 = .ok (.iload_n 1, 1) := dq_27 (by decide +kernel)
theorem dX8_sail_129 : decode cX8_sail 129 = .ok (.iconst 1, 1) := dq_4 (by decide +kernel)
theorem dX8_sail_130 : decode cX8_sail 130 = .ok (.iload_n 3, 1) := dq_29 (by decide +kernel)
theorem dX8_sail_131 : decode cX8_sail 131 = .ok (.invokevirtual 217, 3) := dq_182 (by decide +kernel)
theorem dX8_sail_134 : decode cX8_sail 134 = .ok (.aload_n 0, 1) := dq_42 (by decide +kernel)
theorem dX8_sail_135 : decode cX8_sail 135 = .ok (.iload_n 1, 1) := dq_27 (by decide +kernel)
theorem dX8_sail_136 : decode cX8_sail 136 = .ok (.iconst 2, 1) := dq_5 (by decide +kernel)
theorem dX8_sail_137 : decode cX8_sail 137 = .ok (.iload 4, 2) := dq_21 (by decide +kernel)
theorem dX8_sail_139 : decode cX8_sail 139 = .ok (.invokevirtual 217, 3) := dq_182 (by decide +kernel)
theorem dX8_sail_142 : decode cX8_sail 142 = .ok (.iconst 1, 1) := dq_4 (by decide +kernel)
theorem dX8_sail_143 : decode cX8_sail 143 = .ok (.ireturn, 1) := dq_172 (by decide +kernel)
theorem dX8_shipsAtSea_0 : decode cX8_shipsAtSea 0 = .ok (.iconst 0, 1) := dq_3 (by decide +kernel)
theorem dX8_shipsAtSea_1 : decode cX8_shipsAtSea 1 = .ok (.istore_n 1, 1) := dq_60 (by decide +kernel)
theorem dX8_shipsAtSea_2 : decode cX8_shipsAtSea 2 = .ok (.iconst 0, 1) := dq_3 (by decide +kernel)
theorem dX8_shipsAtSea_3 : decode cX8_shipsAtSea 3 = .ok (.istore_n 2, 1) := dq_61 (by decide +kernel)
theorem dX8_shipsAtSea_4 : decode cX8_shipsAtSea 4 = .ok (.iload_n 2, 1) := dq_28 (by decide +kernel)
theorem dX8_shipsAtSea_5 : decode cX8_shipsAtSea 5 = .ok (.iconst 5, 1) := dq_8 (by decide +kernel)
theorem dX8_shipsAtSea_6 : decode cX8_shipsAtSea 6 = .ok (.if_icmp .ge 25, 3) := dq_162 (by decide +kernel)
theorem dX8_shipsAtSea_9 : decode cX8_shipsAtSea 9 = .ok (.aload_n 0, 1) := dq_42 (by decide +kernel)
theorem dX8_shipsAtSea_10 : decode cX8_shipsAtSea 10 = .ok (.getfield 27, 3) := dq_180 (by decide +kernel)
theorem dX8_shipsAtSea_13 : decode cX8_shipsAtSea 13 = .ok (.iload_n 2, 1) := dq_28 (by decide +kernel)
theorem dX8_shipsAtSea_14 : decode cX8_shipsAtSea 14 = .ok (.aaload, 1) := dq_50 (by decide +kernel)
theorem dX8_shipsAtSea_15 : decode cX8_shipsAtSea 15 = .ok (.getfield 208, 3) := dq_180 (by decide +kernel)
theorem dX8_shipsAtSea_18 : decode cX8_shipsAtSea 18 = .ok (.iconst 1, 1) := dq_4 (by decide +kernel)
theorem dX8_shipsAtSea_19 : decode cX8_shipsAtSea 19 = .ok (.if_icmp .ne 6, 3) := dq_160 (by decide +kernel)
theorem dX8_shipsAtSea_22 : decode cX8_shipsAtSea 22 = .ok (.iinc 1 1, 3) := dq_132 (by decide +kernel)
theorem dX8_shipsAtSea_25 : decode cX8_shipsAtSea 25 = .ok (.iinc 2 1, 3) := dq_132 (by decide +kernel)
theorem dX8_shipsAtSea_28 : decode cX8_shipsAtSea 28 = .ok (.goto (-24), 3) := dq_167 (by decide +kernel)
theorem dX8_shipsAtSea_31 : decode cX8_shipsAtSea 31 = .ok (.iload_n 1, 1) := dq_27 (by decide +kernel)
theorem dX8_shipsAtSea_32 : decode cX8_shipsAtSea 32 = .ok (.ireturn, 1) := dq_172 (by decide +kernel)
theorem dX8_sight_0 : decode cX8_sight 0 = .ok (.iload_n 1, 1) := dq_27 (by decide +kernel)
theorem dX8_sight_1 : decode cX8_sight 1 = .ok (.invokestatic 202, 3) := dq_184 (by decide +kernel)
theorem dX8_sight_4 : decode cX8_sight 4 = .ok (.ifCond .eq 40, 3) := dq_153 (by decide +kernel)
theorem dX8_sight_7 : decode cX8_sight 7 = .ok (.aload_n 0, 1) := dq_42 (by decide +kernel)
theorem dX8_sight_8 : decode cX8_sight 8 = .ok (.iload_n 2, 1) := dq_28 (by decide +kernel)
theorem dX8_sight_9 : decode cX8_sight 9 = .ok (.invokevirtual 111, 3) := dq_182 (by decide +kernel)
theorem dX8_sight_12 : decode cX8_sight 12 = .ok (.ifCond .eq 32, 3) := dq_153 (by decide +kernel)
theorem dX8_sight_15 : decode cX8_sight 15 = .ok (.iload_n 3, 1) := dq_29 (by decide +kernel)
theorem dX8_sight_16 : decode cX8_sight 16 = .ok (.ldc 232, 2) := dq_18 (by decide +kernel)
theorem dX8_sight_18 : decode cX8_sight 18 = .ok (.invokestatic 88, 3) := dq_184 (by decide +kernel)
theorem dX8_sight_21 : decode cX8_sight 21 = .ok (.ifCond .eq 23, 3) := dq_153 (by decide +kernel)
theorem dX8_sight_24 : decode cX8_sight 24 = .ok (.iload 4, 2) := dq_21 (by decide +kernel)
theorem dX8_sight_26 : decode cX8_sight 26 = .ok (.ldc 232, 2) := dq_18 (by decide +kernel)
theorem dX8_sight_28 : decode cX8_sight 28 = .ok (.invokestatic 88, 3) := dq_184 (by decide +kernel)
theorem dX8_sight_31 : decode cX8_sight 31 = .ok (.ifCond .eq 13, 3) := dq_153 (by decide +kernel)
theorem dX8_sight_34 : decode cX8_sight 34 = .ok (.iload 5, 2) := dq_21 (by decide +kernel)
theorem dX8_sight_36 : decode cX8_sight 36 = .ok (.ldc 232, 2) := dq_18 (by decide +kernel)
theorem dX8_sight_38 : decode cX8_sight 38 = .ok (.invokestatic 88, 3) := dq_184 (by decide +kernel)
theorem dX8_sight_41 : decode cX8_sight 41 = .ok (.ifCond .ne 5, 3) := dq_154 (by decide +kernel)
theorem dX8_sight_44 : decode cX8_sight 44 = .ok (.iconst (-1), 1) := dq_2 (by decide +kernel)
theorem dX8_sight_45 : decode cX8_sight 45 = .ok (.ireturn, 1) := dq_172 (by decide +kernel)
theorem dX8_sight_46 : decode cX8_sight 46 = .ok (.aload_n 0, 1) := dq_42 (by decide +kernel)
theorem dX8_sight_47 : decode cX8_sight 47 = .ok (.getfield 27, 3) := dq_180 (by decide +kernel)
theorem dX8_sight_50 : decode cX8_sight 50 = .ok (.iload_n 1, 1) := dq_27 (by decide +kernel)
theorem dX8_sight_51 : decode cX8_sight 51 = .ok (.aaload, 1) := dq_50 (by decide +kernel)
theorem dX8_sight_52 : decode cX8_sight 52 = .ok (.astore 6, 2) := dq_58 (by decide +kernel)
theorem dX8_sight_54 : decode cX8_sight 54 = .ok (.aload 6, 2) := dq_25 (by decide +kernel)
theorem dX8_sight_56 : decode cX8_sight 56 = .ok (.iload_n 2, 1) := dq_28 (by decide +kernel)
theorem dX8_sight_57 : decode cX8_sight 57 = .ok (.invokevirtual 233, 3) := dq_182 (by decide +kernel)
theorem dX8_sight_60 : decode cX8_sight 60 = .ok (.ifCond .ne 5, 3) := dq_154 (by decide +kernel)
theorem dX8_sight_63 : decode cX8_sight 63 = .ok (.iconst (-1), 1) := dq_2 (by decide +kernel)
theorem dX8_sight_64 : decode cX8_sight 64 = .ok (.ireturn, 1) := dq_172 (by decide +kernel)
theorem dX8_sight_65 : decode cX8_sight 65 = .ok (.aload 6, 2) := dq_25 (by decide +kernel)
theorem dX8_sight_67 : decode cX8_sight 67 = .ok (.getfield 208, 3) := dq_180 (by decide +kernel)
theorem dX8_sight_70 : decode cX8_sight 70 = .ok (.iconst 1, 1) := dq_4 (by decide +kernel)
theorem dX8_sight_71 : decode cX8_sight 71 = .ok (.if_icmp .eq 6, 3) := dq_159 (by decide +kernel)
theorem dX8_sight_74 : decode cX8_sight 74 = .ok (.bipush (-4), 2) := dq_16 (by decide +kernel)
theorem dX8_sight_76 : decode cX8_sight 76 = .ok (.ireturn, 1) := dq_172 (by decide +kernel)
theorem dX8_sight_77 : decode cX8_sight 77 = .ok (.aload 6, 2) := dq_25 (by decide +kernel)
theorem dX8_sight_79 : decode cX8_sight 79 = .ok (.getfield 236, 3) := dq_180 (by decide +kernel)
theorem dX8_sight_82 : decode cX8_sight 82 = .ok (.bipush 40, 2) := dq_16 (by decide +kernel)
theorem dX8_sight_84 : decode cX8_sight 84 = .ok (.if_icmp .lt 6, 3) := dq_161 (by decide +kernel)
theorem dX8_sight_87 : decode cX8_sight 87 = .ok (.bipush (-5), 2) := dq_16 (by decide +kernel)
theorem dX8_sight_89 : decode cX8_sight 89 = .ok (.ireturn, 1) := dq_172 (by decide +kernel)
theorem dX8_sight_90 : decode cX8_sight 90 = .ok (.aload 6, 2) := dq_25 (by decide +kernel)
theorem dX8_sight_92 : decode cX8_sight 92 = .ok (.iload_n 2, 1) := dq_28 (by decide +kernel)
theorem dX8_sight_93 : decode cX8_sight 93 = .ok (.iload_n 3, 1) := dq_29 (by decide +kernel)
theorem dX8_sight_94 : decode cX8_sight 94 = .ok (.iload 4, 2) := dq_21 (by decide +kernel)
theorem dX8_sight_96 : decode cX8_sight 96 = .ok (.iload 5, 2) := dq_21 (by decide +kernel)
theorem dX8_sight_98 : decode cX8_sight 98 = .ok (.invokevirtual 239, 3) := dq_182 (by decide +kernel)
theorem dX8_sight_101 : decode cX8_sight 101 = .ok (.ireturn, 1) := dq_172 (by decide +kernel)
theorem dX8_state_0 : decode cX8_state 0 = .ok (.iload_n 1, 1) := dq_27 (by decide +kernel)
theorem dX8_state_1 : decode cX8_state 1 = .ok (.invokestatic 202, 3) := dq_184 (by decide +kernel)
theorem dX8_state_4 : decode cX8_state 4 = .ok (.ifCond .eq 15, 3) := dq_153 (by decide +kernel)
theorem dX8_state_7 : decode cX8_state 7 = .ok (.aload_n 0, 1) := dq_42 (by decide +kernel)
theorem dX8_state_8 : decode cX8_state 8 = .ok (.getfield 27, 3) := dq_180 (by decide +kernel)
theorem dX8_state_11 : decode cX8_state 11 = .ok (.iload_n 1, 1) := dq_27 (by decide +kernel)
theorem dX8_state_12 : decode cX8_state 12 = .ok (.aaload, 1) := dq_50 (by decide +kernel)
theorem dX8_state_13 : decode cX8_state 13 = .ok (.getfield 208, 3) := dq_180 (by decide +kernel)
theorem dX8_state_16 : decode cX8_state 16 = .ok (.goto 4, 3) := dq_167 (by decide +kernel)
theorem dX8_state_19 : decode cX8_state 19 = .ok (.iconst (-1), 1) := dq_2 (by decide +kernel)
theorem dX8_state_20 : decode cX8_state 20 = .ok (.ireturn, 1) := dq_172 (by decide +kernel)
theorem dX8_take_0 : decode cX8_take 0 = .ok (.iload_n 1, 1) := dq_27 (by decide +kernel)
theorem dX8_take_1 : decode cX8_take 1 = .ok (.invokestatic 92, 3) := dq_184 (by decide +kernel)
theorem dX8_take_4 : decode cX8_take 4 = .ok (.ifCond .ne 5, 3) := dq_154 (by decide +kernel)
theorem dX8_take_7 : decode cX8_take 7 = .ok (.iconst (-1), 1) := dq_2 (by decide +kernel)
theorem dX8_take_8 : decode cX8_take 8 = .ok (.ireturn, 1) := dq_172 (by decide +kernel)
theorem dX8_take_9 : decode cX8_take 9 = .ok (.aload_n 0, 1) := dq_42 (by decide +kernel)
theorem dX8_take_10 : decode cX8_take 10 = .ok (.getfield 13, 3) := dq_180 (by decide +kernel)
theorem dX8_take_13 : decode cX8_take 13 = .ok (.iload_n 1, 1) := dq_27 (by decide +kernel)
theorem dX8_take_14 : decode cX8_take 14 = .ok (.iaload, 1) := dq_46 (by decide +kernel)
theorem dX8_take_15 : decode cX8_take 15 = .ok (.bipush (-5), 2) := dq_16 (by decide +kernel)
theorem dX8_take_17 : decode cX8_take 17 = .ok (.if_icmp .ne 6, 3) := dq_160 (by decide +kernel)
theorem dX8_take_20 : decode cX8_take 20 = .ok (.bipush (-2), 2) := dq_16 (by decide +kernel)
theorem dX8_take_22 : decode cX8_take 22 = .ok (.ireturn, 1) := dq_172 (by decide +kernel)
theorem dX8_take_23 : decode cX8_take 23 = .ok (.aload_n 0, 1) := dq_42 (by decide +kernel)
theorem dX8_take_24 : decode cX8_take 24 = .ok (.iload_n 1, 1) := dq_27 (by decide +kernel)
theorem dX8_take_25 : decode cX8_take 25 = .ok (.invokevirtual 102, 3) := dq_182 (by decide +kernel)
theorem dX8_take_28 : decode cX8_take 28 = .ok (.astore_n 2, 1) := dq_77 (by decide +kernel)
theorem dX8_take_29 : decode cX8_take 29 = .ok (.aload_n 2, 1) := dq_44 (by decide +kernel)
theorem dX8_take_30 : decode cX8_take 30 = .ok (.ifnull 18, 3) := dq_198 (by decide +kernel)
theorem dX8_take_33 : decode cX8_take 33 = .ok (.aload_n 2, 1) := dq_44 (by decide +kernel)
theorem dX8_take_34 : decode cX8_take 34 = .ok (.aload_n 0, 1) := dq_42 (by decide +kernel)
theorem dX8_take_35 : decode cX8_take 35 = .ok (.getfield 79, 3) := dq_180 (by decide +kernel)
theorem dX8_take_38 : decode cX8_take 38 = .ok (.invokevirtual 106, 3) := dq_182 (by decide +kernel)
theorem dX8_take_41 : decode cX8_take 41 = .ok (.iconst (-1), 1) := dq_2 (by decide +kernel)
theorem dX8_take_42 : decode cX8_take 42 = .ok (.if_icmp .eq 6, 3) := dq_159 (by decide +kernel)
theorem dX8_take_45 : decode cX8_take 45 = .ok (.bipush (-4), 2) := dq_16 (by decide +kernel)
theorem dX8_take_47 : decode cX8_take 47 = .ok (.ireturn, 1) := dq_172 (by decide +kernel)
theorem dX8_take_48 : decode cX8_take 48 = .ok (.aload_n 0, 1) := dq_42 (by decide +kernel)
theorem dX8_take_49 : decode cX8_take 49 = .ok (.getfield 13, 3) := dq_180 (by decide +kernel)
theorem dX8_take_52 : decode cX8_take 52 = .ok (.iload_n 1, 1) := dq_27 (by decide +kernel)
theorem dX8_take_53 : decode cX8_take 53 = .ok (.bipush (-5), 2) := dq_16 (by decide +kernel)
theorem dX8_take_55 : decode cX8_take 55 = .ok (.iastore, 1) := dq_79 (by decide +kernel)
theorem dX8_take_56 : decode cX8_take 56 = .ok (.iconst 1, 1) := dq_4 (by decide +kernel)
theorem dX8_take_57 : decode cX8_take 57 = .ok (.ireturn, 1) := dq_172 (by decide +kernel)
theorem dX8_terms_0 : decode cX8_terms 0 = .ok (.aload_n 0, 1) := dq_42 (by decide +kernel)
theorem dX8_terms_1 : decode cX8_terms 1 = .ok (.iload_n 1, 1) := dq_27 (by decide +kernel)
theorem dX8_terms_2 : decode cX8_terms 2 = .ok (.iload_n 2, 1) := dq_28 (by decide +kernel)
theorem dX8_terms_3 : decode cX8_terms 3 = .ok (.iload_n 3, 1) := dq_29 (by decide +kernel)
theorem dX8_terms_4 : decode cX8_terms 4 = .ok (.invokevirtual 152, 3) := dq_182 (by decide +kernel)
theorem dX8_terms_7 : decode cX8_terms 7 = .ok (.istore 4, 2) := dq_54 (by decide +kernel)
theorem dX8_terms_9 : decode cX8_terms 9 = .ok (.iload 4, 2) := dq_21 (by decide +kernel)
theorem dX8_terms_11 : decode cX8_terms 11 = .ok (.ifCond .eq 6, 3) := dq_153 (by decide +kernel)
theorem dX8_terms_14 : decode cX8_terms 14 = .ok (.iload 4, 2) := dq_21 (by decide +kernel)
theorem dX8_terms_16 : decode cX8_terms 16 = .ok (.ireturn, 1) := dq_172 (by decide +kernel)
theorem dX8_terms_17 : decode cX8_terms 17 = .ok (.aload_n 0, 1) := dq_42 (by decide +kernel)
theorem dX8_terms_18 : decode cX8_terms 18 = .ok (.iload_n 1, 1) := dq_27 (by decide +kernel)
theorem dX8_terms_19 : decode cX8_terms 19 = .ok (.iload_n 2, 1) := dq_28 (by decide +kernel)
theorem dX8_terms_20 : decode cX8_terms 20 = .ok (.iload_n 3, 1) := dq_29 (by decide +kernel)
theorem dX8_terms_21 : decode cX8_terms 21 = .ok (.invokevirtual 155, 3) := dq_182 (by decide +kernel)
theorem dX8_terms_24 : decode cX8_terms 24 = .ok (.aload_n 0, 1) := dq_42 (by decide +kernel)
theorem dX8_terms_25 : decode cX8_terms 25 = .ok (.getfield 51, 3) := dq_180 (by decide +kernel)
theorem dX8_terms_28 : decode cX8_terms 28 = .ok (.invokevirtual 158, 3) := dq_182 (by decide +kernel)
theorem dX8_terms_31 : decode cX8_terms 31 = .ok (.ifCond .ne 8, 3) := dq_154 (by decide +kernel)
theorem dX8_terms_34 : decode cX8_terms 34 = .ok (.bipush (-4), 2) := dq_16 (by decide +kernel)
theorem dX8_terms_36 : decode cX8_terms 36 = .ok (.goto 10, 3) := dq_167 (by decide +kernel)
theorem dX8_terms_39 : decode cX8_terms 39 = .ok (.aload_n 0, 1) := dq_42 (by decide +kernel)
theorem dX8_terms_40 : decode cX8_terms 40 = .ok (.getfield 51, 3) := dq_180 (by decide +kernel)
theorem dX8_terms_43 : decode cX8_terms 43 = .ok (.invokevirtual 161, 3) := dq_182 (by decide +kernel)
theorem dX8_terms_46 : decode cX8_terms 46 = .ok (.ireturn, 1) := dq_172 (by decide +kernel)
theorem dX8_told_0 : decode cX8_told 0 = .ok (.iload_n 1, 1) := dq_27 (by decide +kernel)
theorem dX8_told_1 : decode cX8_told 1 = .ok (.invokestatic 202, 3) := dq_184 (by decide +kernel)
theorem dX8_told_4 : decode cX8_told 4 = .ok (.ifCond .eq 30, 3) := dq_153 (by decide +kernel)
theorem dX8_told_7 : decode cX8_told 7 = .ok (.iload_n 2, 1) := dq_28 (by decide +kernel)
theorem dX8_told_8 : decode cX8_told 8 = .ok (.ifCond .lt 26, 3) := dq_155 (by decide +kernel)
theorem dX8_told_11 : decode cX8_told 11 = .ok (.iload_n 2, 1) := dq_28 (by decide +kernel)
theorem dX8_told_12 : decode cX8_told 12 = .ok (.aload_n 0, 1) := dq_42 (by decide +kernel)
theorem dX8_told_13 : decode cX8_told 13 = .ok (.getfield 27, 3) := dq_180 (by decide +kernel)
theorem dX8_told_16 : decode cX8_told 16 = .ok (.iload_n 1, 1) := dq_27 (by decide +kernel)
theorem dX8_told_17 : decode cX8_told 17 = .ok (.aaload, 1) := dq_50 (by decide +kernel)
theorem dX8_told_18 : decode cX8_told 18 = .ok (.getfield 236, 3) := dq_180 (by decide +kernel)
theorem dX8_told_21 : decode cX8_told 21 = .ok (.if_icmp .ge 13, 3) := dq_162 (by decide +kernel)
theorem dX8_told_24 : decode cX8_told 24 = .ok (.iload_n 3, 1) := dq_29 (by decide +kernel)
theorem dX8_told_25 : decode cX8_told 25 = .ok (.ifCond .lt 9, 3) := dq_155 (by decide +kernel)
theorem dX8_told_28 : decode cX8_told 28 = .ok (.iload_n 3, 1) := dq_29 (by decide +kernel)
theorem dX8_told_29 : decode cX8_told 29 = .ok (.bipush 9, 2) := dq_16 (by decide +kernel)
theorem dX8_told_31 : decode cX8_told 31 = .ok (.if_icmp .le 6, 3) := dq_164 (by decide +kernel)
theorem dX8_told_34 : decode cX8_told 34 = .ok (.ldc 110, 2) := dq_18 (by decide +kernel)
theorem dX8_told_36 : decode cX8_told 36 = .ok (.ireturn, 1) := dq_172 (by decide +kernel)
theorem dX8_told_37 : decode cX8_told 37 = .ok (.aload_n 0, 1) := dq_42 (by decide +kernel)
theorem dX8_told_38 : decode cX8_told 38 = .ok (.getfield 27, 3) := dq_180 (by decide +kernel)
theorem dX8_told_41 : decode cX8_told 41 = .ok (.iload_n 1, 1) := dq_27 (by decide +kernel)
theorem dX8_told_42 : decode cX8_told 42 = .ok (.aaload, 1) := dq_50 (by decide +kernel)
theorem dX8_told_43 : decode cX8_told 43 = .ok (.astore 4, 2) := dq_58 (by decide +kernel)
theorem dX8_told_45 : decode cX8_told 45 = .ok (.iload_n 3, 1) := dq_29 (by decide +kernel)
theorem dX8_told_46 : decode cX8_told 46 = .ok (.ifCond .ne 11, 3) := dq_154 (by decide +kernel)
theorem dX8_told_49 : decode cX8_told 49 = .ok (.aload 4, 2) := dq_25 (by decide +kernel)
theorem dX8_told_51 : decode cX8_told 51 = .ok (.getfield 243, 3) := dq_180 (by decide +kernel)
theorem dX8_told_54 : decode cX8_told 54 = .ok (.iload_n 2, 1) := dq_28 (by decide +kernel)
theorem dX8_told_55 : decode cX8_told 55 = .ok (.iaload, 1) := dq_46 (by decide +kernel)
theorem dX8_told_56 : decode cX8_told 56 = .ok (.ireturn, 1) := dq_172 (by decide +kernel)
theorem dX8_told_57 : decode cX8_told 57 = .ok (.iload_n 3, 1) := dq_29 (by decide +kernel)
theorem dX8_told_58 : decode cX8_told 58 = .ok (.bipush 7, 2) := dq_16 (by decide +kernel)
theorem dX8_told_60 : decode cX8_told 60 = .ok (.if_icmp .lt 14, 3) := dq_161 (by decide +kernel)
theorem dX8_told_63 : decode cX8_told 63 = .ok (.aload 4, 2) := dq_25 (by decide +kernel)
theorem dX8_told_65 : decode cX8_told 65 = .ok (.iload_n 2, 1) := dq_28 (by decide +kernel)
theorem dX8_told_66 : decode cX8_told 66 = .ok (.iload_n 3, 1) := dq_29 (by decide +kernel)
theorem dX8_told_67 : decode cX8_told 67 = .ok (.bipush 7, 2) := dq_16 (by decide +kernel)
theorem dX8_told_69 : decode cX8_told 69 = .ok (.isub, 1) := dq_100 (by decide +kernel)
theorem dX8_told_70 : decode cX8_told 70 = .ok (.invokevirtual 246, 3) := dq_182 (by decide +kernel)
theorem dX8_told_73 : decode cX8_told 73 = .ok (.ireturn, 1) := dq_172 (by decide +kernel)
theorem dX8_told_74 : decode cX8_told 74 = .ok (.iload_n 3, 1) := dq_29 (by decide +kernel)
theorem dX8_told_75 : decode cX8_told 75 = .ok (.iconst 4, 1) := dq_7 (by decide +kernel)
theorem dX8_told_76 : decode cX8_told 76 = .ok (.if_icmp .lt 13, 3) := dq_161 (by decide +kernel)
theorem dX8_told_79 : decode cX8_told 79 = .ok (.aload 4, 2) := dq_25 (by decide +kernel)
theorem dX8_told_81 : decode cX8_told 81 = .ok (.iload_n 2, 1) := dq_28 (by decide +kernel)
theorem dX8_told_82 : decode cX8_told 82 = .ok (.iload_n 3, 1) := dq_29 (by decide +kernel)
theorem dX8_told_83 : decode cX8_told 83 = .ok (.iconst 4, 1) := dq_7 (by decide +kernel)
theorem dX8_told_84 : decode cX8_told 84 = .ok (.isub, 1) := dq_100 (by decide +kernel)
theorem dX8_told_85 : decode cX8_told 85 = .ok (.invokevirtual 249, 3) := dq_182 (by decide +kernel)
theorem dX8_told_88 : decode cX8_told 88 = .ok (.ireturn, 1) := dq_172 (by decide +kernel)
theorem dX8_told_89 : decode cX8_told 89 = .ok (.aload_n 0, 1) := dq_42 (by decide +kernel)
theorem dX8_told_90 : decode cX8_told 90 = .ok (.aload 4, 2) := dq_25 (by decide +kernel)
theorem dX8_told_92 : decode cX8_told 92 = .ok (.iload_n 2, 1) := dq_28 (by decide +kernel)
theorem dX8_told_93 : decode cX8_told 93 = .ok (.invokevirtual 252, 3) := dq_182 (by decide +kernel)
theorem dX8_told_96 : decode cX8_told 96 = .ok (.istore 5, 2) := dq_54 (by decide +kernel)
theorem dX8_told_98 : decode cX8_told 98 = .ok (.iload_n 3, 1) := dq_29 (by decide +kernel)
theorem dX8_told_99 : decode cX8_told 99 = .ok (.iconst 1, 1) := dq_4 (by decide +kernel)
theorem dX8_told_100 : decode cX8_told 100 = .ok (.if_icmp .ne 6, 3) := dq_160 (by decide +kernel)
theorem dX8_told_103 : decode cX8_told 103 = .ok (.iload 5, 2) := dq_21 (by decide +kernel)
theorem dX8_told_105 : decode cX8_told 105 = .ok (.ireturn, 1) := dq_172 (by decide +kernel)
theorem dX8_told_106 : decode cX8_told 106 = .ok (.aload 4, 2) := dq_25 (by decide +kernel)
theorem dX8_told_108 : decode cX8_told 108 = .ok (.iload_n 2, 1) := dq_28 (by decide +kernel)
theorem dX8_told_109 : decode cX8_told 109 = .ok (.iload 5, 2) := dq_21 (by decide +kernel)
theorem dX8_told_111 : decode cX8_told 111 = .ok (.invokevirtual 256, 3) := dq_182 (by decide +kernel)
theorem dX8_told_114 : decode cX8_told 114 = .ok (.istore 6, 2) := dq_54 (by decide +kernel)
theorem dX8_told_116 : decode cX8_told 116 = .ok (.aload 4, 2) := dq_25 (by decide +kernel)
theorem dX8_told_118 : decode cX8_told 118 = .ok (.iload_n 2, 1) := dq_28 (by decide +kernel)
theorem dX8_told_119 : decode cX8_told 119 = .ok (.iload 5, 2) := dq_21 (by decide +kernel)
theorem dX8_told_121 : decode cX8_told 121 = .ok (.invokevirtual 259, 3) := dq_182 (by decide +kernel)
theorem dX8_told_124 : decode cX8_told 124 = .ok (.istore 7, 2) := dq_54 (by decide +kernel)
theorem dX8_told_126 : decode cX8_told 126 = .ok (.iload 7, 2) := dq_21 (by decide +kernel)
theorem dX8_told_128 : decode cX8_told 128 = .ok (.iload 6, 2) := dq_21 (by decide +kernel)
theorem dX8_told_130 : decode cX8_told 130 = .ok (.if_icmp .ge 6, 3) := dq_162 (by decide +kernel)
theorem dX8_told_133 : decode cX8_told 133 = .ok (.ldc 110, 2) := dq_18 (by decide +kernel)
theorem dX8_told_135 : decode cX8_told 135 = .ok (.ireturn, 1) := dq_172 (by decide +kernel)
theorem dX8_told_136 : decode cX8_told 136 = .ok (.iload_n 3, 1) := dq_29 (by decide +kernel)
theorem dX8_told_137 : decode cX8_told 137 = .ok (.iconst 2, 1) := dq_5 (by decide +kernel)
theorem dX8_told_138 : decode cX8_told 138 = .ok (.if_icmp .ne 8, 3) := dq_160 (by decide +kernel)
theorem dX8_told_141 : decode cX8_told 141 = .ok (.iload 6, 2) := dq_21 (by decide +kernel)
theorem dX8_told_143 : decode cX8_told 143 = .ok (.goto 5, 3) := dq_167 (by decide +kernel)
theorem dX8_told_146 : decode cX8_told 146 = .ok (.iload 7, 2) := dq_21 (by decide +kernel)
theorem dX8_told_148 : decode cX8_told 148 = .ok (.ireturn, 1) := dq_172 (by decide +kernel)
theorem dX8_trial_0 : decode cX8_trial 0 = .ok (.aload_n 0, 1) := dq_42 (by decide +kernel)
theorem dX8_trial_1 : decode cX8_trial 1 = .ok (.iload_n 1, 1) := dq_27 (by decide +kernel)
theorem dX8_trial_2 : decode cX8_trial 2 = .ok (.iload_n 2, 1) := dq_28 (by decide +kernel)
theorem dX8_trial_3 : decode cX8_trial 3 = .ok (.iload_n 3, 1) := dq_29 (by decide +kernel)
theorem dX8_trial_4 : decode cX8_trial 4 = .ok (.invokevirtual 152, 3) := dq_182 (by decide +kernel)
theorem dX8_trial_7 : decode cX8_trial 7 = .ok (.ifCond .ne 13, 3) := dq_154 (by decide +kernel)
theorem dX8_trial_10 : decode cX8_trial 10 = .ok (.aload_n 0, 1) := dq_42 (by decide +kernel)
theorem dX8_trial_11 : decode cX8_trial 11 = .ok (.iload_n 1, 1) := dq_27 (by decide +kernel)
theorem dX8_trial_12 : decode cX8_trial 12 = .ok (.iload_n 2, 1) := dq_28 (by decide +kernel)
theorem dX8_trial_13 : decode cX8_trial 13 = .ok (.iload_n 3, 1) := dq_29 (by decide +kernel)
theorem dX8_trial_14 : decode cX8_trial 14 = .ok (.invokevirtual 194, 3) := dq_182 (by decide +kernel)
theorem dX8_trial_17 : decode cX8_trial 17 = .ok (.ifCond .ne 6, 3) := dq_154 (by decide +kernel)
theorem dX8_trial_20 : decode cX8_trial 20 = .ok (.ldc 110, 2) := dq_18 (by decide +kernel)
theorem dX8_trial_22 : decode cX8_trial 22 = .ok (.ireturn, 1) := dq_172 (by decide +kernel)
theorem dX8_trial_23 : decode cX8_trial 23 = .ok (.aload_n 0, 1) := dq_42 (by decide +kernel)
theorem dX8_trial_24 : decode cX8_trial 24 = .ok (.iload_n 1, 1) := dq_27 (by decide +kernel)
theorem dX8_trial_25 : decode cX8_trial 25 = .ok (.iload_n 3, 1) := dq_29 (by decide +kernel)
theorem dX8_trial_26 : decode cX8_trial 26 = .ok (.iload_n 2, 1) := dq_28 (by decide +kernel)
theorem dX8_trial_27 : decode cX8_trial 27 = .ok (.isub, 1) := dq_100 (by decide +kernel)
theorem dX8_trial_28 : decode cX8_trial 28 = .ok (.invokevirtual 198, 3) := dq_182 (by decide +kernel)
theorem dX8_trial_31 : decode cX8_trial 31 = .ok (.ireturn, 1) := dq_172 (by decide +kernel)
theorem dX8_unload_0 : decode cX8_unload 0 = .ok (.iload_n 2, 1) := dq_28 (by decide +kernel)
theorem dX8_unload_1 : decode cX8_unload 1 = .ok (.ifCond .lt 8, 3) := dq_155 (by decide +kernel)
theorem dX8_unload_4 : decode cX8_unload 4 = .ok (.iload_n 2, 1) := dq_28 (by decide +kernel)
theorem dX8_unload_5 : decode cX8_unload 5 = .ok (.iconst 3, 1) := dq_6 (by decide +kernel)
theorem dX8_unload_6 : decode cX8_unload 6 = .ok (.if_icmp .lt 4, 3) := dq_161 (by decide +kernel)
theorem dX8_unload_9 : decode cX8_unload 9 = .ok (.return_, 1) := dq_177 (by decide +kernel)
theorem dX8_unload_10 : decode cX8_unload 10 = .ok (.aload_n 1, 1) := dq_43 (by decide +kernel)
theorem dX8_unload_11 : decode cX8_unload 11 = .ok (.getfield 368, 3) := dq_180 (by decide +kernel)
theorem dX8_unload_14 : decode cX8_unload 14 = .ok (.iload_n 2, 1) := dq_28 (by decide +kernel)
theorem dX8_unload_15 : decode cX8_unload 15 = .ok (.iload_n 3, 1) := dq_29 (by decide +kernel)
theorem dX8_unload_16 : decode cX8_unload 16 = .ok (.iastore, 1) := dq_79 (by decide +kernel)
theorem dX8_unload_17 : decode cX8_unload 17 = .ok (.aload_n 0, 1) := dq_42 (by decide +kernel)
theorem dX8_unload_18 : decode cX8_unload 18 = .ok (.aload_n 1, 1) := dq_43 (by decide +kernel)
theorem dX8_unload_19 : decode cX8_unload 19 = .ok (.getfield 220, 3) := dq_180 (by decide +kernel)
theorem dX8_unload_22 : decode cX8_unload 22 = .ok (.iload_n 2, 1) := dq_28 (by decide +kernel)
theorem dX8_unload_23 : decode cX8_unload 23 = .ok (.iaload, 1) := dq_46 (by decide +kernel)
theorem dX8_unload_24 : decode cX8_unload 24 = .ok (.invokevirtual 102, 3) := dq_182 (by decide +kernel)
theorem dX8_unload_27 : decode cX8_unload 27 = .ok (.astore 4, 2) := dq_58 (by decide +kernel)
theorem dX8_unload_29 : decode cX8_unload 29 = .ok (.aload 4, 2) := dq_25 (by decide +kernel)
theorem dX8_unload_31 : decode cX8_unload 31 = .ok (.ifnull 24, 3) := dq_198 (by decide +kernel)
theorem dX8_unload_34 : decode cX8_unload 34 = .ok (.aload 4, 2) := dq_25 (by decide +kernel)
theorem dX8_unload_36 : decode cX8_unload 36 = .ok (.aload_n 0, 1) := dq_42 (by decide +kernel)
theorem dX8_unload_37 : decode cX8_unload 37 = .ok (.getfield 79, 3) := dq_180 (by decide +kernel)
theorem dX8_unload_40 : decode cX8_unload 40 = .ok (.iload_n 3, 1) := dq_29 (by decide +kernel)
theorem dX8_unload_41 : decode cX8_unload 41 = .ok (.iconst 0, 1) := dq_3 (by decide +kernel)
theorem dX8_unload_42 : decode cX8_unload 42 = .ok (.invokevirtual 121, 3) := dq_182 (by decide +kernel)
theorem dX8_unload_45 : decode cX8_unload 45 = .ok (.aload 4, 2) := dq_25 (by decide +kernel)
theorem dX8_unload_47 : decode cX8_unload 47 = .ok (.iconst (-1), 1) := dq_2 (by decide +kernel)
theorem dX8_unload_48 : decode cX8_unload 48 = .ok (.aload_n 0, 1) := dq_42 (by decide +kernel)
theorem dX8_unload_49 : decode cX8_unload 49 = .ok (.getfield 79, 3) := dq_180 (by decide +kernel)
theorem dX8_unload_52 : decode cX8_unload 52 = .ok (.invokevirtual 288, 3) := dq_182 (by decide +kernel)
theorem dX8_unload_55 : decode cX8_unload 55 = .ok (.return_, 1) := dq_177 (by decide +kernel)
theorem dX8_warmth_0 : decode cX8_warmth 0 = .ok (.iload_n 1, 1) := dq_27 (by decide +kernel)
theorem dX8_warmth_1 : decode cX8_warmth 1 = .ok (.invokestatic 84, 3) := dq_184 (by decide +kernel)
theorem dX8_warmth_4 : decode cX8_warmth 4 = .ok (.ifCond .eq 18, 3) := dq_153 (by decide +kernel)
theorem dX8_warmth_7 : decode cX8_warmth 7 = .ok (.iload_n 2, 1) := dq_28 (by decide +kernel)
theorem dX8_warmth_8 : decode cX8_warmth 8 = .ok (.bipush (-100), 2) := dq_16 (by decide +kernel)
theorem dX8_warmth_10 : decode cX8_warmth 10 = .ok (.if_icmp .eq 14, 3) := dq_159 (by decide +kernel)
theorem dX8_warmth_13 : decode cX8_warmth 13 = .ok (.iload_n 2, 1) := dq_28 (by decide +kernel)
theorem dX8_warmth_14 : decode cX8_warmth 14 = .ok (.bipush 50, 2) := dq_16 (by decide +kernel)
theorem dX8_warmth_16 : decode cX8_warmth 16 = .ok (.invokestatic 88, 3) := dq_184 (by decide +kernel)
theorem dX8_warmth_19 : decode cX8_warmth 19 = .ok (.ifCond .ne 5, 3) := dq_154 (by decide +kernel)
theorem dX8_warmth_22 : decode cX8_warmth 22 = .ok (.iconst (-1), 1) := dq_2 (by decide +kernel)
theorem dX8_warmth_23 : decode cX8_warmth 23 = .ok (.ireturn, 1) := dq_172 (by decide +kernel)
theorem dX8_warmth_24 : decode cX8_warmth 24 = .ok (.aload_n 0, 1) := dq_42 (by decide +kernel)
theorem dX8_warmth_25 : decode cX8_warmth 25 = .ok (.getfield 9, 3) := dq_180 (by decide +kernel)
theorem dX8_warmth_28 : decode cX8_warmth 28 = .ok (.iload_n 1, 1) := dq_27 (by decide +kernel)
theorem dX8_warmth_29 : decode cX8_warmth 29 = .ok (.iload_n 2, 1) := dq_28 (by decide +kernel)
theorem dX8_warmth_30 : decode cX8_warmth 30 = .ok (.iastore, 1) := dq_79 (by decide +kernel)
theorem dX8_warmth_31 : decode cX8_warmth 31 = .ok (.iconst 1, 1) := dq_4 (by decide +kernel)
theorem dX8_warmth_32 : decode cX8_warmth 32 = .ok (.ireturn, 1) := dq_172 (by decide +kernel)
theorem dX8_warmthFor_0 : decode cX8_warmthFor 0 = .ok (.iload_n 1, 1) := dq_27 (by decide +kernel)
theorem dX8_warmthFor_1 : decode cX8_warmthFor 1 = .ok (.invokestatic 92, 3) := dq_184 (by decide +kernel)
theorem dX8_warmthFor_4 : decode cX8_warmthFor 4 = .ok (.ifCond .eq 10, 3) := dq_153 (by decide +kernel)
theorem dX8_warmthFor_7 : decode cX8_warmthFor 7 = .ok (.iload_n 2, 1) := dq_28 (by decide +kernel)
theorem dX8_warmthFor_8 : decode cX8_warmthFor 8 = .ok (.invokestatic 84, 3) := dq_184 (by decide +kernel)
theorem dX8_warmthFor_11 : decode cX8_warmthFor 11 = .ok (.ifCond .ne 6, 3) := dq_154 (by decide +kernel)
theorem dX8_warmthFor_14 : decode cX8_warmthFor 14 = .ok (.bipush (-100), 2) := dq_16 (by decide +kernel)
theorem dX8_warmthFor_16 : decode cX8_warmthFor 16 = .ok (.ireturn, 1) := dq_172 (by decide +kernel)
theorem dX8_warmthFor_17 : decode cX8_warmthFor 17 = .ok (.aload_n 0, 1) := dq_42 (by decide +kernel)
theorem dX8_warmthFor_18 : decode cX8_warmthFor 18 = .ok (.getfield 13, 3) := dq_180 (by decide +kernel)
theorem dX8_warmthFor_21 : decode cX8_warmthFor 21 = .ok (.iload_n 1, 1) := dq_27 (by decide +kernel)
theorem dX8_warmthFor_22 : decode cX8_warmthFor 22 = .ok (.iaload, 1) := dq_46 (by decide +kernel)
theorem dX8_warmthFor_23 : decode cX8_warmthFor 23 = .ok (.iconst 1, 1) := dq_4 (by decide +kernel)
theorem dX8_warmthFor_24 : decode cX8_warmthFor 24 = .ok (.if_icmp .ne 12, 3) := dq_160 (by decide +kernel)
theorem dX8_warmthFor_27 : decode cX8_warmthFor 27 = .ok (.aload_n 0, 1) := dq_42 (by decide +kernel)
theorem dX8_warmthFor_28 : decode cX8_warmthFor 28 = .ok (.getfield 16, 3) := dq_180 (by decide +kernel)
theorem dX8_warmthFor_31 : decode cX8_warmthFor 31 = .ok (.iload_n 1, 1) := dq_27 (by decide +kernel)
theorem dX8_warmthFor_32 : decode cX8_warmthFor 32 = .ok (.iaload, 1) := dq_46 (by decide +kernel)
theorem dX8_warmthFor_33 : decode cX8_warmthFor 33 = .ok (.goto 9, 3) := dq_167 (by decide +kernel)
theorem dX8_warmthFor_36 : decode cX8_warmthFor 36 = .ok (.aload_n 0, 1) := dq_42 (by decide +kernel)
theorem dX8_warmthFor_37 : decode cX8_warmthFor 37 = .ok (.getfield 9, 3) := dq_180 (by decide +kernel)
theorem dX8_warmthFor_40 : decode cX8_warmthFor 40 = .ok (.iload_n 2, 1) := dq_28 (by decide +kernel)
theorem dX8_warmthFor_41 : decode cX8_warmthFor 41 = .ok (.iaload, 1) := dq_46 (by decide +kernel)
theorem dX8_warmthFor_42 : decode cX8_warmthFor 42 = .ok (.ireturn, 1) := dq_172 (by decide +kernel)
theorem dX8_warmthSpan_0 : decode cX8_warmthSpan 0 = .ok (.bipush 50, 2) := dq_16 (by decide +kernel)
theorem dX8_warmthSpan_2 : decode cX8_warmthSpan 2 = .ok (.istore_n 2, 1) := dq_61 (by decide +kernel)
theorem dX8_warmthSpan_3 : decode cX8_warmthSpan 3 = .ok (.bipush (-50), 2) := dq_16 (by decide +kernel)
theorem dX8_warmthSpan_5 : decode cX8_warmthSpan 5 = .ok (.istore_n 3, 1) := dq_62 (by decide +kernel)
theorem dX8_warmthSpan_6 : decode cX8_warmthSpan 6 = .ok (.iconst 0, 1) := dq_3 (by decide +kernel)
theorem dX8_warmthSpan_7 : decode cX8_warmthSpan 7 = .ok (.istore 4, 2) := dq_54 (by decide +kernel)
theorem dX8_warmthSpan_9 : decode cX8_warmthSpan 9 = .ok (.iload 4, 2) := dq_21 (by decide +kernel)
theorem dX8_warmthSpan_11 : decode cX8_warmthSpan 11 = .ok (.aload_n 0, 1) := dq_42 (by decide +kernel)
theorem dX8_warmthSpan_12 : decode cX8_warmthSpan 12 = .ok (.getfield 44, 3) := dq_180 (by decide +kernel)
theorem dX8_warmthSpan_15 : decode cX8_warmthSpan 15 = .ok (.getfield 311, 3) := dq_180 (by decide +kernel)
theorem dX8_warmthSpan_18 : decode cX8_warmthSpan 18 = .ok (.if_icmp .ge 47, 3) := dq_162 (by decide +kernel)
theorem dX8_warmthSpan_21 : decode cX8_warmthSpan 21 = .ok (.aload_n 0, 1) := dq_42 (by decide +kernel)
theorem dX8_warmthSpan_22 : decode cX8_warmthSpan 22 = .ok (.iload_n 1, 1) := dq_27 (by decide +kernel)
theorem dX8_warmthSpan_23 : decode cX8_warmthSpan 23 = .ok (.aload_n 0, 1) := dq_42 (by decide +kernel)
theorem dX8_warmthSpan_24 : decode cX8_warmthSpan 24 = .ok (.getfield 44, 3) := dq_180 (by decide +kernel)
theorem dX8_warmthSpan_27 : decode cX8_warmthSpan 27 = .ok (.getfield 312, 3) := dq_180 (by decide +kernel)
theorem dX8_warmthSpan_30 : decode cX8_warmthSpan 30 = .ok (.iload 4, 2) := dq_21 (by decide +kernel)
theorem dX8_warmthSpan_32 : decode cX8_warmthSpan 32 = .ok (.iaload, 1) := dq_46 (by decide +kernel)
theorem dX8_warmthSpan_33 : decode cX8_warmthSpan 33 = .ok (.invokevirtual 315, 3) := dq_182 (by decide +kernel)
theorem dX8_warmthSpan_36 : decode cX8_warmthSpan 36 = .ok (.istore 5, 2) := dq_54 (by decide +kernel)
theorem dX8_warmthSpan_38 : decode cX8_warmthSpan 38 = .ok (.iload 5, 2) := dq_21 (by decide +kernel)
theorem dX8_warmthSpan_40 : decode cX8_warmthSpan 40 = .ok (.bipush (-100), 2) := dq_16 (by decide +kernel)
theorem dX8_warmthSpan_42 : decode cX8_warmthSpan 42 = .ok (.if_icmp .eq 17, 3) := dq_159 (by decide +kernel)
theorem dX8_warmthSpan_45 : decode cX8_warmthSpan 45 = .ok (.iload_n 2, 1) := dq_28 (by decide +kernel)
theorem dX8_warmthSpan_46 : decode cX8_warmthSpan 46 = .ok (.iload 5, 2) := dq_21 (by decide +kernel)
theorem dX8_warmthSpan_48 : decode cX8_warmthSpan 48 = .ok (.invokestatic 350, 3) := dq_184 (by decide +kernel)
theorem dX8_warmthSpan_51 : decode cX8_warmthSpan 51 = .ok (.istore_n 2, 1) := dq_61 (by decide +kernel)
theorem dX8_warmthSpan_52 : decode cX8_warmthSpan 52 = .ok (.iload_n 3, 1) := dq_29 (by decide +kernel)
theorem dX8_warmthSpan_53 : decode cX8_warmthSpan 53 = .ok (.iload 5, 2) := dq_21 (by decide +kernel)
theorem dX8_warmthSpan_55 : decode cX8_warmthSpan 55 = .ok (.invokestatic 355, 3) := dq_184 (by decide +kernel)
theorem dX8_warmthSpan_58 : decode cX8_warmthSpan 58 = .ok (.istore_n 3, 1) := dq_62 (by decide +kernel)
theorem dX8_warmthSpan_59 : decode cX8_warmthSpan 59 = .ok (.iinc 4 1, 3) := dq_132 (by decide +kernel)
theorem dX8_warmthSpan_62 : decode cX8_warmthSpan 62 = .ok (.goto (-53), 3) := dq_167 (by decide +kernel)
theorem dX8_warmthSpan_65 : decode cX8_warmthSpan 65 = .ok (.iconst 0, 1) := dq_3 (by decide +kernel)
theorem dX8_warmthSpan_66 : decode cX8_warmthSpan 66 = .ok (.iload_n 3, 1) := dq_29 (by decide +kernel)
theorem dX8_warmthSpan_67 : decode cX8_warmthSpan 67 = .ok (.iload_n 2, 1) := dq_28 (by decide +kernel)
theorem dX8_warmthSpan_68 : decode cX8_warmthSpan 68 = .ok (.isub, 1) := dq_100 (by decide +kernel)
theorem dX8_warmthSpan_69 : decode cX8_warmthSpan 69 = .ok (.invokestatic 355, 3) := dq_184 (by decide +kernel)
theorem dX8_warmthSpan_72 : decode cX8_warmthSpan 72 = .ok (.ireturn, 1) := dq_172 (by decide +kernel)
theorem dX8_watchAt_0 : decode cX8_watchAt 0 = .ok (.iload_n 1, 1) := dq_27 (by decide +kernel)
theorem dX8_watchAt_1 : decode cX8_watchAt 1 = .ok (.invokestatic 92, 3) := dq_184 (by decide +kernel)
theorem dX8_watchAt_4 : decode cX8_watchAt 4 = .ok (.ifCond .eq 22, 3) := dq_153 (by decide +kernel)
theorem dX8_watchAt_7 : decode cX8_watchAt 7 = .ok (.aload_n 0, 1) := dq_42 (by decide +kernel)
theorem dX8_watchAt_8 : decode cX8_watchAt 8 = .ok (.getfield 13, 3) := dq_180 (by decide +kernel)
theorem dX8_watchAt_11 : decode cX8_watchAt 11 = .ok (.iload_n 1, 1) := dq_27 (by decide +kernel)
theorem dX8_watchAt_12 : decode cX8_watchAt 12 = .ok (.iaload, 1) := dq_46 (by decide +kernel)
theorem dX8_watchAt_13 : decode cX8_watchAt 13 = .ok (.ifCond .eq 15, 3) := dq_153 (by decide +kernel)
theorem dX8_watchAt_16 : decode cX8_watchAt 16 = .ok (.aload_n 0, 1) := dq_42 (by decide +kernel)
theorem dX8_watchAt_17 : decode cX8_watchAt 17 = .ok (.getfield 13, 3) := dq_180 (by decide +kernel)
theorem dX8_watchAt_20 : decode cX8_watchAt 20 = .ok (.iload_n 1, 1) := dq_27 (by decide +kernel)
theorem dX8_watchAt_21 : decode cX8_watchAt 21 = .ok (.iaload, 1) := dq_46 (by decide +kernel)
theorem dX8_watchAt_22 : decode cX8_watchAt 22 = .ok (.iconst 1, 1) := dq_4 (by decide +kernel)
theorem dX8_watchAt_23 : decode cX8_watchAt 23 = .ok (.if_icmp .eq 5, 3) := dq_159 (by decide +kernel)
theorem dX8_watchAt_26 : decode cX8_watchAt 26 = .ok (.aconst_null, 1) := dq_1 (by decide +kernel)
theorem dX8_watchAt_27 : decode cX8_watchAt 27 = .ok (.areturn, 1) := dq_176 (by decide +kernel)
theorem dX8_watchAt_28 : decode cX8_watchAt 28 = .ok (.aload_n 0, 1) := dq_42 (by decide +kernel)
theorem dX8_watchAt_29 : decode cX8_watchAt 29 = .ok (.getfield 21, 3) := dq_180 (by decide +kernel)
theorem dX8_watchAt_32 : decode cX8_watchAt 32 = .ok (.iload_n 1, 1) := dq_27 (by decide +kernel)
theorem dX8_watchAt_33 : decode cX8_watchAt 33 = .ok (.aaload, 1) := dq_50 (by decide +kernel)
theorem dX8_watchAt_34 : decode cX8_watchAt 34 = .ok (.areturn, 1) := dq_176 (by decide +kernel)
theorem dX8_workOutTrial_0 : decode cX8_workOutTrial 0 = .ok (.aload_n 0, 1) := dq_42 (by decide +kernel)
theorem dX8_workOutTrial_1 : decode cX8_workOutTrial 1 = .ok (.getfield 44, 3) := dq_180 (by decide +kernel)
theorem dX8_workOutTrial_4 : decode cX8_workOutTrial 4 = .ok (.invokevirtual 328, 3) := dq_182 (by decide +kernel)
theorem dX8_workOutTrial_7 : decode cX8_workOutTrial 7 = .ok (.istore_n 3, 1) := dq_62 (by decide +kernel)
theorem dX8_workOutTrial_8 : decode cX8_workOutTrial 8 = .ok (.aload_n 0, 1) := dq_42 (by decide +kernel)
theorem dX8_workOutTrial_9 : decode cX8_workOutTrial 9 = .ok (.getfield 44, 3) := dq_180 (by decide +kernel)
theorem dX8_workOutTrial_12 : decode cX8_workOutTrial 12 = .ok (.invokevirtual 331, 3) := dq_182 (by decide +kernel)
theorem dX8_workOutTrial_15 : decode cX8_workOutTrial 15 = .ok (.istore 4, 2) := dq_54 (by decide +kernel)
theorem dX8_workOutTrial_17 : decode cX8_workOutTrial 17 = .ok (.aload_n 0, 1) := dq_42 (by decide +kernel)
theorem dX8_workOutTrial_18 : decode cX8_workOutTrial 18 = .ok (.getfield 31, 3) := dq_180 (by decide +kernel)
theorem dX8_workOutTrial_21 : decode cX8_workOutTrial 21 = .ok (.iconst 0, 1) := dq_3 (by decide +kernel)
theorem dX8_workOutTrial_22 : decode cX8_workOutTrial 22 = .ok (.aload_n 0, 1) := dq_42 (by decide +kernel)
theorem dX8_workOutTrial_23 : decode cX8_workOutTrial 23 = .ok (.getfield 44, 3) := dq_180 (by decide +kernel)
theorem dX8_workOutTrial_26 : decode cX8_workOutTrial 26 = .ok (.getfield 311, 3) := dq_180 (by decide +kernel)
theorem dX8_workOutTrial_29 : decode cX8_workOutTrial 29 = .ok (.iastore, 1) := dq_79 (by decide +kernel)
theorem dX8_workOutTrial_30 : decode cX8_workOutTrial 30 = .ok (.aload_n 0, 1) := dq_42 (by decide +kernel)
theorem dX8_workOutTrial_31 : decode cX8_workOutTrial 31 = .ok (.getfield 31, 3) := dq_180 (by decide +kernel)
theorem dX8_workOutTrial_34 : decode cX8_workOutTrial 34 = .ok (.iconst 1, 1) := dq_4 (by decide +kernel)
theorem dX8_workOutTrial_35 : decode cX8_workOutTrial 35 = .ok (.iload_n 3, 1) := dq_29 (by decide +kernel)
theorem dX8_workOutTrial_36 : decode cX8_workOutTrial 36 = .ok (.iastore, 1) := dq_79 (by decide +kernel)
theorem dX8_workOutTrial_37 : decode cX8_workOutTrial 37 = .ok (.aload_n 0, 1) := dq_42 (by decide +kernel)
theorem dX8_workOutTrial_38 : decode cX8_workOutTrial 38 = .ok (.getfield 31, 3) := dq_180 (by decide +kernel)
theorem dX8_workOutTrial_41 : decode cX8_workOutTrial 41 = .ok (.iconst 2, 1) := dq_5 (by decide +kernel)
theorem dX8_workOutTrial_42 : decode cX8_workOutTrial 42 = .ok (.iload 4, 2) := dq_21 (by decide +kernel)
theorem dX8_workOutTrial_44 : decode cX8_workOutTrial 44 = .ok (.iastore, 1) := dq_79 (by decide +kernel)
theorem dX8_workOutTrial_45 : decode cX8_workOutTrial 45 = .ok (.aload_n 0, 1) := dq_42 (by decide +kernel)
theorem dX8_workOutTrial_46 : decode cX8_workOutTrial 46 = .ok (.getfield 31, 3) := dq_180 (by decide +kernel)
theorem dX8_workOutTrial_49 : decode cX8_workOutTrial 49 = .ok (.iconst 3, 1) := dq_6 (by decide +kernel)
theorem dX8_workOutTrial_50 : decode cX8_workOutTrial 50 = .ok (.iload 4, 2) := dq_21 (by decide +kernel)
theorem dX8_workOutTrial_52 : decode cX8_workOutTrial 52 = .ok (.iload_n 3, 1) := dq_29 (by decide +kernel)
theorem dX8_workOutTrial_53 : decode cX8_workOutTrial 53 = .ok (.isub, 1) := dq_100 (by decide +kernel)
theorem dX8_workOutTrial_54 : decode cX8_workOutTrial 54 = .ok (.iastore, 1) := dq_79 (by decide +kernel)
theorem dX8_workOutTrial_55 : decode cX8_workOutTrial 55 = .ok (.aload_n 0, 1) := dq_42 (by decide +kernel)
theorem dX8_workOutTrial_56 : decode cX8_workOutTrial 56 = .ok (.getfield 31, 3) := dq_180 (by decide +kernel)
theorem dX8_workOutTrial_59 : decode cX8_workOutTrial 59 = .ok (.iconst 4, 1) := dq_7 (by decide +kernel)
theorem dX8_workOutTrial_60 : decode cX8_workOutTrial 60 = .ok (.iload_n 2, 1) := dq_28 (by decide +kernel)
theorem dX8_workOutTrial_61 : decode cX8_workOutTrial 61 = .ok (.aload_n 0, 1) := dq_42 (by decide +kernel)
theorem dX8_workOutTrial_62 : decode cX8_workOutTrial 62 = .ok (.getfield 44, 3) := dq_180 (by decide +kernel)
theorem dX8_workOutTrial_65 : decode cX8_workOutTrial 65 = .ok (.getfield 311, 3) := dq_180 (by decide +kernel)
theorem dX8_workOutTrial_68 : decode cX8_workOutTrial 68 = .ok (.isub, 1) := dq_100 (by decide +kernel)
theorem dX8_workOutTrial_69 : decode cX8_workOutTrial 69 = .ok (.iastore, 1) := dq_79 (by decide +kernel)
theorem dX8_workOutTrial_70 : decode cX8_workOutTrial 70 = .ok (.aload_n 0, 1) := dq_42 (by decide +kernel)
theorem dX8_workOutTrial_71 : decode cX8_workOutTrial 71 = .ok (.getfield 31, 3) := dq_180 (by decide +kernel)
theorem dX8_workOutTrial_74 : decode cX8_workOutTrial 74 = .ok (.iconst 5, 1) := dq_8 (by decide +kernel)
theorem dX8_workOutTrial_75 : decode cX8_workOutTrial 75 = .ok (.aload_n 0, 1) := dq_42 (by decide +kernel)
theorem dX8_workOutTrial_76 : decode cX8_workOutTrial 76 = .ok (.getfield 44, 3) := dq_180 (by decide +kernel)
theorem dX8_workOutTrial_79 : decode cX8_workOutTrial 79 = .ok (.invokevirtual 334, 3) := dq_182 (by decide +kernel)
theorem dX8_workOutTrial_82 : decode cX8_workOutTrial 82 = .ok (.iastore, 1) := dq_79 (by decide +kernel)
theorem dX8_workOutTrial_83 : decode cX8_workOutTrial 83 = .ok (.aload_n 0, 1) := dq_42 (by decide +kernel)
theorem dX8_workOutTrial_84 : decode cX8_workOutTrial 84 = .ok (.getfield 31, 3) := dq_180 (by decide +kernel)
theorem dX8_workOutTrial_87 : decode cX8_workOutTrial 87 = .ok (.bipush 6, 2) := dq_16 (by decide +kernel)
theorem dX8_workOutTrial_89 : decode cX8_workOutTrial 89 = .ok (.aload_n 0, 1) := dq_42 (by decide +kernel)
theorem dX8_workOutTrial_90 : decode cX8_workOutTrial 90 = .ok (.getfield 44, 3) := dq_180 (by decide +kernel)
theorem dX8_workOutTrial_93 : decode cX8_workOutTrial 93 = .ok (.invokevirtual 337, 3) := dq_182 (by decide +kernel)
theorem dX8_workOutTrial_96 : decode cX8_workOutTrial 96 = .ok (.iastore, 1) := dq_79 (by decide +kernel)
theorem dX8_workOutTrial_97 : decode cX8_workOutTrial 97 = .ok (.aload_n 0, 1) := dq_42 (by decide +kernel)
theorem dX8_workOutTrial_98 : decode cX8_workOutTrial 98 = .ok (.getfield 31, 3) := dq_180 (by decide +kernel)
theorem dX8_workOutTrial_101 : decode cX8_workOutTrial 101 = .ok (.bipush 7, 2) := dq_16 (by decide +kernel)
theorem dX8_workOutTrial_103 : decode cX8_workOutTrial 103 = .ok (.aload_n 0, 1) := dq_42 (by decide +kernel)
theorem dX8_workOutTrial_104 : decode cX8_workOutTrial 104 = .ok (.getfield 44, 3) := dq_180 (by decide +kernel)
theorem dX8_workOutTrial_107 : decode cX8_workOutTrial 107 = .ok (.invokevirtual 340, 3) := dq_182 (by decide +kernel)
theorem dX8_workOutTrial_110 : decode cX8_workOutTrial 110 = .ok (.iastore, 1) := dq_79 (by decide +kernel)
theorem dX8_workOutTrial_111 : decode cX8_workOutTrial 111 = .ok (.aload_n 0, 1) := dq_42 (by decide +kernel)
theorem dX8_workOutTrial_112 : decode cX8_workOutTrial 112 = .ok (.getfield 31, 3) := dq_180 (by decide +kernel)
theorem dX8_workOutTrial_115 : decode cX8_workOutTrial 115 = .ok (.bipush 8, 2) := dq_16 (by decide +kernel)
theorem dX8_workOutTrial_117 : decode cX8_workOutTrial 117 = .ok (.aload_n 0, 1) := dq_42 (by decide +kernel)
theorem dX8_workOutTrial_118 : decode cX8_workOutTrial 118 = .ok (.iload_n 1, 1) := dq_27 (by decide +kernel)
theorem dX8_workOutTrial_119 : decode cX8_workOutTrial 119 = .ok (.invokevirtual 343, 3) := dq_182 (by decide +kernel)
theorem dX8_workOutTrial_122 : decode cX8_workOutTrial 122 = .ok (.iastore, 1) := dq_79 (by decide +kernel)
theorem dX8_workOutTrial_123 : decode cX8_workOutTrial 123 = .ok (.aload_n 0, 1) := dq_42 (by decide +kernel)
theorem dX8_workOutTrial_124 : decode cX8_workOutTrial 124 = .ok (.getfield 72, 3) := dq_180 (by decide +kernel)
theorem dX8_workOutTrial_127 : decode cX8_workOutTrial 127 = .ok (.aload_n 0, 1) := dq_42 (by decide +kernel)
theorem dX8_workOutTrial_128 : decode cX8_workOutTrial 128 = .ok (.getfield 31, 3) := dq_180 (by decide +kernel)
theorem dX8_workOutTrial_131 : decode cX8_workOutTrial 131 = .ok (.invokevirtual 346, 3) := dq_182 (by decide +kernel)
theorem dX8_workOutTrial_134 : decode cX8_workOutTrial 134 = .ok (.ireturn, 1) := dq_172 (by decide +kernel)
end
section
set_option maxHeartbeats 4000000 in
set_option maxRecDepth 100000 in
theorem g_J0_isLatin1_aae02 (l : Launch) (D : va_G) (E : Nat → Nat) (sh : Nat) (sv : Nat) (sn : Nat) (sf : Nat → Int32) (hsn : sn < 2147483647) : Met l yJ0_isLatin1_aae02 (wl yJ0_isLatin1_aae02 cJ0_isLatin1_aae02 1 (some .boolean)) (RM 0 0 0) (rdS_P D E [.ref sh] ([] : va_W) [(sh, sv, sn, sf)]) (rd_Q (fun r => ((r = 1 ∧ True)))) 0 0 (fun _ => False) := by
  refine met_for (cc := cJ0_isLatin1_aae02) (maxL := 1) (ret := (some .boolean)) (by decide +kernel) rfl ?_
  intro p e s m args below meth c s₁ B hml hv
  obtain ⟨rfl, hP, hK, hG⟩ := hv
  have hSs : va_S (fun _ => False) s.heap s.heap [] := va_S.rf
  have hx := B.exec; have hb := B.bytes; have hr := B.returns
  have hts := atoms_spec (ws := wl yJ0_isLatin1_aae02 cJ0_isLatin1_aae02 1 (some .boolean)) B.pre
  have htb : ∀ w ∈ tb, w.before _ s = true := fun w h => hts w (List.mem_cons_of_mem _ h)
  have hown : s.vm.findClass RJ0 = some m.cls := findClass_of_methodNamed B.named
  have hlocks := B.notSynchronized
  have hP : va_P D vwCl ([] : va_W) s.heap := hP
  have hl := lv_entry ([.ref sh]) (n := 1) (Nat.le_of_ble_eq_true rfl)
  rw [lg_entry_eq]
  generalize (lg_sl ([.ref sh]) ++ List.replicate (1 - (lg_sl ([.ref sh])).length) Slot.unset).toArray = ls at hl ⊢
  have hl : lv_has ls 1 [(0, .ref sh)] := hl
  refine va_gets hx hb (hG.get 0 rfl).1 hSs hown (htb _ k_614) (fun _ h9 => h9) dJ0_isLatin1_aae02_0 ?_
  refine lv_if_eq (tgt := 17) hx hb dJ0_isLatin1_aae02_3 (by decide) (fun c_1 => absurd c_1 (by decide)) (fun c_1 => ?_)
  refine lv_aload_n hx hb dJ0_isLatin1_aae02_6 rfl (lv_at hl 0 rfl) ?_
  refine vk_getf hx hb (hG.get 0 rfl).2.2.2.1 hSs hown (htb _ k_1497) (fun _ h9 => h9) dJ0_isLatin1_aae02_7 ?_
  refine lv_if_ne (tgt := 17) hx hb dJ0_isLatin1_aae02_10 (by decide) (fun c_2 => absurd (by decide) c_2) (fun c_2 => ?_)
  refine lv_iconst (v := 1) hx hb dJ0_isLatin1_aae02_13 (by decide) ?_
  refine lv_goto (tgt := 18) hx hb dJ0_isLatin1_aae02_14 (by decide) ?_
  exact W.zret (v := 1) hx hb hr rfl (fun t ht hW => ⟨1, rfl, ⟨rfl, trivial⟩, ht⟩) (fun q h => by cases h) dJ0_isLatin1_aae02_18
set_option maxHeartbeats 4000000 in
set_option maxRecDepth 100000 in
theorem g_J0_coder_7d493 (l : Launch) (D : va_G) (E : Nat → Nat) (sh : Nat) (sv : Nat) (sn : Nat) (sf : Nat → Int32) (hsn : sn < 2147483647) : Met l yJ0_coder_7d493 (wl yJ0_coder_7d493 cJ0_coder_7d493 1 (some .byte)) (RM 0 0 0) (rdS_P D E [.ref sh] ([] : va_W) [(sh, sv, sn, sf)]) (rd_Q (fun r => ((r = 0 ∧ True)))) 0 0 (fun _ => False) := by
  refine met_for (cc := cJ0_coder_7d493) (maxL := 1) (ret := (some .byte)) (by decide +kernel) rfl ?_
  intro p e s m args below meth c s₁ B hml hv
  obtain ⟨rfl, hP, hK, hG⟩ := hv
  have hSs : va_S (fun _ => False) s.heap s.heap [] := va_S.rf
  have hx := B.exec; have hb := B.bytes; have hr := B.returns
  have hts := atoms_spec (ws := wl yJ0_coder_7d493 cJ0_coder_7d493 1 (some .byte)) B.pre
  have htb : ∀ w ∈ tb, w.before _ s = true := fun w h => hts w (List.mem_cons_of_mem _ h)
  have hown : s.vm.findClass RJ0 = some m.cls := findClass_of_methodNamed B.named
  have hlocks := B.notSynchronized
  have hP : va_P D vwCl ([] : va_W) s.heap := hP
  have hl := lv_entry ([.ref sh]) (n := 1) (Nat.le_of_ble_eq_true rfl)
  rw [lg_entry_eq]
  generalize (lg_sl ([.ref sh]) ++ List.replicate (1 - (lg_sl ([.ref sh])).length) Slot.unset).toArray = ls at hl ⊢
  have hl : lv_has ls 1 [(0, .ref sh)] := hl
  refine va_gets hx hb (hG.get 0 rfl).1 hSs hown (htb _ k_614) (fun _ h9 => h9) dJ0_coder_7d493_0 ?_
  refine lv_if_eq (tgt := 13) hx hb dJ0_coder_7d493_3 (by decide) (fun c_1 => absurd c_1 (by decide)) (fun c_1 => ?_)
  refine lv_aload_n hx hb dJ0_coder_7d493_6 rfl (lv_at hl 0 rfl) ?_
  refine vk_getf hx hb (hG.get 0 rfl).2.2.2.1 hSs hown (htb _ k_1497) (fun _ h9 => h9) dJ0_coder_7d493_7 ?_
  refine lv_goto (tgt := 14) hx hb dJ0_coder_7d493_10 (by decide) ?_
  exact W.zret (v := 0) hx hb hr rfl (fun t ht hW => ⟨0, rfl, ⟨rfl, trivial⟩, ht⟩) (fun q h => by cases h) dJ0_coder_7d493_14
set_option maxHeartbeats 4000000 in
set_option maxRecDepth 100000 in
theorem g_J0_length_8abf5 (l : Launch) (D : va_G) (E : Nat → Nat) (sh : Nat) (sv : Nat) (sn : Nat) (sf : Nat → Int32) (hsn : sn < 2147483647) : Met l yJ0_length_8abf5 (wl yJ0_length_8abf5 cJ0_length_8abf5 1 (some .int)) (RM 1 0 0) (rdS_P D E [.ref sh] ([] : va_W) [(sh, sv, sn, sf)]) (rd_Q (fun r => (r.toInt = (sn : Nat)))) 0 0 (fun _ => False) := by
  refine met_for (cc := cJ0_length_8abf5) (maxL := 1) (ret := (some .int)) (by decide +kernel) rfl ?_
  intro p e s m args below meth c s₁ B hml hv
  obtain ⟨rfl, hP, hK, hG⟩ := hv
  have hSs : va_S (fun _ => False) s.heap s.heap [] := va_S.rf
  have hx := B.exec; have hb := B.bytes; have hr := B.returns
  have hts := atoms_spec (ws := wl yJ0_length_8abf5 cJ0_length_8abf5 1 (some .int)) B.pre
  have htb : ∀ w ∈ tb, w.before _ s = true := fun w h => hts w (List.mem_cons_of_mem _ h)
  have hown : s.vm.findClass RJ0 = some m.cls := findClass_of_methodNamed B.named
  have hlocks := B.notSynchronized
  have hP : va_P D vwCl ([] : va_W) s.heap := hP
  have hl := lv_entry ([.ref sh]) (n := 1) (Nat.le_of_ble_eq_true rfl)
  rw [lg_entry_eq]
  generalize (lg_sl ([.ref sh]) ++ List.replicate (1 - (lg_sl ([.ref sh])).length) Slot.unset).toArray = ls at hl ⊢
  have hl : lv_has ls 1 [(0, .ref sh)] := hl
  refine lv_aload_n hx hb dJ0_length_8abf5_0 rfl (lv_at hl 0 rfl) ?_
  refine vk_getf hx hb (hG.get 0 rfl).2.2.2.2.1 hSs hown (htb _ k_1496) (fun _ h9 => h9) dJ0_length_8abf5_1 ?_
  obtain ⟨z_1, ez_1⟩ : ∃ y : Int32, Int32.ofNat sn = y := ⟨_, rfl⟩
  refine va_tlen hx hb (hG.get 0 rfl).2.2.2.2.2 hSs ez_1 dJ0_length_8abf5_4 ?_
  have jz_1 : z_1.toInt = (sn : Nat) := nI_len hsn ez_1
  refine lv_aload_n hx hb dJ0_length_8abf5_5 rfl (lv_at hl 0 rfl) ?_
  refine rd_call (runRV (rest := [.int z_1]) (As := []) hx hb hml hown htb (g_J0_coder_7d493 l D E sh sv sn sf hsn) ok_J0_coder_7d493 k_610 k_611 k_612 k_12 k_613 ⟨(Nat.le_of_ble_eq_true rfl), (Nat.le_of_ble_eq_true rfl)⟩ ⟨(Nat.le_of_ble_eq_true rfl), (Nat.le_of_ble_eq_true rfl)⟩ hl.1 (Nat.le_of_ble_eq_true rfl) rfl rfl dJ0_length_8abf5_6 (prVT hK 0 rfl hG hSs)) (fun r_2 hw_3 => ?_)
  obtain ⟨hr_2, hw_3⟩ := hw_3
  refine W_top (y := .int 0) (by rw [hr_2]) ?_
  refine lv_ishr hx hb dJ0_length_8abf5_9 ?_
  refine lv_topi (fun z_5 ez_5 => ?_)
  exact W.iret (v := z_5) hx hb hr (fun t ht hW => ⟨z_5, rfl, (shr_0 hsn ez_1 ez_5), ht⟩) (fun q h => by cases h) dJ0_length_8abf5_10
set_option maxHeartbeats 4000000 in
set_option maxRecDepth 100000 in
theorem g_J3_checkIndexN (l : Launch) (D : va_G) (E : Nat → Nat) (p0 : Int32) (p1 : Int32) (g0 : 0 ≤ p0.toInt ∧ p0.toInt < p1.toInt) : Met l yJ3_checkIndex_8e157 (wl yJ3_checkIndex_8e157 cJ3_checkIndex_8e157 3 (some .int)) (RM 0 0 0) (rd_P D E [.int p0, .int p1, .null] ([] : va_W)) (rd_Q (fun r => True)) 0 0 (fun _ => False) := by
  refine met_for (cc := cJ3_checkIndex_8e157) (maxL := 3) (ret := (some .int)) (by decide +kernel) rfl ?_
  intro p e s m args below meth c s₁ B hml hv
  obtain ⟨rfl, hP, hK⟩ := hv
  have hx := B.exec; have hb := B.bytes; have hr := B.returns
  have hts := atoms_spec (ws := wl yJ3_checkIndex_8e157 cJ3_checkIndex_8e157 3 (some .int)) B.pre
  have htb : ∀ w ∈ tb, w.before _ s = true := fun w h => hts w (List.mem_cons_of_mem _ h)
  have hown : s.vm.findClass RJ3 = some m.cls := findClass_of_methodNamed B.named
  have hlocks := B.notSynchronized
  have hP : va_P D vwCl ([] : va_W) s.heap := hP
  have hl := lv_entry ([.int p0, .int p1, .null]) (n := 3) (Nat.le_of_ble_eq_true rfl)
  rw [lg_entry_eq]
  generalize (lg_sl ([.int p0, .int p1, .null]) ++ List.replicate (3 - (lg_sl ([.int p0, .int p1, .null])).length) Slot.unset).toArray = ls at hl ⊢
  have hl : lv_has ls 3 [(0, .int p0), (1, .int p1), (2, .null)] := hl
  have lo_p0 := i_lo p0; have hi_p0 := i_hi p0
  have lo_p1 := i_lo p1; have hi_p1 := i_hi p1
  refine lv_iload_n hx hb dJ3_checkIndex_8e157_0 rfl (lv_at hl 0 rfl) ?_
  refine lv_if_lt (tgt := 9) hx hb dJ3_checkIndex_8e157_1 (by decide) (fun c_1 => absurd c_1 (by rw [g_lt rfl t_0]; omega)) (fun c_1 => ?_)
  refine lv_iload_n hx hb dJ3_checkIndex_8e157_4 rfl (lv_at hl 0 rfl) ?_
  refine lv_iload_n hx hb dJ3_checkIndex_8e157_5 rfl (lv_at hl 1 rfl) ?_
  refine lv_icmp_lt (tgt := 16) hx hb dJ3_checkIndex_8e157_6 (by decide) (fun c_2 => ?_) (fun c_2 => absurd (by rw [g_lt rfl rfl]; omega) c_2)
  refine lv_iload_n hx hb dJ3_checkIndex_8e157_16 rfl (lv_at hl 0 rfl) ?_
  exact W.iret (v := p0) hx hb hr (fun t ht hW => ⟨p0, rfl, trivial, ht⟩) (fun q h => by cases h) dJ3_checkIndex_8e157_17
set_option maxHeartbeats 4000000 in
set_option maxRecDepth 100000 in
theorem g_J3_checkIndexR (l : Launch) (D : va_G) (E : Nat → Nat) (pr : Nat) (p0 : Int32) (p1 : Int32) (g0 : 0 ≤ p0.toInt ∧ p0.toInt < p1.toInt) : Met l yJ3_checkIndex_8e157 (wl yJ3_checkIndex_8e157 cJ3_checkIndex_8e157 3 (some .int)) (RM 0 0 0) (rd_P D E [.int p0, .int p1, .ref pr] ([] : va_W)) (rd_Q (fun r => True)) 0 0 (fun _ => False) := by
  refine met_for (cc := cJ3_checkIndex_8e157) (maxL := 3) (ret := (some .int)) (by decide +kernel) rfl ?_
  intro p e s m args below meth c s₁ B hml hv
  obtain ⟨rfl, hP, hK⟩ := hv
  have hx := B.exec; have hb := B.bytes; have hr := B.returns
  have hts := atoms_spec (ws := wl yJ3_checkIndex_8e157 cJ3_checkIndex_8e157 3 (some .int)) B.pre
  have htb : ∀ w ∈ tb, w.before _ s = true := fun w h => hts w (List.mem_cons_of_mem _ h)
  have hown : s.vm.findClass RJ3 = some m.cls := findClass_of_methodNamed B.named
  have hlocks := B.notSynchronized
  have hP : va_P D vwCl ([] : va_W) s.heap := hP
  have hl := lv_entry ([.int p0, .int p1, .ref pr]) (n := 3) (Nat.le_of_ble_eq_true rfl)
  rw [lg_entry_eq]
  generalize (lg_sl ([.int p0, .int p1, .ref pr]) ++ List.replicate (3 - (lg_sl ([.int p0, .int p1, .ref pr])).length) Slot.unset).toArray = ls at hl ⊢
  have hl : lv_has ls 3 [(0, .int p0), (1, .int p1), (2, .ref pr)] := hl
  have lo_p0 := i_lo p0; have hi_p0 := i_hi p0
  have lo_p1 := i_lo p1; have hi_p1 := i_hi p1
  refine lv_iload_n hx hb dJ3_checkIndex_8e157_0 rfl (lv_at hl 0 rfl) ?_
  refine lv_if_lt (tgt := 9) hx hb dJ3_checkIndex_8e157_1 (by decide) (fun c_1 => absurd c_1 (by rw [g_lt rfl t_0]; omega)) (fun c_1 => ?_)
  refine lv_iload_n hx hb dJ3_checkIndex_8e157_4 rfl (lv_at hl 0 rfl) ?_
  refine lv_iload_n hx hb dJ3_checkIndex_8e157_5 rfl (lv_at hl 1 rfl) ?_
  refine lv_icmp_lt (tgt := 16) hx hb dJ3_checkIndex_8e157_6 (by decide) (fun c_2 => ?_) (fun c_2 => absurd (by rw [g_lt rfl rfl]; omega) c_2)
  refine lv_iload_n hx hb dJ3_checkIndex_8e157_16 rfl (lv_at hl 0 rfl) ?_
  exact W.iret (v := p0) hx hb hr (fun t ht hW => ⟨p0, rfl, trivial, ht⟩) (fun q h => by cases h) dJ3_checkIndex_8e157_17
set_option maxHeartbeats 4000000 in
set_option maxRecDepth 100000 in
theorem g_J0_checkIndex_df160 (l : Launch) (D : va_G) (E : Nat → Nat) (sh : Nat) (sv : Nat) (sn : Nat) (sf : Nat → Int32) (p0 : Int32) (p1 : Int32) (hsn : sn < 2147483647) (g0 : 0 ≤ p0.toInt ∧ p0.toInt < p1.toInt) : Met l yJ0_checkIndex_df160 (wl yJ0_checkIndex_df160 cJ0_checkIndex_df160 2 none) (RM 1 0 0) (rdS_P D E [.int p0, .int p1] ([] : va_W) [(sh, sv, sn, sf)]) (rv_Q) 0 0 (fun _ => False) := by
  refine met_for (cc := cJ0_checkIndex_df160) (maxL := 2) (ret := none) (by decide +kernel) rfl ?_
  intro p e s m args below meth c s₁ B hml hv
  obtain ⟨rfl, hP, hK, hG⟩ := hv
  have hSs : va_S (fun _ => False) s.heap s.heap [] := va_S.rf
  have hx := B.exec; have hb := B.bytes; have hr := B.returns
  have hts := atoms_spec (ws := wl yJ0_checkIndex_df160 cJ0_checkIndex_df160 2 none) B.pre
  have htb : ∀ w ∈ tb, w.before _ s = true := fun w h => hts w (List.mem_cons_of_mem _ h)
  have hown : s.vm.findClass RJ0 = some m.cls := findClass_of_methodNamed B.named
  have hlocks := B.notSynchronized
  have hP : va_P D vwCl ([] : va_W) s.heap := hP
  have hl := lv_entry ([.int p0, .int p1]) (n := 2) (Nat.le_of_ble_eq_true rfl)
  rw [lg_entry_eq]
  generalize (lg_sl ([.int p0, .int p1]) ++ List.replicate (2 - (lg_sl ([.int p0, .int p1])).length) Slot.unset).toArray = ls at hl ⊢
  have hl : lv_has ls 2 [(0, .int p0), (1, .int p1)] := hl
  have lo_p0 := i_lo p0; have hi_p0 := i_hi p0
  have lo_p1 := i_lo p1; have hi_p1 := i_hi p1
  refine lv_iload_n hx hb dJ0_checkIndex_df160_0 rfl (lv_at hl 0 rfl) ?_
  refine lv_iload_n hx hb dJ0_checkIndex_df160_1 rfl (lv_at hl 1 rfl) ?_
  rcases (hG.get 0 rfl).2.1 with hz_1 | ⟨zt_2, hz_1⟩
  ·
    refine va_gets hx hb hz_1 hSs hown (htb _ k_630) (fun _ h9 => h9) dJ0_checkIndex_df160_2 ?_
    refine callRS (rest := []) (As := [.int p0, .int p1, .null]) hx hb hml hown htb hK (g_J3_checkIndexN l D E p0 p1 (by omega)) ok_J3_checkIndex_8e157 k_632 k_633 k_14 k_634 ⟨(Nat.le_of_ble_eq_true rfl), (Nat.le_of_ble_eq_true rfl)⟩ ⟨(Nat.le_of_ble_eq_true rfl), (Nat.le_of_ble_eq_true rfl)⟩ hl.1 (Nat.le_of_ble_eq_true rfl) rfl rfl dJ0_checkIndex_df160_5 (hP.sub (ws' := ([] : va_W)) [] rfl) (fun r_3 hw_4 => ?_)
    refine lv_pop hx hb dJ0_checkIndex_df160_8 rfl ?_
    exact W.vret hx hb hr (fun t ht hW => ⟨rfl, ht⟩) (fun q h => by cases h) dJ0_checkIndex_df160_9
  ·
    refine va_gets hx hb hz_1 hSs hown (htb _ k_630) (fun _ h9 => h9) dJ0_checkIndex_df160_2 ?_
    refine callRS (rest := []) (As := [.int p0, .int p1, .ref zt_2]) hx hb hml hown htb hK (g_J3_checkIndexR l D E zt_2 p0 p1 (by omega)) ok_J3_checkIndex_8e157 k_632 k_633 k_14 k_634 ⟨(Nat.le_of_ble_eq_true rfl), (Nat.le_of_ble_eq_true rfl)⟩ ⟨(Nat.le_of_ble_eq_true rfl), (Nat.le_of_ble_eq_true rfl)⟩ hl.1 (Nat.le_of_ble_eq_true rfl) rfl rfl dJ0_checkIndex_df160_5 (hP.sub (ws' := ([] : va_W)) [] rfl) (fun r_6 hw_7 => ?_)
    refine lv_pop hx hb dJ0_checkIndex_df160_8 rfl ?_
    exact W.vret hx hb hr (fun t ht hW => ⟨rfl, ht⟩) (fun q h => by cases h) dJ0_checkIndex_df160_9
set_option maxHeartbeats 4000000 in
set_option maxRecDepth 100000 in
theorem g_J1_charAt_3b067 (l : Launch) (D : va_G) (E : Nat → Nat) (sh : Nat) (sv : Nat) (sn : Nat) (sf : Nat → Int32) (p1 : Int32) (hsn : sn < 2147483647) (g0 : 0 ≤ p1.toInt ∧ p1.toInt < (sn : Nat)) : Met l yJ1_charAt_3b067 (wl yJ1_charAt_3b067 cJ1_charAt_3b067 2 (some .char)) (RM 2 0 0) (rdS_P D E [.ref sv, .int p1] ([] : va_W) [(sh, sv, sn, sf)]) (rd_Q (fun r => (r = sf (p1).toNatClampNeg &&& 255))) 0 0 (fun _ => False) := by
  refine met_for (cc := cJ1_charAt_3b067) (maxL := 2) (ret := (some .char)) (by decide +kernel) rfl ?_
  intro p e s m args below meth c s₁ B hml hv
  obtain ⟨rfl, hP, hK, hG⟩ := hv
  have hSs : va_S (fun _ => False) s.heap s.heap [] := va_S.rf
  have hx := B.exec; have hb := B.bytes; have hr := B.returns
  have hts := atoms_spec (ws := wl yJ1_charAt_3b067 cJ1_charAt_3b067 2 (some .char)) B.pre
  have htb : ∀ w ∈ tb, w.before _ s = true := fun w h => hts w (List.mem_cons_of_mem _ h)
  have hown : s.vm.findClass RJ1 = some m.cls := findClass_of_methodNamed B.named
  have hlocks := B.notSynchronized
  have hP : va_P D vwCl ([] : va_W) s.heap := hP
  have hl := lv_entry ([.ref sv, .int p1]) (n := 2) (Nat.le_of_ble_eq_true rfl)
  rw [lg_entry_eq]
  generalize (lg_sl ([.ref sv, .int p1]) ++ List.replicate (2 - (lg_sl ([.ref sv, .int p1])).length) Slot.unset).toArray = ls at hl ⊢
  have hl : lv_has ls 2 [(0, .ref sv), (1, .int p1)] := hl
  have lo_p1 := i_lo p1; have hi_p1 := i_hi p1
  refine lv_iload_n hx hb dJ1_charAt_3b067_0 rfl (lv_at hl 1 rfl) ?_
  refine lv_aload_n hx hb dJ1_charAt_3b067_1 rfl (lv_at hl 0 rfl) ?_
  obtain ⟨z_1, ez_1⟩ : ∃ y : Int32, Int32.ofNat sn = y := ⟨_, rfl⟩
  refine va_tlen hx hb (hG.get 0 rfl).2.2.2.2.2 hSs ez_1 dJ1_charAt_3b067_2 ?_
  have jz_1 : z_1.toInt = (sn : Nat) := nI_len hsn ez_1
  refine rv_call (runRS (rest := []) (As := [.int p1, .int z_1]) hx hb hml hown htb (g_J0_checkIndex_df160 l D E sh sv sn sf p1 z_1 hsn (by omega)) ok_J0_checkIndex_df160 k_627 k_628 k_12 k_629 ⟨(Nat.le_of_ble_eq_true rfl), (Nat.le_of_ble_eq_true rfl)⟩ ⟨(Nat.le_of_ble_eq_true rfl), (Nat.le_of_ble_eq_true rfl)⟩ hl.1 (Nat.le_of_ble_eq_true rfl) rfl rfl dJ1_charAt_3b067_3 (prSS (show va_P D vwCl [] _ from fun k q h => by simp at h) hK hG hSs)) ?_
  refine lv_aload_n hx hb dJ1_charAt_3b067_6 rfl (lv_at hl 0 rfl) ?_
  refine lv_iload_n hx hb dJ1_charAt_3b067_7 rfl (lv_at hl 1 rfl) ?_
  refine va_tb (v := .int (sf (p1 : Int32).toNatClampNeg)) hx hb (hG.get 0 rfl).2.2.2.2.2 hSs (g_in rfl (by omega) (by omega)) rfl dJ1_charAt_3b067_8 ?_
  refine lv_topi (fun z_5 ez_5 => ?_)
  refine lv_sipush (v := 255) hx hb dJ1_charAt_3b067_9 (by decide) ?_
  refine lv_iand hx hb dJ1_charAt_3b067_12 ?_
  refine lv_topi (fun z_6 ez_6 => ?_)
  obtain ⟨z_7, ez_7⟩ : ∃ y : Int32, ((z_6 : Int32).toUInt32 % 65536).toInt32 = y := ⟨_, rfl⟩
  refine lv_i2c hx hb dJ1_charAt_3b067_13 ez_7 ?_
  exact W.zret (v := z_7) hx hb hr (by rw [← ez_7, ez_6, sc_c2]; exact sc_nar _) (fun t ht hW => ⟨z_7, rfl, (by rw [← ez_7, ez_6, sc_c2, ez_5]), ht⟩) (fun q h => by cases h) dJ1_charAt_3b067_14
set_option maxHeartbeats 4000000 in
set_option maxRecDepth 100000 in
theorem g_J0_charAt_5068e (l : Launch) (D : va_G) (E : Nat → Nat) (sh : Nat) (sv : Nat) (sn : Nat) (sf : Nat → Int32) (p0 : Int32) (hsn : sn < 2147483647) (g0 : 0 ≤ p0.toInt ∧ p0.toInt < (sn : Nat)) : Met l yJ0_charAt_5068e (wl yJ0_charAt_5068e cJ0_charAt_5068e 2 (some .char)) (RM 3 0 0) (rdS_P D E [.ref sh, .int p0] ([] : va_W) [(sh, sv, sn, sf)]) (rd_Q (fun r => (r = sf (p0).toNatClampNeg &&& 255))) 0 0 (fun _ => False) := by
  refine met_for (cc := cJ0_charAt_5068e) (maxL := 2) (ret := (some .char)) (by decide +kernel) rfl ?_
  intro p e s m args below meth c s₁ B hml hv
  obtain ⟨rfl, hP, hK, hG⟩ := hv
  have hSs : va_S (fun _ => False) s.heap s.heap [] := va_S.rf
  have hx := B.exec; have hb := B.bytes; have hr := B.returns
  have hts := atoms_spec (ws := wl yJ0_charAt_5068e cJ0_charAt_5068e 2 (some .char)) B.pre
  have htb : ∀ w ∈ tb, w.before _ s = true := fun w h => hts w (List.mem_cons_of_mem _ h)
  have hown : s.vm.findClass RJ0 = some m.cls := findClass_of_methodNamed B.named
  have hlocks := B.notSynchronized
  have hP : va_P D vwCl ([] : va_W) s.heap := hP
  have hl := lv_entry ([.ref sh, .int p0]) (n := 2) (Nat.le_of_ble_eq_true rfl)
  rw [lg_entry_eq]
  generalize (lg_sl ([.ref sh, .int p0]) ++ List.replicate (2 - (lg_sl ([.ref sh, .int p0])).length) Slot.unset).toArray = ls at hl ⊢
  have hl : lv_has ls 2 [(0, .ref sh), (1, .int p0)] := hl
  have lo_p0 := i_lo p0; have hi_p0 := i_hi p0
  refine lv_aload_n hx hb dJ0_charAt_5068e_0 rfl (lv_at hl 0 rfl) ?_
  refine rd_call (runRV (rest := []) (As := []) hx hb hml hown htb (g_J0_isLatin1_aae02 l D E sh sv sn sf hsn) ok_J0_isLatin1_aae02 k_620 k_621 k_622 k_12 k_623 ⟨(Nat.le_of_ble_eq_true rfl), (Nat.le_of_ble_eq_true rfl)⟩ ⟨(Nat.le_of_ble_eq_true rfl), (Nat.le_of_ble_eq_true rfl)⟩ hl.1 (Nat.le_of_ble_eq_true rfl) rfl rfl dJ0_charAt_5068e_1 (prVT hK 0 rfl hG hSs)) (fun r_1 hw_2 => ?_)
  obtain ⟨hr_1, hw_2⟩ := hw_2
  refine W_top (y := .int 1) (by rw [hr_1]) ?_
  refine lv_if_eq (tgt := 16) hx hb dJ0_charAt_5068e_4 (by decide) (fun c_4 => absurd c_4 (by decide)) (fun c_4 => ?_)
  refine lv_aload_n hx hb dJ0_charAt_5068e_7 rfl (lv_at hl 0 rfl) ?_
  refine vk_getf hx hb (hG.get 0 rfl).2.2.2.2.1 hSs hown (htb _ k_1496) (fun _ h9 => h9) dJ0_charAt_5068e_8 ?_
  refine lv_iload_n hx hb dJ0_charAt_5068e_11 rfl (lv_at hl 1 rfl) ?_
  refine rd_call (runRS (rest := []) (As := [.ref sv, .int p0]) hx hb hml hown htb (g_J1_charAt_3b067 l D E sh sv sn sf p0 hsn (by omega)) ok_J1_charAt_3b067 k_624 k_625 k_13 k_626 ⟨(Nat.le_of_ble_eq_true rfl), (Nat.le_of_ble_eq_true rfl)⟩ ⟨(Nat.le_of_ble_eq_true rfl), (Nat.le_of_ble_eq_true rfl)⟩ hl.1 (Nat.le_of_ble_eq_true rfl) rfl rfl dJ0_charAt_5068e_12 (prSS (show va_P D vwCl [] _ from fun k q h => by simp at h) hK hG hSs)) (fun r_5 hw_6 => ?_)
  exact W.zret (v := r_5) hx hb hr (by rw [hw_6]; exact sc_nar _) (fun t ht hW => ⟨r_5, rfl, hw_6, ht⟩) (fun q h => by cases h) dJ0_charAt_5068e_15
end
section
set_option maxHeartbeats 4000000 in
set_option maxRecDepth 100000 in
theorem g_X6_isOnTape (l : Launch) (D : va_G) (E : Nat → Nat) (th : Nat) (ta : Nat → Nat) (tsize : Int32) (trule : Nat) (twords : Nat) (tat : Int32) (tword : Int32) (twordAt : Int32) (tvalue : Int32) (tf0 : Nat → Int32) (sv : Nat) (sn : Nat) (sf : Nat → Int32) (p0 : Int32) (p1 : Int32) (hi_t : (0 ≤ tsize.toInt ∧ tsize.toInt ≤ 120)) (hsn : sn < 2147483647) (g0 : 0 ≤ tat.toInt ∧ tat.toInt ≤ tsize.toInt ∧ 0 ≤ twordAt.toInt ∧ twordAt.toInt ≤ tat.toInt) (g1 : 0 ≤ p0.toInt ∧ p0.toInt ≤ 1000 ∧ 0 ≤ p1.toInt ∧ p1.toInt ≤ (sn : Nat) ∧ sn ≤ 900) : Met l yX6_isOnTape (wl yX6_isOnTape cX6_isOnTape 4 (some .boolean)) (RM 4 0 0) (rdS_P D E [.ref th, .int p0, .int p1] [(th, .inr (6, G6 ta tsize trule twords tat tword twordAt tvalue)), ((ta 0), .inl (E 0, 120, .inl tf0))] [(twords, sv, sn, sf)]) (rd_Q (fun r => True)) 0 0 (fun _ => False) := by
  refine Met.ofW (cc := cX6_isOnTape) (maxL := 4) (ret := (some .boolean)) (by decide) rfl ?_
  intro p e s m args below meth c s₁ B hml hv
  obtain ⟨rfl, hP, hK, hG⟩ := hv
  have hSs : va_S (fun _ => False) s.heap s.heap [] := va_S.rf
  have hx := B.exec; have hb := B.bytes; have hr := B.returns
  have hts := atoms_spec (ws := wl yX6_isOnTape cX6_isOnTape 4 (some .boolean)) B.pre
  have htb : ∀ w ∈ tb, w.before _ s = true := fun w h => hts w (List.mem_cons_of_mem _ h)
  have hown : s.vm.findClass RX6 = some m.cls := findClass_of_methodNamed B.named
  have hlocks := B.notSynchronized
  have hP : va_P D vwCl [(th, .inr (6, G6 ta tsize trule twords tat tword twordAt tvalue)), ((ta 0), .inl (E 0, 120, .inl tf0))] s.heap := hP
  have hl := lv_entry ([.ref th, .int p0, .int p1]) (n := 4) (Nat.le_of_ble_eq_true rfl)
  rw [lg_entry_eq]
  generalize (lg_sl ([.ref th, .int p0, .int p1]) ++ List.replicate (4 - (lg_sl ([.ref th, .int p0, .int p1])).length) Slot.unset).toArray = ls at hl ⊢
  have hl : lv_has ls 4 [(0, .ref th), (1, .int p0), (2, .int p1)] := hl
  have lo_p0 := i_lo p0; have hi_p0 := i_hi p0
  have lo_p1 := i_lo p1; have hi_p1 := i_hi p1
  refine lv_iload_n hx hb dX6_isOnTape_0 rfl (lv_at hl 2 rfl) ?_
  refine lv_iload_n hx hb dX6_isOnTape_1 rfl (lv_at hl 1 rfl) ?_
  refine lv_isub hx hb dX6_isOnTape_2 ?_
  refine lv_topi (fun z_1 ez_1 => ?_)
  have jz_1 : z_1.toInt = p1.toInt - p0.toInt := by rw [ez_1]; exact g_sub rfl rfl (by omega) (by omega)
  refine lv_aload_n hx hb dX6_isOnTape_3 rfl (lv_at hl 0 rfl) ?_
  refine va_get (D := D) (ci := 6) (v := .int tat) (C := RX6) (T := TX6) (N := 8) hx hb htb iX6 hown hK.1 hP 0 rfl rfl 4 (by decide) (htb _ k_162) (fun _ h9 => h9) rfl dX6_isOnTape_4 ?_
  refine lv_aload_n hx hb dX6_isOnTape_7 rfl (lv_at hl 0 rfl) ?_
  refine va_get (D := D) (ci := 6) (v := .int twordAt) (C := RX6) (T := TX6) (N := 8) hx hb htb iX6 hown hK.1 hP 0 rfl rfl 6 (by decide) (htb _ k_164) (fun _ h9 => h9) rfl dX6_isOnTape_8 ?_
  refine lv_isub hx hb dX6_isOnTape_11 ?_
  refine lv_topi (fun z_2 ez_2 => ?_)
  have jz_2 : z_2.toInt = tat.toInt - twordAt.toInt := by rw [ez_2]; exact g_sub rfl rfl (by omega) (by omega)
  refine lv_icmp_ne (tgt := 41) hx hb dX6_isOnTape_12 (by decide) (fun c_3 => ?_) (fun c_3 => ?_)
  ·
    have ic_3 : z_1.toInt ≠ z_2.toInt := mt (g_eq rfl rfl).mpr c_3
    clear c_3
    refine lv_iconst (v := 0) hx hb dX6_isOnTape_41 (by decide) ?_
    exact W.zret (v := 0) hx hb hr rfl (fun t ht hW => ⟨0, rfl, trivial, ht⟩) (fun q h => by cases h) dX6_isOnTape_42
  ·
    have ic_3 : z_1.toInt = z_2.toInt := (g_eq rfl rfl).mp c_3
    clear c_3
    refine lv_iload_n hx hb dX6_isOnTape_15 rfl (lv_at hl 1 rfl) ?_
    refine lv_if_lt (tgt := 41) hx hb dX6_isOnTape_16 (by decide) (fun c_4 => absurd c_4 (by rw [g_lt rfl t_0]; omega)) (fun c_4 => ?_)
    refine lv_iload_n hx hb dX6_isOnTape_19 rfl (lv_at hl 2 rfl) ?_
    refine lv_aload_n hx hb dX6_isOnTape_20 rfl (lv_at hl 0 rfl) ?_
    refine va_get (D := D) (ci := 6) (v := .ref twords) (C := RX6) (T := TX6) (N := 8) hx hb htb iX6 hown hK.1 hP 0 rfl rfl 3 (by decide) (htb _ k_161) (fun _ h9 => h9) rfl dX6_isOnTape_21 ?_
    refine rd_call (runRV (rest := [.int p1]) (As := []) hx hb hml hown htb (g_J0_length_8abf5 l D E twords sv sn sf hsn) ok_J0_length_8abf5 k_606 k_607 k_608 k_12 k_609 ⟨(Nat.le_of_ble_eq_true rfl), (Nat.le_of_ble_eq_true rfl)⟩ ⟨(Nat.le_of_ble_eq_true rfl), (Nat.le_of_ble_eq_true rfl)⟩ hl.1 (Nat.le_of_ble_eq_true rfl) rfl rfl dX6_isOnTape_24 (prVT hK 0 rfl hG hSs)) (fun r_5 hw_6 => ?_)
    refine lv_icmp_gt (tgt := 41) hx hb dX6_isOnTape_27 (by decide) (fun c_8 => ?_) (fun c_8 => ?_)
    ·
      have ic_8 : r_5.toInt < p1.toInt := by first | exact (g_lt rfl rfl).mp c_8 | (have h := mt (g_le rfl rfl).mpr c_8; omega)
      clear c_8
      refine lv_iconst (v := 0) hx hb dX6_isOnTape_41 (by decide) ?_
      exact W.zret (v := 0) hx hb hr rfl (fun t ht hW => ⟨0, rfl, trivial, ht⟩) (fun q h => by cases h) dX6_isOnTape_42
    ·
      have ic_8 : p1.toInt ≤ r_5.toInt := by first | exact (g_le rfl rfl).mp c_8 | (have h := mt (g_lt rfl rfl).mpr c_8; omega)
      clear c_8
      refine lv_aload_n hx hb dX6_isOnTape_30 rfl (lv_at hl 0 rfl) ?_
      refine va_get (D := D) (ci := 6) (v := .int tat) (C := RX6) (T := TX6) (N := 8) hx hb htb iX6 hown hK.1 hP 0 rfl rfl 4 (by decide) (htb _ k_162) (fun _ h9 => h9) rfl dX6_isOnTape_31 ?_
      refine lv_aload_n hx hb dX6_isOnTape_34 rfl (lv_at hl 0 rfl) ?_
      refine va_get (D := D) (ci := 6) (v := .int tsize) (C := RX6) (T := TX6) (N := 8) hx hb htb iX6 hown hK.1 hP 0 rfl rfl 1 (by decide) (htb _ k_158) (fun _ h9 => h9) rfl dX6_isOnTape_35 ?_
      refine lv_icmp_le (tgt := 43) hx hb dX6_isOnTape_38 (by decide) (fun c_9 => ?_) (fun c_9 => ?_)
      ·
        have ic_9 : tat.toInt ≤ tsize.toInt := by first | exact (g_le rfl rfl).mp c_9 | (have h := mt (g_lt rfl rfl).mpr c_9; omega)
        clear c_9
        refine lv_iload_n hx hb dX6_isOnTape_43 rfl (lv_at hl 1 rfl) ?_
        refine lv_istore_n (lv' := [(3, .int p0), (0, .ref th), (1, .int p0), (2, .int p1)]) hx hb dX6_isOnTape_44 rfl hl (by decide) rfl (fun ls hl => ?_)
        have loop_10 : ∀ (N_12 : Nat) (L3_45 : Int32)  (ls : Array Slot), 1001 - L3_45.toInt < (N_12 : Int) → (p0.toInt ≤ L3_45.toInt ∧ (L3_45.toInt ≤ p1.toInt ∨ L3_45.toInt = p0.toInt)) → lv_has ls 4 [(3, .int L3_45), (0, .ref th), (1, .int p0), (2, .int p1)] → W p l e (headSpec (wl yX6_isOnTape cX6_isOnTape 4 (some .boolean)) (RM 4 0 0)).room s m [Value.ref th, .int p0, .int p1].toArray below meth c s.heap [] 0 0 (MQ below (rd_Q (fun r => True)) [Value.ref th, .int p0, .int p1].toArray s 0 0 (fun _ => False)) (F0 m 45 ls []) := by
          intro N_12
          induction N_12 with
          | zero => intro L3_45  ls hm v0_45 _; exfalso; omega
          | succ N_12 ih_11 =>
            intro L3_45 ls hm v0_45 hl
            have lo_L3_45 := i_lo L3_45; have hi_L3_45 := i_hi L3_45
            refine lv_iload_n hx hb dX6_isOnTape_45 rfl (lv_at hl 0 rfl) ?_
            refine lv_iload_n hx hb dX6_isOnTape_46 rfl (lv_at hl 3 rfl) ?_
            refine lv_icmp_ge (tgt := 82) hx hb dX6_isOnTape_47 (by decide) (fun c_13 => ?_) (fun c_13 => ?_)
            ·
              have ic_13 : p1.toInt ≤ L3_45.toInt := by first | exact (g_le rfl rfl).mp c_13 | (have h := mt (g_lt rfl rfl).mpr c_13; omega)
              clear c_13
              refine lv_iconst (v := 1) hx hb dX6_isOnTape_82 (by decide) ?_
              exact W.zret (v := 1) hx hb hr rfl (fun t ht hW => ⟨1, rfl, trivial, ht⟩) (fun q h => by cases h) dX6_isOnTape_83
            ·
              have ic_13 : L3_45.toInt < p1.toInt := by first | exact (g_lt rfl rfl).mp c_13 | (have h := mt (g_le rfl rfl).mpr c_13; omega)
              clear c_13
              refine lv_aload_n hx hb dX6_isOnTape_50 rfl (lv_at hl 1 rfl) ?_
              refine va_get (D := D) (ci := 6) (v := .ref twords) (C := RX6) (T := TX6) (N := 8) hx hb htb iX6 hown hK.1 hP 0 rfl rfl 3 (by decide) (htb _ k_161) (fun _ h9 => h9) rfl dX6_isOnTape_51 ?_
              refine lv_iload_n hx hb dX6_isOnTape_54 rfl (lv_at hl 0 rfl) ?_
              refine rd_call (runRV (rest := []) (As := [.int L3_45]) hx hb hml hown htb (g_J0_charAt_5068e l D E twords sv sn sf L3_45 hsn (by omega)) ok_J0_charAt_5068e k_616 k_617 k_618 k_12 k_619 ⟨(Nat.le_of_ble_eq_true rfl), (Nat.le_of_ble_eq_true rfl)⟩ ⟨(Nat.le_of_ble_eq_true rfl), (Nat.le_of_ble_eq_true rfl)⟩ hl.1 (Nat.le_of_ble_eq_true rfl) rfl rfl dX6_isOnTape_55 (prVT hK 0 rfl hG hSs)) (fun r_14 hw_15 => ?_)
              refine lv_aload_n hx hb dX6_isOnTape_58 rfl (lv_at hl 1 rfl) ?_
              refine va_get (D := D) (ci := 6) (v := .ref (ta 0)) (C := RX6) (T := TX6) (N := 8) hx hb htb iX6 hown hK.1 hP 0 rfl rfl 0 (by decide) (htb _ k_157) (fun _ h9 => h9) rfl dX6_isOnTape_59 ?_
              refine lv_aload_n hx hb dX6_isOnTape_62 rfl (lv_at hl 1 rfl) ?_
              refine va_get (D := D) (ci := 6) (v := .int twordAt) (C := RX6) (T := TX6) (N := 8) hx hb htb iX6 hown hK.1 hP 0 rfl rfl 6 (by decide) (htb _ k_164) (fun _ h9 => h9) rfl dX6_isOnTape_63 ?_
              refine lv_iload_n hx hb dX6_isOnTape_66 rfl (lv_at hl 0 rfl) ?_
              refine lv_iadd hx hb dX6_isOnTape_67 ?_
              refine lv_topi (fun z_17 ez_17 => ?_)
              have jz_17 : z_17.toInt = twordAt.toInt + L3_45.toInt := by rw [ez_17]; exact g_add rfl rfl (by omega) (by omega)
              refine lv_iload_n hx hb dX6_isOnTape_68 rfl (lv_at hl 2 rfl) ?_
              refine lv_isub hx hb dX6_isOnTape_69 ?_
              refine lv_topi (fun z_18 ez_18 => ?_)
              have jz_18 : z_18.toInt = z_17.toInt - p0.toInt := by rw [ez_18]; exact g_sub rfl rfl (by omega) (by omega)
              refine va_iald hx hb hK.1 hP 1 0 rfl rfl (g_in rfl (by omega) (by omega)) dX6_isOnTape_70 ?_
              refine lv_topi (fun z_19 ez_19 => ?_)
              have kz_19 := congrArg Int32.toInt ez_19
              refine lv_icmp_eq (tgt := 76) hx hb dX6_isOnTape_71 (by decide) (fun c_20 => ?_) (fun c_20 => ?_)
              ·
                have ic_20 : r_14.toInt = z_19.toInt := (g_eq rfl rfl).mp c_20
                clear c_20
                obtain ⟨z_21, ez_21⟩ : ∃ y : Int32, y = L3_45 + 1 := ⟨_, rfl⟩
                have jz_21 : z_21.toInt = L3_45.toInt + 1 := by rw [ez_21]; exact g_add rfl t_1 (by omega) (by omega)
                refine lv_iinc (v := z_21) (lv' := [(3, .int z_21), (0, .ref th), (1, .int p0), (2, .int p1)]) hx hb dX6_isOnTape_76 hl (k := 0) rfl (by rw [ez_21]; rfl) (by decide) rfl (fun ls hl => ?_)
                refine lv_goto (tgt := 45) hx hb dX6_isOnTape_79 (by decide) ?_
                exact ih_11 z_21 _ (by (try dsimp only); omega) (by (try dsimp only); omega) (lv_sub hl [0, 1, 2, 3] rfl)
              ·
                have ic_20 : r_14.toInt ≠ z_19.toInt := mt (g_eq rfl rfl).mpr c_20
                clear c_20
                refine lv_iconst (v := 0) hx hb dX6_isOnTape_74 (by decide) ?_
                exact W.zret (v := 0) hx hb hr rfl (fun t ht hW => ⟨0, rfl, trivial, ht⟩) (fun q h => by cases h) dX6_isOnTape_75
        exact loop_10 1002 p0 _ (by (try dsimp only); omega) (by (try dsimp only); omega)  (lv_sub hl [0, 1, 2, 3] rfl)
      ·
        have ic_9 : tsize.toInt < tat.toInt := by first | exact (g_lt rfl rfl).mp c_9 | (have h := mt (g_le rfl rfl).mpr c_9; omega)
        clear c_9
        refine lv_iconst (v := 0) hx hb dX6_isOnTape_41 (by decide) ?_
        exact W.zret (v := 0) hx hb hr rfl (fun t ht hW => ⟨0, rfl, trivial, ht⟩) (fun q h => by cases h) dX6_isOnTape_42
set_option maxHeartbeats 4000000 in
set_option maxRecDepth 100000 in
theorem g_X6_placeAmongWords (l : Launch) (D : va_G) (E : Nat → Nat) (th : Nat) (ta : Nat → Nat) (tsize : Int32) (trule : Nat) (twords : Nat) (tat : Int32) (tword : Int32) (twordAt : Int32) (tvalue : Int32) (tf0 : Nat → Int32) (sv : Nat) (sn : Nat) (sf : Nat → Int32) (hi_t : (0 ≤ tsize.toInt ∧ tsize.toInt ≤ 120)) (hsn : sn < 2147483647) (g0 : 0 ≤ tat.toInt ∧ tat.toInt ≤ tsize.toInt ∧ 0 ≤ twordAt.toInt ∧ twordAt.toInt ≤ tat.toInt) (g1 : sn ≤ 900) : Met l yX6_placeAmongWords (wl yX6_placeAmongWords cX6_placeAmongWords 4 (some .int)) (RM 5 0 0) (rdS_P D E [.ref th] [(th, .inr (6, G6 ta tsize trule twords tat tword twordAt tvalue)), ((ta 0), .inl (E 0, 120, .inl tf0))] [(twords, sv, sn, sf)]) (rd_Q (fun r => (-1 ≤ r.toInt ∧ r.toInt ≤ 901))) 0 0 (fun _ => False) := by
  refine Met.ofW (cc := cX6_placeAmongWords) (maxL := 4) (ret := (some .int)) (by decide) rfl ?_
  intro p e s m args below meth c s₁ B hml hv
  obtain ⟨rfl, hP, hK, hG⟩ := hv
  have hSs : va_S (fun _ => False) s.heap s.heap [] := va_S.rf
  have hx := B.exec; have hb := B.bytes; have hr := B.returns
  have hts := atoms_spec (ws := wl yX6_placeAmongWords cX6_placeAmongWords 4 (some .int)) B.pre
  have htb : ∀ w ∈ tb, w.before _ s = true := fun w h => hts w (List.mem_cons_of_mem _ h)
  have hown : s.vm.findClass RX6 = some m.cls := findClass_of_methodNamed B.named
  have hlocks := B.notSynchronized
  have hP : va_P D vwCl [(th, .inr (6, G6 ta tsize trule twords tat tword twordAt tvalue)), ((ta 0), .inl (E 0, 120, .inl tf0))] s.heap := hP
  have hl := lv_entry ([.ref th]) (n := 4) (Nat.le_of_ble_eq_true rfl)
  rw [lg_entry_eq]
  generalize (lg_sl ([.ref th]) ++ List.replicate (4 - (lg_sl ([.ref th])).length) Slot.unset).toArray = ls at hl ⊢
  have hl : lv_has ls 4 [(0, .ref th)] := hl
  refine lv_iconst (v := 0) hx hb dX6_placeAmongWords_0 (by decide) ?_
  refine lv_istore_n (lv' := [(1, .int 0), (0, .ref th)]) hx hb dX6_placeAmongWords_1 rfl hl (by decide) rfl (fun ls hl => ?_)
  refine lv_iconst (v := 0) hx hb dX6_placeAmongWords_2 (by decide) ?_
  refine lv_istore_n (lv' := [(2, .int 0), (1, .int 0), (0, .ref th)]) hx hb dX6_placeAmongWords_3 rfl hl (by decide) rfl (fun ls hl => ?_)
  refine lv_iconst (v := 0) hx hb dX6_placeAmongWords_4 (by decide) ?_
  refine lv_istore_n (lv' := [(3, .int 0), (2, .int 0), (1, .int 0), (0, .ref th)]) hx hb dX6_placeAmongWords_5 rfl hl (by decide) rfl (fun ls hl => ?_)
  have loop_1 : ∀ (N_3 : Nat) (L3_6 : Int32) (L2_6 : Int32) (L1_6 : Int32)  (ls : Array Slot), 901 - L3_6.toInt + 1 < (N_3 : Int) → (0 ≤ L3_6.toInt ∧ L3_6.toInt ≤ (sn : Nat) + 1 ∧ 0 ≤ L2_6.toInt ∧ L2_6.toInt ≤ L3_6.toInt ∧ 0 ≤ L1_6.toInt ∧ L1_6.toInt ≤ L3_6.toInt) → lv_has ls 4 [(3, .int L3_6), (2, .int L2_6), (1, .int L1_6), (0, .ref th)] → W p l e (headSpec (wl yX6_placeAmongWords cX6_placeAmongWords 4 (some .int)) (RM 5 0 0)).room s m [Value.ref th].toArray below meth c s.heap [] 0 0 (MQ below (rd_Q (fun r => (-1 ≤ r.toInt ∧ r.toInt ≤ 901))) [Value.ref th].toArray s 0 0 (fun _ => False)) (F0 m 6 ls []) := by
    intro N_3
    induction N_3 with
    | zero => intro L3_6 L2_6 L1_6  ls hm v0_6 _; exfalso; omega
    | succ N_3 ih_2 =>
      intro L3_6 L2_6 L1_6 ls hm v0_6 hl
      have lo_L3_6 := i_lo L3_6; have hi_L3_6 := i_hi L3_6
      have lo_L2_6 := i_lo L2_6; have hi_L2_6 := i_hi L2_6
      have lo_L1_6 := i_lo L1_6; have hi_L1_6 := i_hi L1_6
      refine lv_iload_n hx hb dX6_placeAmongWords_6 rfl (lv_at hl 0 rfl) ?_
      refine lv_aload_n hx hb dX6_placeAmongWords_7 rfl (lv_at hl 3 rfl) ?_
      refine va_get (D := D) (ci := 6) (v := .ref twords) (C := RX6) (T := TX6) (N := 8) hx hb htb iX6 hown hK.1 hP 0 rfl rfl 3 (by decide) (htb _ k_161) (fun _ h9 => h9) rfl dX6_placeAmongWords_8 ?_
      refine rd_call (runRV (rest := [.int L3_6]) (As := []) hx hb hml hown htb (g_J0_length_8abf5 l D E twords sv sn sf hsn) ok_J0_length_8abf5 k_606 k_607 k_608 k_12 k_609 ⟨(Nat.le_of_ble_eq_true rfl), (Nat.le_of_ble_eq_true rfl)⟩ ⟨(Nat.le_of_ble_eq_true rfl), (Nat.le_of_ble_eq_true rfl)⟩ hl.1 (Nat.le_of_ble_eq_true rfl) rfl rfl dX6_placeAmongWords_11 (prVT hK 0 rfl hG hSs)) (fun r_4 hw_5 => ?_)
      refine lv_icmp_gt (tgt := 65) hx hb dX6_placeAmongWords_14 (by decide) (fun c_7 => ?_) (fun c_7 => ?_)
      ·
        have ic_7 : r_4.toInt < L3_6.toInt := by first | exact (g_lt rfl rfl).mp c_7 | (have h := mt (g_le rfl rfl).mpr c_7; omega)
        clear c_7
        refine lv_iconst (v := (-1)) hx hb dX6_placeAmongWords_65 (by decide) ?_
        exact W.iret (v := (-1)) hx hb hr (fun t ht hW => ⟨(-1), rfl, (by have h0 := t_m1; (try dsimp only); omega), ht⟩) (fun q h => by cases h) dX6_placeAmongWords_66
      ·
        have ic_7 : L3_6.toInt ≤ r_4.toInt := by first | exact (g_le rfl rfl).mp c_7 | (have h := mt (g_lt rfl rfl).mpr c_7; omega)
        clear c_7
        refine lv_iload_n hx hb dX6_placeAmongWords_17 rfl (lv_at hl 0 rfl) ?_
        refine lv_aload_n hx hb dX6_placeAmongWords_18 rfl (lv_at hl 3 rfl) ?_
        refine va_get (D := D) (ci := 6) (v := .ref twords) (C := RX6) (T := TX6) (N := 8) hx hb htb iX6 hown hK.1 hP 0 rfl rfl 3 (by decide) (htb _ k_161) (fun _ h9 => h9) rfl dX6_placeAmongWords_19 ?_
        refine rd_call (runRV (rest := [.int L3_6]) (As := []) hx hb hml hown htb (g_J0_length_8abf5 l D E twords sv sn sf hsn) ok_J0_length_8abf5 k_606 k_607 k_608 k_12 k_609 ⟨(Nat.le_of_ble_eq_true rfl), (Nat.le_of_ble_eq_true rfl)⟩ ⟨(Nat.le_of_ble_eq_true rfl), (Nat.le_of_ble_eq_true rfl)⟩ hl.1 (Nat.le_of_ble_eq_true rfl) rfl rfl dX6_placeAmongWords_22 (prVT hK 0 rfl hG hSs)) (fun r_8 hw_9 => ?_)
        refine lv_icmp_eq (tgt := 41) hx hb dX6_placeAmongWords_25 (by decide) (fun c_11 => ?_) (fun c_11 => ?_)
        ·
          have ic_11 : L3_6.toInt = r_8.toInt := (g_eq rfl rfl).mp c_11
          clear c_11
          refine lv_aload_n hx hb dX6_placeAmongWords_41 rfl (lv_at hl 3 rfl) ?_
          refine lv_iload_n hx hb dX6_placeAmongWords_42 rfl (lv_at hl 1 rfl) ?_
          refine lv_iload_n hx hb dX6_placeAmongWords_43 rfl (lv_at hl 0 rfl) ?_
          refine rd_call (runRV (rest := []) (As := [.int L2_6, .int L3_6]) hx hb hml hown htb (g_X6_isOnTape l D E th ta tsize trule twords tat tword twordAt tvalue tf0 sv sn sf L2_6 L3_6 (by (try dsimp only); omega) hsn (by (try dsimp only); omega) (by (try dsimp only); omega)) ok_X6_isOnTape k_654 k_656 ks_14 k_5 k_657 ⟨(Nat.le_of_ble_eq_true rfl), (Nat.le_of_ble_eq_true rfl)⟩ ⟨(Nat.le_of_ble_eq_true rfl), (Nat.le_of_ble_eq_true rfl)⟩ hl.1 (Nat.le_of_ble_eq_true rfl) rfl rfl dX6_placeAmongWords_44 (prVS (hP.sub (ws' := [(th, .inr (6, G6 ta tsize trule twords tat tword twordAt tvalue)), ((ta 0), .inl (E 0, 120, .inl tf0))]) [0, 1] rfl) hK rfl rfl 0 rfl hG hSs)) (fun r_12 hw_13 => ?_)
          refine lv_if_eq (tgt := 52) hx hb dX6_placeAmongWords_47 (by decide) (fun c_15 => ?_) (fun c_15 => ?_)
          ·
            have ic_15 : r_12.toInt = 0 := (g_eq rfl t_0).mp c_15
            clear c_15
            obtain ⟨z_16, ez_16⟩ : ∃ y : Int32, y = L1_6 + 1 := ⟨_, rfl⟩
            have jz_16 : z_16.toInt = L1_6.toInt + 1 := by rw [ez_16]; exact g_add rfl t_1 (by omega) (by omega)
            refine lv_iinc (v := z_16) (lv' := [(1, .int z_16), (3, .int L3_6), (2, .int L2_6), (0, .ref th)]) hx hb dX6_placeAmongWords_52 hl (k := 2) rfl (by rw [ez_16]; rfl) (by decide) rfl (fun ls hl => ?_)
            refine lv_iload_n hx hb dX6_placeAmongWords_55 rfl (lv_at hl 1 rfl) ?_
            refine lv_iconst (v := 1) hx hb dX6_placeAmongWords_56 (by decide) ?_
            refine lv_iadd hx hb dX6_placeAmongWords_57 ?_
            refine lv_topi (fun z_17 ez_17 => ?_)
            have jz_17 : z_17.toInt = L3_6.toInt + 1 := by rw [ez_17]; exact g_add rfl t_1 (by omega) (by omega)
            refine lv_istore_n (lv' := [(2, .int z_17), (1, .int z_16), (3, .int L3_6), (0, .ref th)]) hx hb dX6_placeAmongWords_58 rfl hl (by decide) rfl (fun ls hl => ?_)
            obtain ⟨z_18, ez_18⟩ : ∃ y : Int32, y = L3_6 + 1 := ⟨_, rfl⟩
            have jz_18 : z_18.toInt = L3_6.toInt + 1 := by rw [ez_18]; exact g_add rfl t_1 (by omega) (by omega)
            refine lv_iinc (v := z_18) (lv' := [(3, .int z_18), (2, .int z_17), (1, .int z_16), (0, .ref th)]) hx hb dX6_placeAmongWords_59 hl (k := 2) rfl (by rw [ez_18]; rfl) (by decide) rfl (fun ls hl => ?_)
            refine lv_goto (tgt := 6) hx hb dX6_placeAmongWords_62 (by decide) ?_
            exact ih_2 z_18 z_17 z_16 _ (by (try dsimp only); omega) (by (try dsimp only); omega) (lv_sub hl [0, 1, 2, 3] rfl)
          ·
            have ic_15 : r_12.toInt ≠ 0 := mt (g_eq rfl t_0).mpr c_15
            clear c_15
            refine lv_iload_n hx hb dX6_placeAmongWords_50 rfl (lv_at hl 2 rfl) ?_
            exact W.iret (v := L1_6) hx hb hr (fun t ht hW => ⟨L1_6, rfl, (by (try dsimp only); omega), ht⟩) (fun q h => by cases h) dX6_placeAmongWords_51
        ·
          have ic_11 : L3_6.toInt ≠ r_8.toInt := mt (g_eq rfl rfl).mpr c_11
          clear c_11
          refine lv_aload_n hx hb dX6_placeAmongWords_28 rfl (lv_at hl 3 rfl) ?_
          refine va_get (D := D) (ci := 6) (v := .ref twords) (C := RX6) (T := TX6) (N := 8) hx hb htb iX6 hown hK.1 hP 0 rfl rfl 3 (by decide) (htb _ k_161) (fun _ h9 => h9) rfl dX6_placeAmongWords_29 ?_
          refine lv_iload_n hx hb dX6_placeAmongWords_32 rfl (lv_at hl 0 rfl) ?_
          refine rd_call (runRV (rest := []) (As := [.int L3_6]) hx hb hml hown htb (g_J0_charAt_5068e l D E twords sv sn sf L3_6 hsn (by omega)) ok_J0_charAt_5068e k_616 k_617 k_618 k_12 k_619 ⟨(Nat.le_of_ble_eq_true rfl), (Nat.le_of_ble_eq_true rfl)⟩ ⟨(Nat.le_of_ble_eq_true rfl), (Nat.le_of_ble_eq_true rfl)⟩ hl.1 (Nat.le_of_ble_eq_true rfl) rfl rfl dX6_placeAmongWords_33 (prVT hK 0 rfl hG hSs)) (fun r_19 hw_20 => ?_)
          refine lv_bipush (v := 32) hx hb dX6_placeAmongWords_36 (by decide) ?_
          refine lv_icmp_ne (tgt := 59) hx hb dX6_placeAmongWords_38 (by decide) (fun c_22 => ?_) (fun c_22 => ?_)
          ·
            have ic_22 : r_19.toInt ≠ 32 := mt (g_eq rfl t_32).mpr c_22
            clear c_22
            obtain ⟨z_23, ez_23⟩ : ∃ y : Int32, y = L3_6 + 1 := ⟨_, rfl⟩
            have jz_23 : z_23.toInt = L3_6.toInt + 1 := by rw [ez_23]; exact g_add rfl t_1 (by omega) (by omega)
            refine lv_iinc (v := z_23) (lv' := [(3, .int z_23), (2, .int L2_6), (1, .int L1_6), (0, .ref th)]) hx hb dX6_placeAmongWords_59 hl (k := 0) rfl (by rw [ez_23]; rfl) (by decide) rfl (fun ls hl => ?_)
            refine lv_goto (tgt := 6) hx hb dX6_placeAmongWords_62 (by decide) ?_
            exact ih_2 z_23 L2_6 L1_6 _ (by (try dsimp only); omega) (by (try dsimp only); omega) (lv_sub hl [0, 1, 2, 3] rfl)
          ·
            have ic_22 : r_19.toInt = 32 := (g_eq rfl t_32).mp c_22
            clear c_22
            refine lv_aload_n hx hb dX6_placeAmongWords_41 rfl (lv_at hl 3 rfl) ?_
            refine lv_iload_n hx hb dX6_placeAmongWords_42 rfl (lv_at hl 1 rfl) ?_
            refine lv_iload_n hx hb dX6_placeAmongWords_43 rfl (lv_at hl 0 rfl) ?_
            refine rd_call (runRV (rest := []) (As := [.int L2_6, .int L3_6]) hx hb hml hown htb (g_X6_isOnTape l D E th ta tsize trule twords tat tword twordAt tvalue tf0 sv sn sf L2_6 L3_6 (by (try dsimp only); omega) hsn (by (try dsimp only); omega) (by (try dsimp only); omega)) ok_X6_isOnTape k_654 k_656 ks_14 k_5 k_657 ⟨(Nat.le_of_ble_eq_true rfl), (Nat.le_of_ble_eq_true rfl)⟩ ⟨(Nat.le_of_ble_eq_true rfl), (Nat.le_of_ble_eq_true rfl)⟩ hl.1 (Nat.le_of_ble_eq_true rfl) rfl rfl dX6_placeAmongWords_44 (prVS (hP.sub (ws' := [(th, .inr (6, G6 ta tsize trule twords tat tword twordAt tvalue)), ((ta 0), .inl (E 0, 120, .inl tf0))]) [0, 1] rfl) hK rfl rfl 0 rfl hG hSs)) (fun r_24 hw_25 => ?_)
            refine lv_if_eq (tgt := 52) hx hb dX6_placeAmongWords_47 (by decide) (fun c_27 => ?_) (fun c_27 => ?_)
            ·
              have ic_27 : r_24.toInt = 0 := (g_eq rfl t_0).mp c_27
              clear c_27
              obtain ⟨z_28, ez_28⟩ : ∃ y : Int32, y = L1_6 + 1 := ⟨_, rfl⟩
              have jz_28 : z_28.toInt = L1_6.toInt + 1 := by rw [ez_28]; exact g_add rfl t_1 (by omega) (by omega)
              refine lv_iinc (v := z_28) (lv' := [(1, .int z_28), (3, .int L3_6), (2, .int L2_6), (0, .ref th)]) hx hb dX6_placeAmongWords_52 hl (k := 2) rfl (by rw [ez_28]; rfl) (by decide) rfl (fun ls hl => ?_)
              refine lv_iload_n hx hb dX6_placeAmongWords_55 rfl (lv_at hl 1 rfl) ?_
              refine lv_iconst (v := 1) hx hb dX6_placeAmongWords_56 (by decide) ?_
              refine lv_iadd hx hb dX6_placeAmongWords_57 ?_
              refine lv_topi (fun z_29 ez_29 => ?_)
              have jz_29 : z_29.toInt = L3_6.toInt + 1 := by rw [ez_29]; exact g_add rfl t_1 (by omega) (by omega)
              refine lv_istore_n (lv' := [(2, .int z_29), (1, .int z_28), (3, .int L3_6), (0, .ref th)]) hx hb dX6_placeAmongWords_58 rfl hl (by decide) rfl (fun ls hl => ?_)
              obtain ⟨z_30, ez_30⟩ : ∃ y : Int32, y = L3_6 + 1 := ⟨_, rfl⟩
              have jz_30 : z_30.toInt = L3_6.toInt + 1 := by rw [ez_30]; exact g_add rfl t_1 (by omega) (by omega)
              refine lv_iinc (v := z_30) (lv' := [(3, .int z_30), (2, .int z_29), (1, .int z_28), (0, .ref th)]) hx hb dX6_placeAmongWords_59 hl (k := 2) rfl (by rw [ez_30]; rfl) (by decide) rfl (fun ls hl => ?_)
              refine lv_goto (tgt := 6) hx hb dX6_placeAmongWords_62 (by decide) ?_
              exact ih_2 z_30 z_29 z_28 _ (by (try dsimp only); omega) (by (try dsimp only); omega) (lv_sub hl [0, 1, 2, 3] rfl)
            ·
              have ic_27 : r_24.toInt ≠ 0 := mt (g_eq rfl t_0).mpr c_27
              clear c_27
              refine lv_iload_n hx hb dX6_placeAmongWords_50 rfl (lv_at hl 2 rfl) ?_
              exact W.iret (v := L1_6) hx hb hr (fun t ht hW => ⟨L1_6, rfl, (by (try dsimp only); omega), ht⟩) (fun q h => by cases h) dX6_placeAmongWords_51
  exact loop_1 903 0 0 0 _ (by have h0 := t_0; (try dsimp only); omega) (by have h0 := t_0; (try dsimp only); omega)  (lv_sub hl [0, 1, 2, 3] rfl)
set_option maxHeartbeats 4000000 in
set_option maxRecDepth 100000 in
theorem g_X6_takeLetters (l : Launch) (D : va_G) (E : Nat → Nat) (th : Nat) (ta : Nat → Nat) (tsize : Int32) (trule : Nat) (twords : Nat) (tat : Int32) (tword : Int32) (twordAt : Int32) (tvalue : Int32) (tf0 : Nat → Int32) (sv : Nat) (sn : Nat) (sf : Nat → Int32) (sz : Nat) (hi_t : (0 ≤ tsize.toInt ∧ tsize.toInt ≤ 120)) (hsn : sn < 2147483647) (g0 : 0 ≤ tat.toInt ∧ tat.toInt ≤ tsize.toInt ∧ 0 ≤ twordAt.toInt ∧ twordAt.toInt ≤ tat.toInt) (g1 : sn ≤ 900) : Met l yX6_takeLetters (wl yX6_takeLetters cX6_takeLetters 2 none) (RM 6 0 0) (muS_P D E [.ref th] [(th, .inr (6, G6 ta tsize trule twords tat tword twordAt tvalue)), ((ta 0), .inl (E 0, 120, .inl tf0))] sz [(twords, sv, sn, sf)]) (va_Qv (fun (u : (Int32) × (Int32) × (Int32)) => (tat.toInt ≤ u.1.toInt ∧ u.1.toInt ≤ tsize.toInt)) (mu_B D (va_A [(th, .inr (6, G6 ta tsize trule twords tat tword twordAt tvalue)), ((ta 0), .inl (E 0, 120, .inl tf0))] sz) (fun (u : (Int32) × (Int32) × (Int32)) => [(th, .inr (6, G6 ta tsize trule twords u.1 u.2.2 twordAt u.2.1)), ((ta 0), .inl (E 0, 120, .inl tf0))])) (va_A [(th, .inr (6, G6 ta tsize trule twords tat tword twordAt tvalue)), ((ta 0), .inl (E 0, 120, .inl tf0))] sz)) 0 0 (va_A [(th, .inr (6, G6 ta tsize trule twords tat tword twordAt tvalue)), ((ta 0), .inl (E 0, 120, .inl tf0))] sz) := by
  refine Met.ofW (cc := cX6_takeLetters) (maxL := 2) (ret := none) (by decide) rfl ?_
  intro p e s m args below meth c s₁ B hml hv
  obtain ⟨rfl, hsz, hP, hK, hD0, hG⟩ := hv
  have hx := B.exec; have hb := B.bytes; have hr := B.returns
  have hts := atoms_spec (ws := wl yX6_takeLetters cX6_takeLetters 2 none) B.pre
  have htb : ∀ w ∈ tb, w.before _ s = true := fun w h => hts w (List.mem_cons_of_mem _ h)
  have hown : s.vm.findClass RX6 = some m.cls := findClass_of_methodNamed B.named
  have hlocks := B.notSynchronized
  subst hsz
  have hD := hD0.self (sz := s.heap.size)
  generalize hAe : va_A [(th, .inr (6, G6 ta tsize trule twords tat tword twordAt tvalue)), ((ta 0), .inl (E 0, 120, .inl tf0))] s.heap.size = A at hD hG ⊢
  have hA : ∀ q : Nat, s.heap.size ≤ q → A q := fun q h => by rw [← hAe]; exact Or.inr h
  have hS : va_S A s.heap s.heap [] := va_S.rf
  have hP : va_P D vwCl [(th, .inr (6, G6 ta tsize trule twords tat tword twordAt tvalue)), ((ta 0), .inl (E 0, 120, .inl tf0))] s.heap := hP
  have hl := lv_entry ([.ref th]) (n := 2) (Nat.le_of_ble_eq_true rfl)
  rw [lg_entry_eq]
  generalize (lg_sl ([.ref th]) ++ List.replicate (2 - (lg_sl ([.ref th])).length) Slot.unset).toArray = ls at hl ⊢
  have hl : lv_has ls 2 [(0, .ref th)] := hl
  have loop_1 : ∀ (N_3 : Nat) (tat_0 : Int32) (H : Heap) (locs : List Loc) (ls : Array Slot), tsize.toInt - tat_0.toInt < (N_3 : Int) → (tat.toInt ≤ tat_0.toInt ∧ tat_0.toInt ≤ tsize.toInt) → va_P D vwCl [(th, .inr (6, G6 ta tsize trule twords tat_0 tword twordAt tvalue)), ((ta 0), .inl (E 0, 120, .inl tf0))] H → va_D A [(th, .inr (6, G6 ta tsize trule twords tat_0 tword twordAt tvalue)), ((ta 0), .inl (E 0, 120, .inl tf0))] → va_S A s.heap H locs → lv_has ls 2 [(0, .ref th)] → W p l e (headSpec (wl yX6_takeLetters cX6_takeLetters 2 none) (RM 6 0 0)).room s m [Value.ref th].toArray below meth c H locs 0 0 (MQ below (va_Qv (fun (u : (Int32) × (Int32) × (Int32)) => (tat.toInt ≤ u.1.toInt ∧ u.1.toInt ≤ tsize.toInt)) (mu_B D A (fun (u : (Int32) × (Int32) × (Int32)) => [(th, .inr (6, G6 ta tsize trule twords u.1 u.2.2 twordAt u.2.1)), ((ta 0), .inl (E 0, 120, .inl tf0))])) A) [Value.ref th].toArray s 0 0 A) (F0 m 0 ls []) := by
    intro N_3
    induction N_3 with
    | zero => intro tat_0 H locs ls hm v0_0 _ _ _ _; exfalso; omega
    | succ N_3 ih_2 =>
      intro tat_0 H locs ls hm v0_0 hP hD hS hl
      have lo_tat_0 := i_lo tat_0; have hi_tat_0 := i_hi tat_0
      refine lv_aload_n hx hb dX6_takeLetters_0 rfl (lv_at hl 0 rfl) ?_
      refine va_get (D := D) (ci := 6) (v := .int tat_0) (C := RX6) (T := TX6) (N := 8) hx hb htb iX6 hown hK.1 hP 0 rfl rfl 4 (by decide) (htb _ k_162) (fun _ h9 => h9) rfl dX6_takeLetters_1 ?_
      refine lv_aload_n hx hb dX6_takeLetters_4 rfl (lv_at hl 0 rfl) ?_
      refine va_get (D := D) (ci := 6) (v := .int tsize) (C := RX6) (T := TX6) (N := 8) hx hb htb iX6 hown hK.1 hP 0 rfl rfl 1 (by decide) (htb _ k_158) (fun _ h9 => h9) rfl dX6_takeLetters_5 ?_
      refine lv_icmp_ge (tgt := 39) hx hb dX6_takeLetters_8 (by decide) (fun c_4 => ?_) (fun c_4 => ?_)
      ·
        have ic_4 : tsize.toInt ≤ tat_0.toInt := by first | exact (g_le rfl rfl).mp c_4 | (have h := mt (g_lt rfl rfl).mpr c_4; omega)
        clear c_4
        refine lv_aload_n hx hb dX6_takeLetters_39 rfl (lv_at hl 0 rfl) ?_
        refine rd_call (runRV (rest := []) (As := []) hx hb hml hown htb (g_X6_placeAmongWords l D E th ta tsize trule twords tat_0 tword twordAt tvalue tf0 sv sn sf (by (try dsimp only); omega) hsn (by (try dsimp only); omega) g1) ok_X6_placeAmongWords k_602 k_604 ks_13 k_5 k_605 ⟨(Nat.le_of_ble_eq_true rfl), (Nat.le_of_ble_eq_true rfl)⟩ ⟨(Nat.le_of_ble_eq_true rfl), (Nat.le_of_ble_eq_true rfl)⟩ hl.1 (Nat.le_of_ble_eq_true rfl) rfl rfl dX6_takeLetters_40 (prVS (hP.sub (ws' := [(th, .inr (6, G6 ta tsize trule twords tat_0 tword twordAt tvalue)), ((ta 0), .inl (E 0, 120, .inl tf0))]) [0, 1] rfl) hK rfl rfl 0 rfl hG hS)) (fun r_5 hw_6 => ?_)
        refine lv_istore_n (lv' := [(1, .int r_5), (0, .ref th)]) hx hb dX6_takeLetters_43 rfl hl (by decide) rfl (fun ls hl => ?_)
        refine lv_aload_n hx hb dX6_takeLetters_44 rfl (lv_at hl 1 rfl) ?_
        refine lv_iload_n hx hb dX6_takeLetters_45 rfl (lv_at hl 0 rfl) ?_
        refine lv_iconst (v := 4) hx hb dX6_takeLetters_46 (by decide) ?_
        refine lv_isub hx hb dX6_takeLetters_47 ?_
        refine lv_topi (fun z_8 ez_8 => ?_)
        have jz_8 : z_8.toInt = r_5.toInt - 4 := by rw [ez_8]; exact g_sub rfl t_4 (by omega) (by omega)
        refine va_put (D := D) (ci := 6) (v := .int z_8) (ty := .int) (C := RX6) (T := TX6) (N := 8) hx hb htb iX6 tyX6 tyX6_ok nmX6 hown hK.1 hP hD hS 0 rfl rfl 7 (by decide) (htb _ k_165) (fun _ h9 => h9) rfl (by decide +kernel) rfl rfl (Nat.le_of_ble_eq_true rfl) dX6_takeLetters_48 (fun H locs hP hD hS => ?_)
        have hP : va_P D vwCl [(th, .inr (6, G6 ta tsize trule twords tat_0 tword twordAt z_8)), ((ta 0), .inl (E 0, 120, .inl tf0))] H := hP
        have hD := toW hP hD rfl
        refine lv_aload_n hx hb dX6_takeLetters_51 rfl (lv_at hl 1 rfl) ?_
        refine lv_iload_n hx hb dX6_takeLetters_52 rfl (lv_at hl 0 rfl) ?_
        refine lv_iconst (v := (-1)) hx hb dX6_takeLetters_53 (by decide) ?_
        refine lv_icmp_ne (tgt := 61) hx hb dX6_takeLetters_54 (by decide) (fun c_9 => ?_) (fun c_9 => ?_)
        ·
          have ic_9 : r_5.toInt ≠ -1 := mt (g_eq rfl t_m1).mpr c_9
          clear c_9
          refine lv_iload_n hx hb dX6_takeLetters_61 rfl (lv_at hl 0 rfl) ?_
          refine lv_iconst (v := 4) hx hb dX6_takeLetters_62 (by decide) ?_
          refine lv_icmp_ge (tgt := 72) hx hb dX6_takeLetters_63 (by decide) (fun c_10 => ?_) (fun c_10 => ?_)
          ·
            have ic_10 : 4 ≤ r_5.toInt := by first | exact (g_le t_4 rfl).mp c_10 | (have h := mt (g_lt rfl t_4).mpr c_10; omega)
            clear c_10
            refine lv_iconst (v := 3) hx hb dX6_takeLetters_72 (by decide) ?_
            refine va_put (D := D) (ci := 6) (v := .int 3) (ty := .int) (C := RX6) (T := TX6) (N := 8) hx hb htb iX6 tyX6 tyX6_ok nmX6 hown hK.1 hP hD hS 0 rfl rfl 5 (by decide) (htb _ k_163) (fun _ h9 => h9) rfl (by decide +kernel) rfl rfl (Nat.le_of_ble_eq_true rfl) dX6_takeLetters_73 (fun H locs hP hD hS => ?_)
            have hP : va_P D vwCl [(th, .inr (6, G6 ta tsize trule twords tat_0 3 twordAt z_8)), ((ta 0), .inl (E 0, 120, .inl tf0))] H := hP
            have hD := toW hP hD rfl
            have hP9 := hP.sub (ws' := [(th, .inr (6, G6 ta tsize trule twords tat_0 3 twordAt z_8)), ((ta 0), .inl (E 0, 120, .inl tf0))]) [0, 1] rfl
            have hD9 := hD.sub (ws' := [(th, .inr (6, G6 ta tsize trule twords tat_0 3 twordAt z_8)), ((ta 0), .inl (E 0, 120, .inl tf0))]) [0, 1] (by decide) rfl
            exact W.vret hx hb hr (fun t ht hW => ⟨⟨(tat_0, z_8, (3 : Int32)), rfl, (by have h0 := t_3; (try dsimp only); omega), by rw [ht]; exact hP9, hD9⟩, hS.F ht⟩) hS.2.2 dX6_takeLetters_76
          ·
            have ic_10 : r_5.toInt < 4 := by first | exact (g_lt rfl t_4).mp c_10 | (have h := mt (g_le t_4 rfl).mpr c_10; omega)
            clear c_10
            refine lv_iconst (v := 4) hx hb dX6_takeLetters_66 (by decide) ?_
            refine lv_iload_n hx hb dX6_takeLetters_67 rfl (lv_at hl 0 rfl) ?_
            refine lv_iadd hx hb dX6_takeLetters_68 ?_
            refine lv_topi (fun z_11 ez_11 => ?_)
            have jz_11 : z_11.toInt = 4 + r_5.toInt := by rw [ez_11]; exact g_add t_4 rfl (by omega) (by omega)
            refine lv_goto (tgt := 73) hx hb dX6_takeLetters_69 (by decide) ?_
            refine va_put (D := D) (ci := 6) (v := .int z_11) (ty := .int) (C := RX6) (T := TX6) (N := 8) hx hb htb iX6 tyX6 tyX6_ok nmX6 hown hK.1 hP hD hS 0 rfl rfl 5 (by decide) (htb _ k_163) (fun _ h9 => h9) rfl (by decide +kernel) rfl rfl (Nat.le_of_ble_eq_true rfl) dX6_takeLetters_73 (fun H locs hP hD hS => ?_)
            have hP : va_P D vwCl [(th, .inr (6, G6 ta tsize trule twords tat_0 z_11 twordAt z_8)), ((ta 0), .inl (E 0, 120, .inl tf0))] H := hP
            have hD := toW hP hD rfl
            have hP9 := hP.sub (ws' := [(th, .inr (6, G6 ta tsize trule twords tat_0 z_11 twordAt z_8)), ((ta 0), .inl (E 0, 120, .inl tf0))]) [0, 1] rfl
            have hD9 := hD.sub (ws' := [(th, .inr (6, G6 ta tsize trule twords tat_0 z_11 twordAt z_8)), ((ta 0), .inl (E 0, 120, .inl tf0))]) [0, 1] (by decide) rfl
            exact W.vret hx hb hr (fun t ht hW => ⟨⟨(tat_0, z_8, z_11), rfl, (by (try dsimp only); omega), by rw [ht]; exact hP9, hD9⟩, hS.F ht⟩) hS.2.2 dX6_takeLetters_76
        ·
          have ic_9 : r_5.toInt = -1 := (g_eq rfl t_m1).mp c_9
          clear c_9
          refine lv_iconst (v := 1) hx hb dX6_takeLetters_57 (by decide) ?_
          refine lv_goto (tgt := 73) hx hb dX6_takeLetters_58 (by decide) ?_
          refine va_put (D := D) (ci := 6) (v := .int 1) (ty := .int) (C := RX6) (T := TX6) (N := 8) hx hb htb iX6 tyX6 tyX6_ok nmX6 hown hK.1 hP hD hS 0 rfl rfl 5 (by decide) (htb _ k_163) (fun _ h9 => h9) rfl (by decide +kernel) rfl rfl (Nat.le_of_ble_eq_true rfl) dX6_takeLetters_73 (fun H locs hP hD hS => ?_)
          have hP : va_P D vwCl [(th, .inr (6, G6 ta tsize trule twords tat_0 1 twordAt z_8)), ((ta 0), .inl (E 0, 120, .inl tf0))] H := hP
          have hD := toW hP hD rfl
          have hP9 := hP.sub (ws' := [(th, .inr (6, G6 ta tsize trule twords tat_0 1 twordAt z_8)), ((ta 0), .inl (E 0, 120, .inl tf0))]) [0, 1] rfl
          have hD9 := hD.sub (ws' := [(th, .inr (6, G6 ta tsize trule twords tat_0 1 twordAt z_8)), ((ta 0), .inl (E 0, 120, .inl tf0))]) [0, 1] (by decide) rfl
          exact W.vret hx hb hr (fun t ht hW => ⟨⟨(tat_0, z_8, (1 : Int32)), rfl, (by have h0 := t_1; (try dsimp only); omega), by rw [ht]; exact hP9, hD9⟩, hS.F ht⟩) hS.2.2 dX6_takeLetters_76
      ·
        have ic_4 : tat_0.toInt < tsize.toInt := by first | exact (g_lt rfl rfl).mp c_4 | (have h := mt (g_le rfl rfl).mpr c_4; omega)
        clear c_4
        refine lv_aload_n hx hb dX6_takeLetters_11 rfl (lv_at hl 0 rfl) ?_
        refine va_get (D := D) (ci := 6) (v := .ref (ta 0)) (C := RX6) (T := TX6) (N := 8) hx hb htb iX6 hown hK.1 hP 0 rfl rfl 0 (by decide) (htb _ k_157) (fun _ h9 => h9) rfl dX6_takeLetters_12 ?_
        refine lv_aload_n hx hb dX6_takeLetters_15 rfl (lv_at hl 0 rfl) ?_
        refine va_get (D := D) (ci := 6) (v := .int tat_0) (C := RX6) (T := TX6) (N := 8) hx hb htb iX6 hown hK.1 hP 0 rfl rfl 4 (by decide) (htb _ k_162) (fun _ h9 => h9) rfl dX6_takeLetters_16 ?_
        refine va_iald hx hb hK.1 hP 1 0 rfl rfl (g_in rfl (by omega) (by omega)) dX6_takeLetters_19 ?_
        refine lv_topi (fun z_12 ez_12 => ?_)
        have kz_12 := congrArg Int32.toInt ez_12
        refine callRS (rest := []) (As := [.int z_12]) hx hb hml hown htb hK (g_X6_isLetter l D E z_12 ) ok_X6_isLetter k_595 k_596 k_5 k_597 ⟨(Nat.le_of_ble_eq_true rfl), (Nat.le_of_ble_eq_true rfl)⟩ ⟨(Nat.le_of_ble_eq_true rfl), (Nat.le_of_ble_eq_true rfl)⟩ hl.1 (Nat.le_of_ble_eq_true rfl) rfl rfl dX6_takeLetters_20 (hP.sub (ws' := ([] : va_W)) [] rfl) (fun r_13 hw_14 => ?_)
        rcases hw_14 with ⟨hr_13, hw_14⟩ | ⟨hr_13, hw_14⟩
        ·
          refine W_top (y := .int 1) (by rw [hr_13]) ?_
          refine lv_if_eq (tgt := 39) hx hb dX6_takeLetters_23 (by decide) (fun c_16 => absurd c_16 (by decide)) (fun c_16 => ?_)
          refine lv_aload_n hx hb dX6_takeLetters_26 rfl (lv_at hl 0 rfl) ?_
          refine lv_dup hx hb dX6_takeLetters_27 rfl ?_
          refine va_get (D := D) (ci := 6) (v := .int tat_0) (C := RX6) (T := TX6) (N := 8) hx hb htb iX6 hown hK.1 hP 0 rfl rfl 4 (by decide) (htb _ k_162) (fun _ h9 => h9) rfl dX6_takeLetters_28 ?_
          refine lv_iconst (v := 1) hx hb dX6_takeLetters_31 (by decide) ?_
          refine lv_iadd hx hb dX6_takeLetters_32 ?_
          refine lv_topi (fun z_17 ez_17 => ?_)
          have jz_17 : z_17.toInt = tat_0.toInt + 1 := by rw [ez_17]; exact g_add rfl t_1 (by omega) (by omega)
          refine va_put (D := D) (ci := 6) (v := .int z_17) (ty := .int) (C := RX6) (T := TX6) (N := 8) hx hb htb iX6 tyX6 tyX6_ok nmX6 hown hK.1 hP hD hS 0 rfl rfl 4 (by decide) (htb _ k_162) (fun _ h9 => h9) rfl (by decide +kernel) rfl rfl (Nat.le_of_ble_eq_true rfl) dX6_takeLetters_33 (fun H locs hP hD hS => ?_)
          have hP : va_P D vwCl [(th, .inr (6, G6 ta tsize trule twords z_17 tword twordAt tvalue)), ((ta 0), .inl (E 0, 120, .inl tf0))] H := hP
          have hD := toW hP hD rfl
          refine lv_goto (tgt := 0) hx hb dX6_takeLetters_36 (by decide) ?_
          exact ih_2 z_17 _ _ _ (by (try dsimp only); omega) (by (try dsimp only); omega) hP hD hS (lv_sub hl [0] rfl)
        ·
          refine W_top (y := .int 0) (by rw [hr_13]) ?_
          refine lv_if_eq (tgt := 39) hx hb dX6_takeLetters_23 (by decide) (fun c_18 => ?_) (fun c_18 => absurd (by decide) c_18)
          refine lv_aload_n hx hb dX6_takeLetters_39 rfl (lv_at hl 0 rfl) ?_
          refine rd_call (runRV (rest := []) (As := []) hx hb hml hown htb (g_X6_placeAmongWords l D E th ta tsize trule twords tat_0 tword twordAt tvalue tf0 sv sn sf (by (try dsimp only); omega) hsn (by (try dsimp only); omega) g1) ok_X6_placeAmongWords k_602 k_604 ks_13 k_5 k_605 ⟨(Nat.le_of_ble_eq_true rfl), (Nat.le_of_ble_eq_true rfl)⟩ ⟨(Nat.le_of_ble_eq_true rfl), (Nat.le_of_ble_eq_true rfl)⟩ hl.1 (Nat.le_of_ble_eq_true rfl) rfl rfl dX6_takeLetters_40 (prVS (hP.sub (ws' := [(th, .inr (6, G6 ta tsize trule twords tat_0 tword twordAt tvalue)), ((ta 0), .inl (E 0, 120, .inl tf0))]) [0, 1] rfl) hK rfl rfl 0 rfl hG hS)) (fun r_19 hw_20 => ?_)
          refine lv_istore_n (lv' := [(1, .int r_19), (0, .ref th)]) hx hb dX6_takeLetters_43 rfl hl (by decide) rfl (fun ls hl => ?_)
          refine lv_aload_n hx hb dX6_takeLetters_44 rfl (lv_at hl 1 rfl) ?_
          refine lv_iload_n hx hb dX6_takeLetters_45 rfl (lv_at hl 0 rfl) ?_
          refine lv_iconst (v := 4) hx hb dX6_takeLetters_46 (by decide) ?_
          refine lv_isub hx hb dX6_takeLetters_47 ?_
          refine lv_topi (fun z_22 ez_22 => ?_)
          have jz_22 : z_22.toInt = r_19.toInt - 4 := by rw [ez_22]; exact g_sub rfl t_4 (by omega) (by omega)
          refine va_put (D := D) (ci := 6) (v := .int z_22) (ty := .int) (C := RX6) (T := TX6) (N := 8) hx hb htb iX6 tyX6 tyX6_ok nmX6 hown hK.1 hP hD hS 0 rfl rfl 7 (by decide) (htb _ k_165) (fun _ h9 => h9) rfl (by decide +kernel) rfl rfl (Nat.le_of_ble_eq_true rfl) dX6_takeLetters_48 (fun H locs hP hD hS => ?_)
          have hP : va_P D vwCl [(th, .inr (6, G6 ta tsize trule twords tat_0 tword twordAt z_22)), ((ta 0), .inl (E 0, 120, .inl tf0))] H := hP
          have hD := toW hP hD rfl
          refine lv_aload_n hx hb dX6_takeLetters_51 rfl (lv_at hl 1 rfl) ?_
          refine lv_iload_n hx hb dX6_takeLetters_52 rfl (lv_at hl 0 rfl) ?_
          refine lv_iconst (v := (-1)) hx hb dX6_takeLetters_53 (by decide) ?_
          refine lv_icmp_ne (tgt := 61) hx hb dX6_takeLetters_54 (by decide) (fun c_23 => ?_) (fun c_23 => ?_)
          ·
            have ic_23 : r_19.toInt ≠ -1 := mt (g_eq rfl t_m1).mpr c_23
            clear c_23
            refine lv_iload_n hx hb dX6_takeLetters_61 rfl (lv_at hl 0 rfl) ?_
            refine lv_iconst (v := 4) hx hb dX6_takeLetters_62 (by decide) ?_
            refine lv_icmp_ge (tgt := 72) hx hb dX6_takeLetters_63 (by decide) (fun c_24 => ?_) (fun c_24 => ?_)
            ·
              have ic_24 : 4 ≤ r_19.toInt := by first | exact (g_le t_4 rfl).mp c_24 | (have h := mt (g_lt rfl t_4).mpr c_24; omega)
              clear c_24
              refine lv_iconst (v := 3) hx hb dX6_takeLetters_72 (by decide) ?_
              refine va_put (D := D) (ci := 6) (v := .int 3) (ty := .int) (C := RX6) (T := TX6) (N := 8) hx hb htb iX6 tyX6 tyX6_ok nmX6 hown hK.1 hP hD hS 0 rfl rfl 5 (by decide) (htb _ k_163) (fun _ h9 => h9) rfl (by decide +kernel) rfl rfl (Nat.le_of_ble_eq_true rfl) dX6_takeLetters_73 (fun H locs hP hD hS => ?_)
              have hP : va_P D vwCl [(th, .inr (6, G6 ta tsize trule twords tat_0 3 twordAt z_22)), ((ta 0), .inl (E 0, 120, .inl tf0))] H := hP
              have hD := toW hP hD rfl
              have hP9 := hP.sub (ws' := [(th, .inr (6, G6 ta tsize trule twords tat_0 3 twordAt z_22)), ((ta 0), .inl (E 0, 120, .inl tf0))]) [0, 1] rfl
              have hD9 := hD.sub (ws' := [(th, .inr (6, G6 ta tsize trule twords tat_0 3 twordAt z_22)), ((ta 0), .inl (E 0, 120, .inl tf0))]) [0, 1] (by decide) rfl
              exact W.vret hx hb hr (fun t ht hW => ⟨⟨(tat_0, z_22, (3 : Int32)), rfl, (by have h0 := t_3; (try dsimp only); omega), by rw [ht]; exact hP9, hD9⟩, hS.F ht⟩) hS.2.2 dX6_takeLetters_76
            ·
              have ic_24 : r_19.toInt < 4 := by first | exact (g_lt rfl t_4).mp c_24 | (have h := mt (g_le t_4 rfl).mpr c_24; omega)
              clear c_24
              refine lv_iconst (v := 4) hx hb dX6_takeLetters_66 (by decide) ?_
              refine lv_iload_n hx hb dX6_takeLetters_67 rfl (lv_at hl 0 rfl) ?_
              refine lv_iadd hx hb dX6_takeLetters_68 ?_
              refine lv_topi (fun z_25 ez_25 => ?_)
              have jz_25 : z_25.toInt = 4 + r_19.toInt := by rw [ez_25]; exact g_add t_4 rfl (by omega) (by omega)
              refine lv_goto (tgt := 73) hx hb dX6_takeLetters_69 (by decide) ?_
              refine va_put (D := D) (ci := 6) (v := .int z_25) (ty := .int) (C := RX6) (T := TX6) (N := 8) hx hb htb iX6 tyX6 tyX6_ok nmX6 hown hK.1 hP hD hS 0 rfl rfl 5 (by decide) (htb _ k_163) (fun _ h9 => h9) rfl (by decide +kernel) rfl rfl (Nat.le_of_ble_eq_true rfl) dX6_takeLetters_73 (fun H locs hP hD hS => ?_)
              have hP : va_P D vwCl [(th, .inr (6, G6 ta tsize trule twords tat_0 z_25 twordAt z_22)), ((ta 0), .inl (E 0, 120, .inl tf0))] H := hP
              have hD := toW hP hD rfl
              have hP9 := hP.sub (ws' := [(th, .inr (6, G6 ta tsize trule twords tat_0 z_25 twordAt z_22)), ((ta 0), .inl (E 0, 120, .inl tf0))]) [0, 1] rfl
              have hD9 := hD.sub (ws' := [(th, .inr (6, G6 ta tsize trule twords tat_0 z_25 twordAt z_22)), ((ta 0), .inl (E 0, 120, .inl tf0))]) [0, 1] (by decide) rfl
              exact W.vret hx hb hr (fun t ht hW => ⟨⟨(tat_0, z_22, z_25), rfl, (by (try dsimp only); omega), by rw [ht]; exact hP9, hD9⟩, hS.F ht⟩) hS.2.2 dX6_takeLetters_76
          ·
            have ic_23 : r_19.toInt = -1 := (g_eq rfl t_m1).mp c_23
            clear c_23
            refine lv_iconst (v := 1) hx hb dX6_takeLetters_57 (by decide) ?_
            refine lv_goto (tgt := 73) hx hb dX6_takeLetters_58 (by decide) ?_
            refine va_put (D := D) (ci := 6) (v := .int 1) (ty := .int) (C := RX6) (T := TX6) (N := 8) hx hb htb iX6 tyX6 tyX6_ok nmX6 hown hK.1 hP hD hS 0 rfl rfl 5 (by decide) (htb _ k_163) (fun _ h9 => h9) rfl (by decide +kernel) rfl rfl (Nat.le_of_ble_eq_true rfl) dX6_takeLetters_73 (fun H locs hP hD hS => ?_)
            have hP : va_P D vwCl [(th, .inr (6, G6 ta tsize trule twords tat_0 1 twordAt z_22)), ((ta 0), .inl (E 0, 120, .inl tf0))] H := hP
            have hD := toW hP hD rfl
            have hP9 := hP.sub (ws' := [(th, .inr (6, G6 ta tsize trule twords tat_0 1 twordAt z_22)), ((ta 0), .inl (E 0, 120, .inl tf0))]) [0, 1] rfl
            have hD9 := hD.sub (ws' := [(th, .inr (6, G6 ta tsize trule twords tat_0 1 twordAt z_22)), ((ta 0), .inl (E 0, 120, .inl tf0))]) [0, 1] (by decide) rfl
            exact W.vret hx hb hr (fun t ht hW => ⟨⟨(tat_0, z_22, (1 : Int32)), rfl, (by have h0 := t_1; (try dsimp only); omega), by rw [ht]; exact hP9, hD9⟩, hS.F ht⟩) hS.2.2 dX6_takeLetters_76
  exact loop_1 121 tat _ _ _ (by (try dsimp only); omega) (by (try dsimp only); omega) hP hD hS (lv_sub hl [0] rfl)
set_option maxHeartbeats 4000000 in
set_option maxRecDepth 100000 in
theorem g_X6_goOn (l : Launch) (D : va_G) (E : Nat → Nat) (th : Nat) (ta : Nat → Nat) (tsize : Int32) (trule : Nat) (twords : Nat) (tat : Int32) (tword : Int32) (twordAt : Int32) (tvalue : Int32) (tf0 : Nat → Int32) (sv : Nat) (sn : Nat) (sf : Nat → Int32) (sz : Nat) (hi_t : (0 ≤ tsize.toInt ∧ tsize.toInt ≤ 120)) (hsn : sn < 2147483647) (g0 : 0 ≤ tat.toInt ∧ tat.toInt ≤ tsize.toInt) (g1 : sn ≤ 900) : Met l yX6_goOn (wl yX6_goOn cX6_goOn 1 none) (RM 7 0 0) (muS_P D E [.ref th] [(th, .inr (6, G6 ta tsize trule twords tat tword twordAt tvalue)), ((ta 0), .inl (E 0, 120, .inl tf0))] sz [(twords, sv, sn, sf)]) (va_Qv (fun (u : (Int32) × (Int32) × (Int32) × (Int32)) => (tat.toInt ≤ u.2.2.2.toInt ∧ u.2.2.2.toInt ≤ u.1.toInt ∧ u.1.toInt ≤ tsize.toInt)) (mu_B D (va_A [(th, .inr (6, G6 ta tsize trule twords tat tword twordAt tvalue)), ((ta 0), .inl (E 0, 120, .inl tf0))] sz) (fun (u : (Int32) × (Int32) × (Int32) × (Int32)) => [(th, .inr (6, G6 ta tsize trule twords u.1 u.2.2.1 u.2.2.2 u.2.1)), ((ta 0), .inl (E 0, 120, .inl tf0))])) (va_A [(th, .inr (6, G6 ta tsize trule twords tat tword twordAt tvalue)), ((ta 0), .inl (E 0, 120, .inl tf0))] sz)) 0 0 (va_A [(th, .inr (6, G6 ta tsize trule twords tat tword twordAt tvalue)), ((ta 0), .inl (E 0, 120, .inl tf0))] sz) := by
  refine Met.ofW (cc := cX6_goOn) (maxL := 1) (ret := none) (by decide) rfl ?_
  intro p e s m args below meth c s₁ B hml hv
  obtain ⟨rfl, hsz, hP, hK, hD0, hG⟩ := hv
  have hx := B.exec; have hb := B.bytes; have hr := B.returns
  have hts := atoms_spec (ws := wl yX6_goOn cX6_goOn 1 none) B.pre
  have htb : ∀ w ∈ tb, w.before _ s = true := fun w h => hts w (List.mem_cons_of_mem _ h)
  have hown : s.vm.findClass RX6 = some m.cls := findClass_of_methodNamed B.named
  have hlocks := B.notSynchronized
  subst hsz
  have hD := hD0.self (sz := s.heap.size)
  generalize hAe : va_A [(th, .inr (6, G6 ta tsize trule twords tat tword twordAt tvalue)), ((ta 0), .inl (E 0, 120, .inl tf0))] s.heap.size = A at hD hG ⊢
  have hA : ∀ q : Nat, s.heap.size ≤ q → A q := fun q h => by rw [← hAe]; exact Or.inr h
  have hS : va_S A s.heap s.heap [] := va_S.rf
  have hP : va_P D vwCl [(th, .inr (6, G6 ta tsize trule twords tat tword twordAt tvalue)), ((ta 0), .inl (E 0, 120, .inl tf0))] s.heap := hP
  have hl := lv_entry ([.ref th]) (n := 1) (Nat.le_of_ble_eq_true rfl)
  rw [lg_entry_eq]
  generalize (lg_sl ([.ref th]) ++ List.replicate (1 - (lg_sl ([.ref th])).length) Slot.unset).toArray = ls at hl ⊢
  have hl : lv_has ls 1 [(0, .ref th)] := hl
  have loop_1 : ∀ (N_3 : Nat) (tat_0 : Int32) (H : Heap) (locs : List Loc) (ls : Array Slot), tsize.toInt - tat_0.toInt < (N_3 : Int) → (tat.toInt ≤ tat_0.toInt ∧ tat_0.toInt ≤ tsize.toInt) → va_P D vwCl [(th, .inr (6, G6 ta tsize trule twords tat_0 tword twordAt tvalue)), ((ta 0), .inl (E 0, 120, .inl tf0))] H → va_D A [(th, .inr (6, G6 ta tsize trule twords tat_0 tword twordAt tvalue)), ((ta 0), .inl (E 0, 120, .inl tf0))] → va_S A s.heap H locs → lv_has ls 1 [(0, .ref th)] → W p l e (headSpec (wl yX6_goOn cX6_goOn 1 none) (RM 7 0 0)).room s m [Value.ref th].toArray below meth c H locs 0 0 (MQ below (va_Qv (fun (u : (Int32) × (Int32) × (Int32) × (Int32)) => (tat.toInt ≤ u.2.2.2.toInt ∧ u.2.2.2.toInt ≤ u.1.toInt ∧ u.1.toInt ≤ tsize.toInt)) (mu_B D A (fun (u : (Int32) × (Int32) × (Int32) × (Int32)) => [(th, .inr (6, G6 ta tsize trule twords u.1 u.2.2.1 u.2.2.2 u.2.1)), ((ta 0), .inl (E 0, 120, .inl tf0))])) A) [Value.ref th].toArray s 0 0 A) (F0 m 0 ls []) := by
    intro N_3
    induction N_3 with
    | zero => intro tat_0 H locs ls hm v0_0 _ _ _ _; exfalso; omega
    | succ N_3 ih_2 =>
      intro tat_0 H locs ls hm v0_0 hP hD hS hl
      have lo_tat_0 := i_lo tat_0; have hi_tat_0 := i_hi tat_0
      refine lv_aload_n hx hb dX6_goOn_0 rfl (lv_at hl 0 rfl) ?_
      refine va_get (D := D) (ci := 6) (v := .int tat_0) (C := RX6) (T := TX6) (N := 8) hx hb htb iX6 hown hK.1 hP 0 rfl rfl 4 (by decide) (htb _ k_162) (fun _ h9 => h9) rfl dX6_goOn_1 ?_
      refine lv_aload_n hx hb dX6_goOn_4 rfl (lv_at hl 0 rfl) ?_
      refine va_get (D := D) (ci := 6) (v := .int tsize) (C := RX6) (T := TX6) (N := 8) hx hb htb iX6 hown hK.1 hP 0 rfl rfl 1 (by decide) (htb _ k_158) (fun _ h9 => h9) rfl dX6_goOn_5 ?_
      refine lv_icmp_ge (tgt := 38) hx hb dX6_goOn_8 (by decide) (fun c_4 => ?_) (fun c_4 => ?_)
      ·
        have ic_4 : tsize.toInt ≤ tat_0.toInt := by first | exact (g_le rfl rfl).mp c_4 | (have h := mt (g_lt rfl rfl).mpr c_4; omega)
        clear c_4
        refine lv_aload_n hx hb dX6_goOn_38 rfl (lv_at hl 0 rfl) ?_
        refine lv_aload_n hx hb dX6_goOn_39 rfl (lv_at hl 0 rfl) ?_
        refine va_get (D := D) (ci := 6) (v := .int tat_0) (C := RX6) (T := TX6) (N := 8) hx hb htb iX6 hown hK.1 hP 0 rfl rfl 4 (by decide) (htb _ k_162) (fun _ h9 => h9) rfl dX6_goOn_40 ?_
        refine va_put (D := D) (ci := 6) (v := .int tat_0) (ty := .int) (C := RX6) (T := TX6) (N := 8) hx hb htb iX6 tyX6 tyX6_ok nmX6 hown hK.1 hP hD hS 0 rfl rfl 6 (by decide) (htb _ k_164) (fun _ h9 => h9) rfl (by decide +kernel) rfl rfl (Nat.le_of_ble_eq_true rfl) dX6_goOn_43 (fun H locs hP hD hS => ?_)
        have hP : va_P D vwCl [(th, .inr (6, G6 ta tsize trule twords tat_0 tword tat_0 tvalue)), ((ta 0), .inl (E 0, 120, .inl tf0))] H := hP
        have hD := toW hP hD rfl
        refine lv_aload_n hx hb dX6_goOn_46 rfl (lv_at hl 0 rfl) ?_
        refine va_get (D := D) (ci := 6) (v := .int tat_0) (C := RX6) (T := TX6) (N := 8) hx hb htb iX6 hown hK.1 hP 0 rfl rfl 4 (by decide) (htb _ k_162) (fun _ h9 => h9) rfl dX6_goOn_47 ?_
        refine lv_aload_n hx hb dX6_goOn_50 rfl (lv_at hl 0 rfl) ?_
        refine va_get (D := D) (ci := 6) (v := .int tsize) (C := RX6) (T := TX6) (N := 8) hx hb htb iX6 hown hK.1 hP 0 rfl rfl 1 (by decide) (htb _ k_158) (fun _ h9 => h9) rfl dX6_goOn_51 ?_
        refine lv_icmp_lt (tgt := 65) hx hb dX6_goOn_54 (by decide) (fun c_5 => ?_) (fun c_5 => ?_)
        ·
          have ic_5 : tat_0.toInt < tsize.toInt := by first | exact (g_lt rfl rfl).mp c_5 | (have h := mt (g_le rfl rfl).mpr c_5; omega)
          clear c_5
          refine lv_aload_n hx hb dX6_goOn_65 rfl (lv_at hl 0 rfl) ?_
          refine va_get (D := D) (ci := 6) (v := .ref (ta 0)) (C := RX6) (T := TX6) (N := 8) hx hb htb iX6 hown hK.1 hP 0 rfl rfl 0 (by decide) (htb _ k_157) (fun _ h9 => h9) rfl dX6_goOn_66 ?_
          refine lv_aload_n hx hb dX6_goOn_69 rfl (lv_at hl 0 rfl) ?_
          refine va_get (D := D) (ci := 6) (v := .int tat_0) (C := RX6) (T := TX6) (N := 8) hx hb htb iX6 hown hK.1 hP 0 rfl rfl 4 (by decide) (htb _ k_162) (fun _ h9 => h9) rfl dX6_goOn_70 ?_
          refine va_iald hx hb hK.1 hP 1 0 rfl rfl (g_in rfl (by omega) (by omega)) dX6_goOn_73 ?_
          refine lv_topi (fun z_6 ez_6 => ?_)
          have kz_6 := congrArg Int32.toInt ez_6
          refine callRS (rest := []) (As := [.int z_6]) hx hb hml hown htb hK (g_X6_isLetter l D E z_6 ) ok_X6_isLetter k_595 k_596 k_5 k_597 ⟨(Nat.le_of_ble_eq_true rfl), (Nat.le_of_ble_eq_true rfl)⟩ ⟨(Nat.le_of_ble_eq_true rfl), (Nat.le_of_ble_eq_true rfl)⟩ hl.1 (Nat.le_of_ble_eq_true rfl) rfl rfl dX6_goOn_74 (hP.sub (ws' := ([] : va_W)) [] rfl) (fun r_7 hw_8 => ?_)
          rcases hw_8 with ⟨hr_7, hw_8⟩ | ⟨hr_7, hw_8⟩
          ·
            refine W_top (y := .int 1) (by rw [hr_7]) ?_
            refine lv_if_eq (tgt := 87) hx hb dX6_goOn_77 (by decide) (fun c_10 => absurd c_10 (by decide)) (fun c_10 => ?_)
            refine lv_aload_n hx hb dX6_goOn_80 rfl (lv_at hl 0 rfl) ?_
            have hPc := hP.sub (ws' := [(th, .inr (6, G6 ta tsize trule twords tat_0 tword tat_0 tvalue)), ((ta 0), .inl (E 0, 120, .inl tf0))]) [0, 1] rfl
            have hDc := hD.sub (ws' := [(th, .inr (6, G6 ta tsize trule twords tat_0 tword tat_0 tvalue)), ((ta 0), .inl (E 0, 120, .inl tf0))]) [0, 1] (by decide) rfl
            refine aft_v (runMG (rest := []) (As := []) hx hb hml hown htb (g_X6_takeLetters l D E th ta tsize trule twords tat_0 tword tat_0 tvalue tf0 sv sn sf _ (by (try dsimp only); omega) hsn (by (try dsimp only); omega) g1) ok_X6_takeLetters k_598 k_600 ks_12 k_5 k_601 ⟨(Nat.le_of_ble_eq_true rfl), (Nat.le_of_ble_eq_true rfl)⟩ ⟨(Nat.le_of_ble_eq_true rfl), (Nat.le_of_ble_eq_true rfl)⟩ hl.1 (Nat.le_of_ble_eq_true rfl) rfl rfl dX6_goOn_81 (pmVS hPc hDc hK rfl rfl 0 rfl hG hS (va_free hD hS hA [0, 1] rfl))) hP hD hS hA [0, 1] [] (wr := ([] : va_W)) rfl rfl (by decide) (by decide) (fun u_13 H locs hw_12 hP hD hS => ?_)
            clear hPc hDc
            obtain ⟨w_14, w_15, w_16⟩ := u_13
            try dsimp only at hw_12
            have hP : va_P D vwCl [(th, .inr (6, G6 ta tsize trule twords w_14 w_16 tat_0 w_15)), ((ta 0), .inl (E 0, 120, .inl tf0))] H := hP
            have hD := toW hP hD rfl
            refine lv_goto (tgt := 151) hx hb dX6_goOn_84 (by decide) ?_
            have hP9 := hP.sub (ws' := [(th, .inr (6, G6 ta tsize trule twords w_14 w_16 tat_0 w_15)), ((ta 0), .inl (E 0, 120, .inl tf0))]) [0, 1] rfl
            have hD9 := hD.sub (ws' := [(th, .inr (6, G6 ta tsize trule twords w_14 w_16 tat_0 w_15)), ((ta 0), .inl (E 0, 120, .inl tf0))]) [0, 1] (by decide) rfl
            exact W.vret hx hb hr (fun t ht hW => ⟨⟨(w_14, w_15, w_16, tat_0), rfl, (by (try dsimp only); omega), by rw [ht]; exact hP9, hD9⟩, hS.F ht⟩) hS.2.2 dX6_goOn_151
          ·
            refine W_top (y := .int 0) (by rw [hr_7]) ?_
            refine lv_if_eq (tgt := 87) hx hb dX6_goOn_77 (by decide) (fun c_17 => ?_) (fun c_17 => absurd (by decide) c_17)
            refine lv_aload_n hx hb dX6_goOn_87 rfl (lv_at hl 0 rfl) ?_
            refine va_get (D := D) (ci := 6) (v := .ref (ta 0)) (C := RX6) (T := TX6) (N := 8) hx hb htb iX6 hown hK.1 hP 0 rfl rfl 0 (by decide) (htb _ k_157) (fun _ h9 => h9) rfl dX6_goOn_88 ?_
            refine lv_aload_n hx hb dX6_goOn_91 rfl (lv_at hl 0 rfl) ?_
            refine va_get (D := D) (ci := 6) (v := .int tat_0) (C := RX6) (T := TX6) (N := 8) hx hb htb iX6 hown hK.1 hP 0 rfl rfl 4 (by decide) (htb _ k_162) (fun _ h9 => h9) rfl dX6_goOn_92 ?_
            refine va_iald hx hb hK.1 hP 1 0 rfl rfl (g_in rfl (by omega) (by omega)) dX6_goOn_95 ?_
            refine lv_topi (fun z_18 ez_18 => ?_)
            have kz_18 := congrArg Int32.toInt ez_18
            refine callRS (rest := []) (As := [.int z_18]) hx hb hml hown htb hK (g_X6_isDigit l D E z_18 ) ok_X6_isDigit k_658 k_659 k_5 k_660 ⟨(Nat.le_of_ble_eq_true rfl), (Nat.le_of_ble_eq_true rfl)⟩ ⟨(Nat.le_of_ble_eq_true rfl), (Nat.le_of_ble_eq_true rfl)⟩ hl.1 (Nat.le_of_ble_eq_true rfl) rfl rfl dX6_goOn_96 (hP.sub (ws' := ([] : va_W)) [] rfl) (fun r_19 hw_20 => ?_)
            rcases hw_20 with ⟨hr_19, hw_20⟩ | ⟨hr_19, hw_20⟩
            ·
              refine W_top (y := .int 1) (by rw [hr_19]) ?_
              refine lv_if_eq (tgt := 109) hx hb dX6_goOn_99 (by decide) (fun c_22 => absurd c_22 (by decide)) (fun c_22 => ?_)
              refine lv_aload_n hx hb dX6_goOn_102 rfl (lv_at hl 0 rfl) ?_
              have hPc := hP.sub (ws' := [(th, .inr (6, G6 ta tsize trule twords tat_0 tword tat_0 tvalue)), ((ta 0), .inl (E 0, 120, .inl tf0))]) [0, 1] rfl
              have hDc := hD.sub (ws' := [(th, .inr (6, G6 ta tsize trule twords tat_0 tword tat_0 tvalue)), ((ta 0), .inl (E 0, 120, .inl tf0))]) [0, 1] (by decide) rfl
              refine aft_v (runMV (rest := []) (As := []) hx hb hml hown htb hK (g_X6_takeDigits l D E th ta tsize trule twords tat_0 tword tat_0 tvalue tf0 _ (by (try dsimp only); omega) (by (try dsimp only); omega)) ok_X6_takeDigits k_661 k_663 ks_15 k_5 k_664 ⟨(Nat.le_of_ble_eq_true rfl), (Nat.le_of_ble_eq_true rfl)⟩ ⟨(Nat.le_of_ble_eq_true rfl), (Nat.le_of_ble_eq_true rfl)⟩ hl.1 (Nat.le_of_ble_eq_true rfl) rfl rfl dX6_goOn_103 hPc hDc rfl rfl 0 rfl) hP hD hS hA [0, 1] [] (wr := ([] : va_W)) rfl rfl (by decide) (by decide) (fun u_25 H locs hw_24 hP hD hS => ?_)
              clear hPc hDc
              obtain ⟨w_26, w_27, w_28⟩ := u_25
              try dsimp only at hw_24
              have hP : va_P D vwCl [(th, .inr (6, G6 ta tsize trule twords w_26 w_28 tat_0 w_27)), ((ta 0), .inl (E 0, 120, .inl tf0))] H := hP
              have hD := toW hP hD rfl
              refine lv_goto (tgt := 151) hx hb dX6_goOn_106 (by decide) ?_
              have hP9 := hP.sub (ws' := [(th, .inr (6, G6 ta tsize trule twords w_26 w_28 tat_0 w_27)), ((ta 0), .inl (E 0, 120, .inl tf0))]) [0, 1] rfl
              have hD9 := hD.sub (ws' := [(th, .inr (6, G6 ta tsize trule twords w_26 w_28 tat_0 w_27)), ((ta 0), .inl (E 0, 120, .inl tf0))]) [0, 1] (by decide) rfl
              exact W.vret hx hb hr (fun t ht hW => ⟨⟨(w_26, w_27, w_28, tat_0), rfl, (by (try dsimp only); omega), by rw [ht]; exact hP9, hD9⟩, hS.F ht⟩) hS.2.2 dX6_goOn_151
            ·
              refine W_top (y := .int 0) (by rw [hr_19]) ?_
              refine lv_if_eq (tgt := 109) hx hb dX6_goOn_99 (by decide) (fun c_29 => ?_) (fun c_29 => absurd (by decide) c_29)
              refine lv_aload_n hx hb dX6_goOn_109 rfl (lv_at hl 0 rfl) ?_
              refine lv_aload_n hx hb dX6_goOn_110 rfl (lv_at hl 0 rfl) ?_
              refine va_get (D := D) (ci := 6) (v := .ref (ta 0)) (C := RX6) (T := TX6) (N := 8) hx hb htb iX6 hown hK.1 hP 0 rfl rfl 0 (by decide) (htb _ k_157) (fun _ h9 => h9) rfl dX6_goOn_111 ?_
              refine lv_aload_n hx hb dX6_goOn_114 rfl (lv_at hl 0 rfl) ?_
              refine va_get (D := D) (ci := 6) (v := .int tat_0) (C := RX6) (T := TX6) (N := 8) hx hb htb iX6 hown hK.1 hP 0 rfl rfl 4 (by decide) (htb _ k_162) (fun _ h9 => h9) rfl dX6_goOn_115 ?_
              refine va_iald hx hb hK.1 hP 1 0 rfl rfl (g_in rfl (by omega) (by omega)) dX6_goOn_118 ?_
              refine lv_topi (fun z_30 ez_30 => ?_)
              have kz_30 := congrArg Int32.toInt ez_30
              refine callRS (rest := [.ref th]) (As := [.int z_30]) hx hb hml hown htb hK (g_X6_isSign l D E z_30 ) ok_X6_isSign k_665 k_666 k_5 k_667 ⟨(Nat.le_of_ble_eq_true rfl), (Nat.le_of_ble_eq_true rfl)⟩ ⟨(Nat.le_of_ble_eq_true rfl), (Nat.le_of_ble_eq_true rfl)⟩ hl.1 (Nat.le_of_ble_eq_true rfl) rfl rfl dX6_goOn_119 (hP.sub (ws' := ([] : va_W)) [] rfl) (fun r_31 hw_32 => ?_)
              refine lv_if_eq (tgt := 137) hx hb dX6_goOn_122 (by decide) (fun c_34 => ?_) (fun c_34 => ?_)
              ·
                have ic_34 : r_31.toInt = 0 := (g_eq rfl t_0).mp c_34
                clear c_34
                refine lv_iconst (v := 1) hx hb dX6_goOn_137 (by decide) ?_
                refine va_put (D := D) (ci := 6) (v := .int 1) (ty := .int) (C := RX6) (T := TX6) (N := 8) hx hb htb iX6 tyX6 tyX6_ok nmX6 hown hK.1 hP hD hS 0 rfl rfl 5 (by decide) (htb _ k_163) (fun _ h9 => h9) rfl (by decide +kernel) rfl rfl (Nat.le_of_ble_eq_true rfl) dX6_goOn_138 (fun H locs hP hD hS => ?_)
                have hP : va_P D vwCl [(th, .inr (6, G6 ta tsize trule twords tat_0 1 tat_0 tvalue)), ((ta 0), .inl (E 0, 120, .inl tf0))] H := hP
                have hD := toW hP hD rfl
                refine lv_aload_n hx hb dX6_goOn_141 rfl (lv_at hl 0 rfl) ?_
                refine lv_dup hx hb dX6_goOn_142 rfl ?_
                refine va_get (D := D) (ci := 6) (v := .int tat_0) (C := RX6) (T := TX6) (N := 8) hx hb htb iX6 hown hK.1 hP 0 rfl rfl 4 (by decide) (htb _ k_162) (fun _ h9 => h9) rfl dX6_goOn_143 ?_
                refine lv_iconst (v := 1) hx hb dX6_goOn_146 (by decide) ?_
                refine lv_iadd hx hb dX6_goOn_147 ?_
                refine lv_topi (fun z_35 ez_35 => ?_)
                have jz_35 : z_35.toInt = tat_0.toInt + 1 := by rw [ez_35]; exact g_add rfl t_1 (by omega) (by omega)
                refine va_put (D := D) (ci := 6) (v := .int z_35) (ty := .int) (C := RX6) (T := TX6) (N := 8) hx hb htb iX6 tyX6 tyX6_ok nmX6 hown hK.1 hP hD hS 0 rfl rfl 4 (by decide) (htb _ k_162) (fun _ h9 => h9) rfl (by decide +kernel) rfl rfl (Nat.le_of_ble_eq_true rfl) dX6_goOn_148 (fun H locs hP hD hS => ?_)
                have hP : va_P D vwCl [(th, .inr (6, G6 ta tsize trule twords z_35 1 tat_0 tvalue)), ((ta 0), .inl (E 0, 120, .inl tf0))] H := hP
                have hD := toW hP hD rfl
                have hP9 := hP.sub (ws' := [(th, .inr (6, G6 ta tsize trule twords z_35 1 tat_0 tvalue)), ((ta 0), .inl (E 0, 120, .inl tf0))]) [0, 1] rfl
                have hD9 := hD.sub (ws' := [(th, .inr (6, G6 ta tsize trule twords z_35 1 tat_0 tvalue)), ((ta 0), .inl (E 0, 120, .inl tf0))]) [0, 1] (by decide) rfl
                exact W.vret hx hb hr (fun t ht hW => ⟨⟨(z_35, tvalue, (1 : Int32), tat_0), rfl, (by have h0 := t_1; (try dsimp only); omega), by rw [ht]; exact hP9, hD9⟩, hS.F ht⟩) hS.2.2 dX6_goOn_151
              ·
                have ic_34 : r_31.toInt ≠ 0 := mt (g_eq rfl t_0).mpr c_34
                clear c_34
                refine lv_aload_n hx hb dX6_goOn_125 rfl (lv_at hl 0 rfl) ?_
                refine va_get (D := D) (ci := 6) (v := .ref (ta 0)) (C := RX6) (T := TX6) (N := 8) hx hb htb iX6 hown hK.1 hP 0 rfl rfl 0 (by decide) (htb _ k_157) (fun _ h9 => h9) rfl dX6_goOn_126 ?_
                refine lv_aload_n hx hb dX6_goOn_129 rfl (lv_at hl 0 rfl) ?_
                refine va_get (D := D) (ci := 6) (v := .int tat_0) (C := RX6) (T := TX6) (N := 8) hx hb htb iX6 hown hK.1 hP 0 rfl rfl 4 (by decide) (htb _ k_162) (fun _ h9 => h9) rfl dX6_goOn_130 ?_
                refine va_iald hx hb hK.1 hP 1 0 rfl rfl (g_in rfl (by omega) (by omega)) dX6_goOn_133 ?_
                refine lv_topi (fun z_36 ez_36 => ?_)
                have kz_36 := congrArg Int32.toInt ez_36
                refine lv_goto (tgt := 138) hx hb dX6_goOn_134 (by decide) ?_
                refine va_put (D := D) (ci := 6) (v := .int z_36) (ty := .int) (C := RX6) (T := TX6) (N := 8) hx hb htb iX6 tyX6 tyX6_ok nmX6 hown hK.1 hP hD hS 0 rfl rfl 5 (by decide) (htb _ k_163) (fun _ h9 => h9) rfl (by decide +kernel) rfl rfl (Nat.le_of_ble_eq_true rfl) dX6_goOn_138 (fun H locs hP hD hS => ?_)
                have hP : va_P D vwCl [(th, .inr (6, G6 ta tsize trule twords tat_0 z_36 tat_0 tvalue)), ((ta 0), .inl (E 0, 120, .inl tf0))] H := hP
                have hD := toW hP hD rfl
                refine lv_aload_n hx hb dX6_goOn_141 rfl (lv_at hl 0 rfl) ?_
                refine lv_dup hx hb dX6_goOn_142 rfl ?_
                refine va_get (D := D) (ci := 6) (v := .int tat_0) (C := RX6) (T := TX6) (N := 8) hx hb htb iX6 hown hK.1 hP 0 rfl rfl 4 (by decide) (htb _ k_162) (fun _ h9 => h9) rfl dX6_goOn_143 ?_
                refine lv_iconst (v := 1) hx hb dX6_goOn_146 (by decide) ?_
                refine lv_iadd hx hb dX6_goOn_147 ?_
                refine lv_topi (fun z_37 ez_37 => ?_)
                have jz_37 : z_37.toInt = tat_0.toInt + 1 := by rw [ez_37]; exact g_add rfl t_1 (by omega) (by omega)
                refine va_put (D := D) (ci := 6) (v := .int z_37) (ty := .int) (C := RX6) (T := TX6) (N := 8) hx hb htb iX6 tyX6 tyX6_ok nmX6 hown hK.1 hP hD hS 0 rfl rfl 4 (by decide) (htb _ k_162) (fun _ h9 => h9) rfl (by decide +kernel) rfl rfl (Nat.le_of_ble_eq_true rfl) dX6_goOn_148 (fun H locs hP hD hS => ?_)
                have hP : va_P D vwCl [(th, .inr (6, G6 ta tsize trule twords z_37 z_36 tat_0 tvalue)), ((ta 0), .inl (E 0, 120, .inl tf0))] H := hP
                have hD := toW hP hD rfl
                have hP9 := hP.sub (ws' := [(th, .inr (6, G6 ta tsize trule twords z_37 z_36 tat_0 tvalue)), ((ta 0), .inl (E 0, 120, .inl tf0))]) [0, 1] rfl
                have hD9 := hD.sub (ws' := [(th, .inr (6, G6 ta tsize trule twords z_37 z_36 tat_0 tvalue)), ((ta 0), .inl (E 0, 120, .inl tf0))]) [0, 1] (by decide) rfl
                exact W.vret hx hb hr (fun t ht hW => ⟨⟨(z_37, tvalue, z_36, tat_0), rfl, (by (try dsimp only); omega), by rw [ht]; exact hP9, hD9⟩, hS.F ht⟩) hS.2.2 dX6_goOn_151
        ·
          have ic_5 : tsize.toInt ≤ tat_0.toInt := by first | exact (g_le rfl rfl).mp c_5 | (have h := mt (g_lt rfl rfl).mpr c_5; omega)
          clear c_5
          refine lv_aload_n hx hb dX6_goOn_57 rfl (lv_at hl 0 rfl) ?_
          refine lv_iconst (v := 0) hx hb dX6_goOn_58 (by decide) ?_
          refine va_put (D := D) (ci := 6) (v := .int 0) (ty := .int) (C := RX6) (T := TX6) (N := 8) hx hb htb iX6 tyX6 tyX6_ok nmX6 hown hK.1 hP hD hS 0 rfl rfl 5 (by decide) (htb _ k_163) (fun _ h9 => h9) rfl (by decide +kernel) rfl rfl (Nat.le_of_ble_eq_true rfl) dX6_goOn_59 (fun H locs hP hD hS => ?_)
          have hP : va_P D vwCl [(th, .inr (6, G6 ta tsize trule twords tat_0 0 tat_0 tvalue)), ((ta 0), .inl (E 0, 120, .inl tf0))] H := hP
          have hD := toW hP hD rfl
          refine lv_goto (tgt := 151) hx hb dX6_goOn_62 (by decide) ?_
          have hP9 := hP.sub (ws' := [(th, .inr (6, G6 ta tsize trule twords tat_0 0 tat_0 tvalue)), ((ta 0), .inl (E 0, 120, .inl tf0))]) [0, 1] rfl
          have hD9 := hD.sub (ws' := [(th, .inr (6, G6 ta tsize trule twords tat_0 0 tat_0 tvalue)), ((ta 0), .inl (E 0, 120, .inl tf0))]) [0, 1] (by decide) rfl
          exact W.vret hx hb hr (fun t ht hW => ⟨⟨(tat_0, tvalue, (0 : Int32), tat_0), rfl, (by have h0 := t_0; (try dsimp only); omega), by rw [ht]; exact hP9, hD9⟩, hS.F ht⟩) hS.2.2 dX6_goOn_151
      ·
        have ic_4 : tat_0.toInt < tsize.toInt := by first | exact (g_lt rfl rfl).mp c_4 | (have h := mt (g_le rfl rfl).mpr c_4; omega)
        clear c_4
        refine lv_aload_n hx hb dX6_goOn_11 rfl (lv_at hl 0 rfl) ?_
        refine va_get (D := D) (ci := 6) (v := .ref (ta 0)) (C := RX6) (T := TX6) (N := 8) hx hb htb iX6 hown hK.1 hP 0 rfl rfl 0 (by decide) (htb _ k_157) (fun _ h9 => h9) rfl dX6_goOn_12 ?_
        refine lv_aload_n hx hb dX6_goOn_15 rfl (lv_at hl 0 rfl) ?_
        refine va_get (D := D) (ci := 6) (v := .int tat_0) (C := RX6) (T := TX6) (N := 8) hx hb htb iX6 hown hK.1 hP 0 rfl rfl 4 (by decide) (htb _ k_162) (fun _ h9 => h9) rfl dX6_goOn_16 ?_
        refine va_iald hx hb hK.1 hP 1 0 rfl rfl (g_in rfl (by omega) (by omega)) dX6_goOn_19 ?_
        refine lv_topi (fun z_38 ez_38 => ?_)
        have kz_38 := congrArg Int32.toInt ez_38
        refine lv_bipush (v := 32) hx hb dX6_goOn_20 (by decide) ?_
        refine lv_icmp_ne (tgt := 38) hx hb dX6_goOn_22 (by decide) (fun c_39 => ?_) (fun c_39 => ?_)
        ·
          have ic_39 : z_38.toInt ≠ 32 := mt (g_eq rfl t_32).mpr c_39
          clear c_39
          refine lv_aload_n hx hb dX6_goOn_38 rfl (lv_at hl 0 rfl) ?_
          refine lv_aload_n hx hb dX6_goOn_39 rfl (lv_at hl 0 rfl) ?_
          refine va_get (D := D) (ci := 6) (v := .int tat_0) (C := RX6) (T := TX6) (N := 8) hx hb htb iX6 hown hK.1 hP 0 rfl rfl 4 (by decide) (htb _ k_162) (fun _ h9 => h9) rfl dX6_goOn_40 ?_
          refine va_put (D := D) (ci := 6) (v := .int tat_0) (ty := .int) (C := RX6) (T := TX6) (N := 8) hx hb htb iX6 tyX6 tyX6_ok nmX6 hown hK.1 hP hD hS 0 rfl rfl 6 (by decide) (htb _ k_164) (fun _ h9 => h9) rfl (by decide +kernel) rfl rfl (Nat.le_of_ble_eq_true rfl) dX6_goOn_43 (fun H locs hP hD hS => ?_)
          have hP : va_P D vwCl [(th, .inr (6, G6 ta tsize trule twords tat_0 tword tat_0 tvalue)), ((ta 0), .inl (E 0, 120, .inl tf0))] H := hP
          have hD := toW hP hD rfl
          refine lv_aload_n hx hb dX6_goOn_46 rfl (lv_at hl 0 rfl) ?_
          refine va_get (D := D) (ci := 6) (v := .int tat_0) (C := RX6) (T := TX6) (N := 8) hx hb htb iX6 hown hK.1 hP 0 rfl rfl 4 (by decide) (htb _ k_162) (fun _ h9 => h9) rfl dX6_goOn_47 ?_
          refine lv_aload_n hx hb dX6_goOn_50 rfl (lv_at hl 0 rfl) ?_
          refine va_get (D := D) (ci := 6) (v := .int tsize) (C := RX6) (T := TX6) (N := 8) hx hb htb iX6 hown hK.1 hP 0 rfl rfl 1 (by decide) (htb _ k_158) (fun _ h9 => h9) rfl dX6_goOn_51 ?_
          refine lv_icmp_lt (tgt := 65) hx hb dX6_goOn_54 (by decide) (fun c_40 => ?_) (fun c_40 => ?_)
          ·
            have ic_40 : tat_0.toInt < tsize.toInt := by first | exact (g_lt rfl rfl).mp c_40 | (have h := mt (g_le rfl rfl).mpr c_40; omega)
            clear c_40
            refine lv_aload_n hx hb dX6_goOn_65 rfl (lv_at hl 0 rfl) ?_
            refine va_get (D := D) (ci := 6) (v := .ref (ta 0)) (C := RX6) (T := TX6) (N := 8) hx hb htb iX6 hown hK.1 hP 0 rfl rfl 0 (by decide) (htb _ k_157) (fun _ h9 => h9) rfl dX6_goOn_66 ?_
            refine lv_aload_n hx hb dX6_goOn_69 rfl (lv_at hl 0 rfl) ?_
            refine va_get (D := D) (ci := 6) (v := .int tat_0) (C := RX6) (T := TX6) (N := 8) hx hb htb iX6 hown hK.1 hP 0 rfl rfl 4 (by decide) (htb _ k_162) (fun _ h9 => h9) rfl dX6_goOn_70 ?_
            refine va_iald hx hb hK.1 hP 1 0 rfl rfl (g_in rfl (by omega) (by omega)) dX6_goOn_73 ?_
            refine lv_topi (fun z_41 ez_41 => ?_)
            have kz_41 := congrArg Int32.toInt ez_41
            refine callRS (rest := []) (As := [.int z_41]) hx hb hml hown htb hK (g_X6_isLetter l D E z_41 ) ok_X6_isLetter k_595 k_596 k_5 k_597 ⟨(Nat.le_of_ble_eq_true rfl), (Nat.le_of_ble_eq_true rfl)⟩ ⟨(Nat.le_of_ble_eq_true rfl), (Nat.le_of_ble_eq_true rfl)⟩ hl.1 (Nat.le_of_ble_eq_true rfl) rfl rfl dX6_goOn_74 (hP.sub (ws' := ([] : va_W)) [] rfl) (fun r_42 hw_43 => ?_)
            rcases hw_43 with ⟨hr_42, hw_43⟩ | ⟨hr_42, hw_43⟩
            ·
              refine W_top (y := .int 1) (by rw [hr_42]) ?_
              refine lv_if_eq (tgt := 87) hx hb dX6_goOn_77 (by decide) (fun c_45 => absurd c_45 (by decide)) (fun c_45 => ?_)
              refine lv_aload_n hx hb dX6_goOn_80 rfl (lv_at hl 0 rfl) ?_
              have hPc := hP.sub (ws' := [(th, .inr (6, G6 ta tsize trule twords tat_0 tword tat_0 tvalue)), ((ta 0), .inl (E 0, 120, .inl tf0))]) [0, 1] rfl
              have hDc := hD.sub (ws' := [(th, .inr (6, G6 ta tsize trule twords tat_0 tword tat_0 tvalue)), ((ta 0), .inl (E 0, 120, .inl tf0))]) [0, 1] (by decide) rfl
              refine aft_v (runMG (rest := []) (As := []) hx hb hml hown htb (g_X6_takeLetters l D E th ta tsize trule twords tat_0 tword tat_0 tvalue tf0 sv sn sf _ (by (try dsimp only); omega) hsn (by (try dsimp only); omega) g1) ok_X6_takeLetters k_598 k_600 ks_12 k_5 k_601 ⟨(Nat.le_of_ble_eq_true rfl), (Nat.le_of_ble_eq_true rfl)⟩ ⟨(Nat.le_of_ble_eq_true rfl), (Nat.le_of_ble_eq_true rfl)⟩ hl.1 (Nat.le_of_ble_eq_true rfl) rfl rfl dX6_goOn_81 (pmVS hPc hDc hK rfl rfl 0 rfl hG hS (va_free hD hS hA [0, 1] rfl))) hP hD hS hA [0, 1] [] (wr := ([] : va_W)) rfl rfl (by decide) (by decide) (fun u_48 H locs hw_47 hP hD hS => ?_)
              clear hPc hDc
              obtain ⟨w_49, w_50, w_51⟩ := u_48
              try dsimp only at hw_47
              have hP : va_P D vwCl [(th, .inr (6, G6 ta tsize trule twords w_49 w_51 tat_0 w_50)), ((ta 0), .inl (E 0, 120, .inl tf0))] H := hP
              have hD := toW hP hD rfl
              refine lv_goto (tgt := 151) hx hb dX6_goOn_84 (by decide) ?_
              have hP9 := hP.sub (ws' := [(th, .inr (6, G6 ta tsize trule twords w_49 w_51 tat_0 w_50)), ((ta 0), .inl (E 0, 120, .inl tf0))]) [0, 1] rfl
              have hD9 := hD.sub (ws' := [(th, .inr (6, G6 ta tsize trule twords w_49 w_51 tat_0 w_50)), ((ta 0), .inl (E 0, 120, .inl tf0))]) [0, 1] (by decide) rfl
              exact W.vret hx hb hr (fun t ht hW => ⟨⟨(w_49, w_50, w_51, tat_0), rfl, (by (try dsimp only); omega), by rw [ht]; exact hP9, hD9⟩, hS.F ht⟩) hS.2.2 dX6_goOn_151
            ·
              refine W_top (y := .int 0) (by rw [hr_42]) ?_
              refine lv_if_eq (tgt := 87) hx hb dX6_goOn_77 (by decide) (fun c_52 => ?_) (fun c_52 => absurd (by decide) c_52)
              refine lv_aload_n hx hb dX6_goOn_87 rfl (lv_at hl 0 rfl) ?_
              refine va_get (D := D) (ci := 6) (v := .ref (ta 0)) (C := RX6) (T := TX6) (N := 8) hx hb htb iX6 hown hK.1 hP 0 rfl rfl 0 (by decide) (htb _ k_157) (fun _ h9 => h9) rfl dX6_goOn_88 ?_
              refine lv_aload_n hx hb dX6_goOn_91 rfl (lv_at hl 0 rfl) ?_
              refine va_get (D := D) (ci := 6) (v := .int tat_0) (C := RX6) (T := TX6) (N := 8) hx hb htb iX6 hown hK.1 hP 0 rfl rfl 4 (by decide) (htb _ k_162) (fun _ h9 => h9) rfl dX6_goOn_92 ?_
              refine va_iald hx hb hK.1 hP 1 0 rfl rfl (g_in rfl (by omega) (by omega)) dX6_goOn_95 ?_
              refine lv_topi (fun z_53 ez_53 => ?_)
              have kz_53 := congrArg Int32.toInt ez_53
              refine callRS (rest := []) (As := [.int z_53]) hx hb hml hown htb hK (g_X6_isDigit l D E z_53 ) ok_X6_isDigit k_658 k_659 k_5 k_660 ⟨(Nat.le_of_ble_eq_true rfl), (Nat.le_of_ble_eq_true rfl)⟩ ⟨(Nat.le_of_ble_eq_true rfl), (Nat.le_of_ble_eq_true rfl)⟩ hl.1 (Nat.le_of_ble_eq_true rfl) rfl rfl dX6_goOn_96 (hP.sub (ws' := ([] : va_W)) [] rfl) (fun r_54 hw_55 => ?_)
              rcases hw_55 with ⟨hr_54, hw_55⟩ | ⟨hr_54, hw_55⟩
              ·
                refine W_top (y := .int 1) (by rw [hr_54]) ?_
                refine lv_if_eq (tgt := 109) hx hb dX6_goOn_99 (by decide) (fun c_57 => absurd c_57 (by decide)) (fun c_57 => ?_)
                refine lv_aload_n hx hb dX6_goOn_102 rfl (lv_at hl 0 rfl) ?_
                have hPc := hP.sub (ws' := [(th, .inr (6, G6 ta tsize trule twords tat_0 tword tat_0 tvalue)), ((ta 0), .inl (E 0, 120, .inl tf0))]) [0, 1] rfl
                have hDc := hD.sub (ws' := [(th, .inr (6, G6 ta tsize trule twords tat_0 tword tat_0 tvalue)), ((ta 0), .inl (E 0, 120, .inl tf0))]) [0, 1] (by decide) rfl
                refine aft_v (runMV (rest := []) (As := []) hx hb hml hown htb hK (g_X6_takeDigits l D E th ta tsize trule twords tat_0 tword tat_0 tvalue tf0 _ (by (try dsimp only); omega) (by (try dsimp only); omega)) ok_X6_takeDigits k_661 k_663 ks_15 k_5 k_664 ⟨(Nat.le_of_ble_eq_true rfl), (Nat.le_of_ble_eq_true rfl)⟩ ⟨(Nat.le_of_ble_eq_true rfl), (Nat.le_of_ble_eq_true rfl)⟩ hl.1 (Nat.le_of_ble_eq_true rfl) rfl rfl dX6_goOn_103 hPc hDc rfl rfl 0 rfl) hP hD hS hA [0, 1] [] (wr := ([] : va_W)) rfl rfl (by decide) (by decide) (fun u_60 H locs hw_59 hP hD hS => ?_)
                clear hPc hDc
                obtain ⟨w_61, w_62, w_63⟩ := u_60
                try dsimp only at hw_59
                have hP : va_P D vwCl [(th, .inr (6, G6 ta tsize trule twords w_61 w_63 tat_0 w_62)), ((ta 0), .inl (E 0, 120, .inl tf0))] H := hP
                have hD := toW hP hD rfl
                refine lv_goto (tgt := 151) hx hb dX6_goOn_106 (by decide) ?_
                have hP9 := hP.sub (ws' := [(th, .inr (6, G6 ta tsize trule twords w_61 w_63 tat_0 w_62)), ((ta 0), .inl (E 0, 120, .inl tf0))]) [0, 1] rfl
                have hD9 := hD.sub (ws' := [(th, .inr (6, G6 ta tsize trule twords w_61 w_63 tat_0 w_62)), ((ta 0), .inl (E 0, 120, .inl tf0))]) [0, 1] (by decide) rfl
                exact W.vret hx hb hr (fun t ht hW => ⟨⟨(w_61, w_62, w_63, tat_0), rfl, (by (try dsimp only); omega), by rw [ht]; exact hP9, hD9⟩, hS.F ht⟩) hS.2.2 dX6_goOn_151
              ·
                refine W_top (y := .int 0) (by rw [hr_54]) ?_
                refine lv_if_eq (tgt := 109) hx hb dX6_goOn_99 (by decide) (fun c_64 => ?_) (fun c_64 => absurd (by decide) c_64)
                refine lv_aload_n hx hb dX6_goOn_109 rfl (lv_at hl 0 rfl) ?_
                refine lv_aload_n hx hb dX6_goOn_110 rfl (lv_at hl 0 rfl) ?_
                refine va_get (D := D) (ci := 6) (v := .ref (ta 0)) (C := RX6) (T := TX6) (N := 8) hx hb htb iX6 hown hK.1 hP 0 rfl rfl 0 (by decide) (htb _ k_157) (fun _ h9 => h9) rfl dX6_goOn_111 ?_
                refine lv_aload_n hx hb dX6_goOn_114 rfl (lv_at hl 0 rfl) ?_
                refine va_get (D := D) (ci := 6) (v := .int tat_0) (C := RX6) (T := TX6) (N := 8) hx hb htb iX6 hown hK.1 hP 0 rfl rfl 4 (by decide) (htb _ k_162) (fun _ h9 => h9) rfl dX6_goOn_115 ?_
                refine va_iald hx hb hK.1 hP 1 0 rfl rfl (g_in rfl (by omega) (by omega)) dX6_goOn_118 ?_
                refine lv_topi (fun z_65 ez_65 => ?_)
                have kz_65 := congrArg Int32.toInt ez_65
                refine callRS (rest := [.ref th]) (As := [.int z_65]) hx hb hml hown htb hK (g_X6_isSign l D E z_65 ) ok_X6_isSign k_665 k_666 k_5 k_667 ⟨(Nat.le_of_ble_eq_true rfl), (Nat.le_of_ble_eq_true rfl)⟩ ⟨(Nat.le_of_ble_eq_true rfl), (Nat.le_of_ble_eq_true rfl)⟩ hl.1 (Nat.le_of_ble_eq_true rfl) rfl rfl dX6_goOn_119 (hP.sub (ws' := ([] : va_W)) [] rfl) (fun r_66 hw_67 => ?_)
                refine lv_if_eq (tgt := 137) hx hb dX6_goOn_122 (by decide) (fun c_69 => ?_) (fun c_69 => ?_)
                ·
                  have ic_69 : r_66.toInt = 0 := (g_eq rfl t_0).mp c_69
                  clear c_69
                  refine lv_iconst (v := 1) hx hb dX6_goOn_137 (by decide) ?_
                  refine va_put (D := D) (ci := 6) (v := .int 1) (ty := .int) (C := RX6) (T := TX6) (N := 8) hx hb htb iX6 tyX6 tyX6_ok nmX6 hown hK.1 hP hD hS 0 rfl rfl 5 (by decide) (htb _ k_163) (fun _ h9 => h9) rfl (by decide +kernel) rfl rfl (Nat.le_of_ble_eq_true rfl) dX6_goOn_138 (fun H locs hP hD hS => ?_)
                  have hP : va_P D vwCl [(th, .inr (6, G6 ta tsize trule twords tat_0 1 tat_0 tvalue)), ((ta 0), .inl (E 0, 120, .inl tf0))] H := hP
                  have hD := toW hP hD rfl
                  refine lv_aload_n hx hb dX6_goOn_141 rfl (lv_at hl 0 rfl) ?_
                  refine lv_dup hx hb dX6_goOn_142 rfl ?_
                  refine va_get (D := D) (ci := 6) (v := .int tat_0) (C := RX6) (T := TX6) (N := 8) hx hb htb iX6 hown hK.1 hP 0 rfl rfl 4 (by decide) (htb _ k_162) (fun _ h9 => h9) rfl dX6_goOn_143 ?_
                  refine lv_iconst (v := 1) hx hb dX6_goOn_146 (by decide) ?_
                  refine lv_iadd hx hb dX6_goOn_147 ?_
                  refine lv_topi (fun z_70 ez_70 => ?_)
                  have jz_70 : z_70.toInt = tat_0.toInt + 1 := by rw [ez_70]; exact g_add rfl t_1 (by omega) (by omega)
                  refine va_put (D := D) (ci := 6) (v := .int z_70) (ty := .int) (C := RX6) (T := TX6) (N := 8) hx hb htb iX6 tyX6 tyX6_ok nmX6 hown hK.1 hP hD hS 0 rfl rfl 4 (by decide) (htb _ k_162) (fun _ h9 => h9) rfl (by decide +kernel) rfl rfl (Nat.le_of_ble_eq_true rfl) dX6_goOn_148 (fun H locs hP hD hS => ?_)
                  have hP : va_P D vwCl [(th, .inr (6, G6 ta tsize trule twords z_70 1 tat_0 tvalue)), ((ta 0), .inl (E 0, 120, .inl tf0))] H := hP
                  have hD := toW hP hD rfl
                  have hP9 := hP.sub (ws' := [(th, .inr (6, G6 ta tsize trule twords z_70 1 tat_0 tvalue)), ((ta 0), .inl (E 0, 120, .inl tf0))]) [0, 1] rfl
                  have hD9 := hD.sub (ws' := [(th, .inr (6, G6 ta tsize trule twords z_70 1 tat_0 tvalue)), ((ta 0), .inl (E 0, 120, .inl tf0))]) [0, 1] (by decide) rfl
                  exact W.vret hx hb hr (fun t ht hW => ⟨⟨(z_70, tvalue, (1 : Int32), tat_0), rfl, (by have h0 := t_1; (try dsimp only); omega), by rw [ht]; exact hP9, hD9⟩, hS.F ht⟩) hS.2.2 dX6_goOn_151
                ·
                  have ic_69 : r_66.toInt ≠ 0 := mt (g_eq rfl t_0).mpr c_69
                  clear c_69
                  refine lv_aload_n hx hb dX6_goOn_125 rfl (lv_at hl 0 rfl) ?_
                  refine va_get (D := D) (ci := 6) (v := .ref (ta 0)) (C := RX6) (T := TX6) (N := 8) hx hb htb iX6 hown hK.1 hP 0 rfl rfl 0 (by decide) (htb _ k_157) (fun _ h9 => h9) rfl dX6_goOn_126 ?_
                  refine lv_aload_n hx hb dX6_goOn_129 rfl (lv_at hl 0 rfl) ?_
                  refine va_get (D := D) (ci := 6) (v := .int tat_0) (C := RX6) (T := TX6) (N := 8) hx hb htb iX6 hown hK.1 hP 0 rfl rfl 4 (by decide) (htb _ k_162) (fun _ h9 => h9) rfl dX6_goOn_130 ?_
                  refine va_iald hx hb hK.1 hP 1 0 rfl rfl (g_in rfl (by omega) (by omega)) dX6_goOn_133 ?_
                  refine lv_topi (fun z_71 ez_71 => ?_)
                  have kz_71 := congrArg Int32.toInt ez_71
                  refine lv_goto (tgt := 138) hx hb dX6_goOn_134 (by decide) ?_
                  refine va_put (D := D) (ci := 6) (v := .int z_71) (ty := .int) (C := RX6) (T := TX6) (N := 8) hx hb htb iX6 tyX6 tyX6_ok nmX6 hown hK.1 hP hD hS 0 rfl rfl 5 (by decide) (htb _ k_163) (fun _ h9 => h9) rfl (by decide +kernel) rfl rfl (Nat.le_of_ble_eq_true rfl) dX6_goOn_138 (fun H locs hP hD hS => ?_)
                  have hP : va_P D vwCl [(th, .inr (6, G6 ta tsize trule twords tat_0 z_71 tat_0 tvalue)), ((ta 0), .inl (E 0, 120, .inl tf0))] H := hP
                  have hD := toW hP hD rfl
                  refine lv_aload_n hx hb dX6_goOn_141 rfl (lv_at hl 0 rfl) ?_
                  refine lv_dup hx hb dX6_goOn_142 rfl ?_
                  refine va_get (D := D) (ci := 6) (v := .int tat_0) (C := RX6) (T := TX6) (N := 8) hx hb htb iX6 hown hK.1 hP 0 rfl rfl 4 (by decide) (htb _ k_162) (fun _ h9 => h9) rfl dX6_goOn_143 ?_
                  refine lv_iconst (v := 1) hx hb dX6_goOn_146 (by decide) ?_
                  refine lv_iadd hx hb dX6_goOn_147 ?_
                  refine lv_topi (fun z_72 ez_72 => ?_)
                  have jz_72 : z_72.toInt = tat_0.toInt + 1 := by rw [ez_72]; exact g_add rfl t_1 (by omega) (by omega)
                  refine va_put (D := D) (ci := 6) (v := .int z_72) (ty := .int) (C := RX6) (T := TX6) (N := 8) hx hb htb iX6 tyX6 tyX6_ok nmX6 hown hK.1 hP hD hS 0 rfl rfl 4 (by decide) (htb _ k_162) (fun _ h9 => h9) rfl (by decide +kernel) rfl rfl (Nat.le_of_ble_eq_true rfl) dX6_goOn_148 (fun H locs hP hD hS => ?_)
                  have hP : va_P D vwCl [(th, .inr (6, G6 ta tsize trule twords z_72 z_71 tat_0 tvalue)), ((ta 0), .inl (E 0, 120, .inl tf0))] H := hP
                  have hD := toW hP hD rfl
                  have hP9 := hP.sub (ws' := [(th, .inr (6, G6 ta tsize trule twords z_72 z_71 tat_0 tvalue)), ((ta 0), .inl (E 0, 120, .inl tf0))]) [0, 1] rfl
                  have hD9 := hD.sub (ws' := [(th, .inr (6, G6 ta tsize trule twords z_72 z_71 tat_0 tvalue)), ((ta 0), .inl (E 0, 120, .inl tf0))]) [0, 1] (by decide) rfl
                  exact W.vret hx hb hr (fun t ht hW => ⟨⟨(z_72, tvalue, z_71, tat_0), rfl, (by (try dsimp only); omega), by rw [ht]; exact hP9, hD9⟩, hS.F ht⟩) hS.2.2 dX6_goOn_151
          ·
            have ic_40 : tsize.toInt ≤ tat_0.toInt := by first | exact (g_le rfl rfl).mp c_40 | (have h := mt (g_lt rfl rfl).mpr c_40; omega)
            clear c_40
            refine lv_aload_n hx hb dX6_goOn_57 rfl (lv_at hl 0 rfl) ?_
            refine lv_iconst (v := 0) hx hb dX6_goOn_58 (by decide) ?_
            refine va_put (D := D) (ci := 6) (v := .int 0) (ty := .int) (C := RX6) (T := TX6) (N := 8) hx hb htb iX6 tyX6 tyX6_ok nmX6 hown hK.1 hP hD hS 0 rfl rfl 5 (by decide) (htb _ k_163) (fun _ h9 => h9) rfl (by decide +kernel) rfl rfl (Nat.le_of_ble_eq_true rfl) dX6_goOn_59 (fun H locs hP hD hS => ?_)
            have hP : va_P D vwCl [(th, .inr (6, G6 ta tsize trule twords tat_0 0 tat_0 tvalue)), ((ta 0), .inl (E 0, 120, .inl tf0))] H := hP
            have hD := toW hP hD rfl
            refine lv_goto (tgt := 151) hx hb dX6_goOn_62 (by decide) ?_
            have hP9 := hP.sub (ws' := [(th, .inr (6, G6 ta tsize trule twords tat_0 0 tat_0 tvalue)), ((ta 0), .inl (E 0, 120, .inl tf0))]) [0, 1] rfl
            have hD9 := hD.sub (ws' := [(th, .inr (6, G6 ta tsize trule twords tat_0 0 tat_0 tvalue)), ((ta 0), .inl (E 0, 120, .inl tf0))]) [0, 1] (by decide) rfl
            exact W.vret hx hb hr (fun t ht hW => ⟨⟨(tat_0, tvalue, (0 : Int32), tat_0), rfl, (by have h0 := t_0; (try dsimp only); omega), by rw [ht]; exact hP9, hD9⟩, hS.F ht⟩) hS.2.2 dX6_goOn_151
        ·
          have ic_39 : z_38.toInt = 32 := (g_eq rfl t_32).mp c_39
          clear c_39
          refine lv_aload_n hx hb dX6_goOn_25 rfl (lv_at hl 0 rfl) ?_
          refine lv_dup hx hb dX6_goOn_26 rfl ?_
          refine va_get (D := D) (ci := 6) (v := .int tat_0) (C := RX6) (T := TX6) (N := 8) hx hb htb iX6 hown hK.1 hP 0 rfl rfl 4 (by decide) (htb _ k_162) (fun _ h9 => h9) rfl dX6_goOn_27 ?_
          refine lv_iconst (v := 1) hx hb dX6_goOn_30 (by decide) ?_
          refine lv_iadd hx hb dX6_goOn_31 ?_
          refine lv_topi (fun z_73 ez_73 => ?_)
          have jz_73 : z_73.toInt = tat_0.toInt + 1 := by rw [ez_73]; exact g_add rfl t_1 (by omega) (by omega)
          refine va_put (D := D) (ci := 6) (v := .int z_73) (ty := .int) (C := RX6) (T := TX6) (N := 8) hx hb htb iX6 tyX6 tyX6_ok nmX6 hown hK.1 hP hD hS 0 rfl rfl 4 (by decide) (htb _ k_162) (fun _ h9 => h9) rfl (by decide +kernel) rfl rfl (Nat.le_of_ble_eq_true rfl) dX6_goOn_32 (fun H locs hP hD hS => ?_)
          have hP : va_P D vwCl [(th, .inr (6, G6 ta tsize trule twords z_73 tword twordAt tvalue)), ((ta 0), .inl (E 0, 120, .inl tf0))] H := hP
          have hD := toW hP hD rfl
          refine lv_goto (tgt := 0) hx hb dX6_goOn_35 (by decide) ?_
          exact ih_2 z_73 _ _ _ (by (try dsimp only); omega) (by (try dsimp only); omega) hP hD hS (lv_sub hl [0] rfl)
  exact loop_1 121 tat _ _ _ (by (try dsimp only); omega) (by (try dsimp only); omega) hP hD hS (lv_sub hl [0] rfl)
end
