set_option maxHeartbeats 4000000 in
set_option maxRecDepth 100000 in
theorem c_X8_days (l : Launch) (D : va_G) (E : Nat → Nat) (h0 : Nat) (a : Nat → Nat) (p0 : Int32) (sz : Nat)  : Met l yX8_days (wl yX8_days cX8_days 2 (some .int)) (RM 0 0 0) (mu_P D E [.ref h0, .int p0] [(h0, .inr (8, xF a 0))] sz) (va_Qi (fun (r : Int32) (u : Unit) => (r = p0 ∧ (1 ≤ p0.toInt ∧ p0.toInt ≤ 100)) ∨ (r = (-1) ∧ ¬ (1 ≤ p0.toInt ∧ p0.toInt ≤ 100))) (mu_B D (va_A [(h0, .inr (8, xF a 0))] sz) (fun (u : Unit) => ([] : va_W))) (va_A [(h0, .inr (8, xF a 0))] sz)) 0 0 (va_A [(h0, .inr (8, xF a 0))] sz) := by
  refine Met.ofW (cc := cX8_days) (maxL := 2) (ret := (some .int)) (by decide) rfl ?_
  intro p e s m args below meth c s₁ B hml hv
  obtain ⟨rfl, hsz, hP, hK, hD0⟩ := hv
  have hx := B.exec
  have hb := B.bytes
  have hr := B.returns
  have hts := atoms_spec (ws := wl yX8_days cX8_days 2 (some .int)) B.pre
  have htb : ∀ w ∈ tb, w.before _ s = true := fun w h => hts w (List.mem_cons_of_mem _ h)
  have hown : s.vm.findClass RX8 = some m.cls := findClass_of_methodNamed B.named
  have hlocks := B.notSynchronized
  subst hsz
  have hD := hD0.self (sz := s.heap.size)
  generalize hAe : va_A [(h0, .inr (8, xF a 0))] s.heap.size = A at hD ⊢
  have hA : ∀ q : Nat, s.heap.size ≤ q → A q := fun q h => by rw [← hAe]; exact Or.inr h
  have hS : va_S A s.heap s.heap [] := va_S.rf
  have hP : va_P D vwCl [(h0, .inr (8, xF a 0))] s.heap := hP
  have hl := lv_entry ([.ref h0, .int p0]) (n := 2) (Nat.le_of_ble_eq_true rfl)
  rw [lg_entry_eq]
  generalize (lg_sl ([.ref h0, .int p0]) ++ List.replicate (2 - (lg_sl ([.ref h0, .int p0])).length) Slot.unset).toArray = ls at hl ⊢
  have hl : lv_has ls 2 [(0, .ref h0), (1, .int p0)] := hl
  have lo_p0 := i_lo p0
  have hi_p0 := i_hi p0
  refine lv_iload_n hx hb dX8_days_0 rfl (lv_at hl 1 rfl) ?_
  refine lv_iconst (v := 1) hx hb dX8_days_1 (by decide) ?_
  refine lv_icmp_lt (tgt := 23) hx hb dX8_days_2 (by decide) (fun c_1 => ?_) (fun c_1 => ?_)
  ·
    have ic_1 : p0.toInt < 1 := by first | exact (g_lt rfl t_1).mp c_1 | (have h := mt (g_le t_1 rfl).mpr c_1; omega)
    refine lv_iconst (v := (-1)) hx hb dX8_days_23 (by decide) ?_
    have hP9 := hP.sub (ws' := ([] : va_W)) [] rfl
    have hD9 := hD.sub (ws' := ([] : va_W)) [] (by decide) rfl
    exact W.iret (v := (-1)) hx hb hr (fun t ht hW => ⟨⟨(-1), (), rfl, by first | exact Or.inl ⟨(g_eq t_m1 rfl).mpr (by omega), by omega⟩ | exact Or.inr ⟨rfl, by omega⟩ | (exfalso; omega), by rw [ht]; exact hP9, hD9⟩, hS.F ht⟩) hS.2.2 dX8_days_24
  ·
    have ic_1 : 1 ≤ p0.toInt := by first | exact (g_le t_1 rfl).mp c_1 | (have h := mt (g_lt rfl t_1).mpr c_1; omega)
    refine lv_iload_n hx hb dX8_days_5 rfl (lv_at hl 1 rfl) ?_
    refine lv_bipush (v := 100) hx hb dX8_days_6 (by decide) ?_
    refine lv_icmp_gt (tgt := 23) hx hb dX8_days_8 (by decide) (fun c_2 => ?_) (fun c_2 => ?_)
    ·
      have ic_2 : 100 < p0.toInt := by first | exact (g_lt t_100 rfl).mp c_2 | (have h := mt (g_le rfl t_100).mpr c_2; omega)
      refine lv_iconst (v := (-1)) hx hb dX8_days_23 (by decide) ?_
      have hP9 := hP.sub (ws' := ([] : va_W)) [] rfl
      have hD9 := hD.sub (ws' := ([] : va_W)) [] (by decide) rfl
      exact W.iret (v := (-1)) hx hb hr (fun t ht hW => ⟨⟨(-1), (), rfl, by first | exact Or.inl ⟨(g_eq t_m1 rfl).mpr (by omega), by omega⟩ | exact Or.inr ⟨rfl, by omega⟩ | (exfalso; omega), by rw [ht]; exact hP9, hD9⟩, hS.F ht⟩) hS.2.2 dX8_days_24
    ·
      have ic_2 : p0.toInt ≤ 100 := by first | exact (g_le rfl t_100).mp c_2 | (have h := mt (g_lt t_100 rfl).mpr c_2; omega)
      refine lv_aload_n hx hb dX8_days_11 rfl (lv_at hl 0 rfl) ?_
      refine va_get (D := D) (ci := 8) (v := .int 0) (C := RX8) (T := TX8) (N := 14) hx hb htb iX8 hown hK.1 hP 0 rfl rfl 13 (by decide) (htb _ k_285) (fun _ h9 => h9) rfl dX8_days_12 ?_
      refine lv_iload_n hx hb dX8_days_15 rfl (lv_at hl 1 rfl) ?_
      refine lv_iadd hx hb dX8_days_16 ?_
      refine W_top (y := .int p0) (congrArg Value.int (Int32.zero_add _)) ?_
      refine lv_sipush (v := 400) hx hb dX8_days_17 (by decide) ?_
      refine lv_icmp_lt (tgt := 25) hx hb dX8_days_20 (by decide) (fun c_3 => ?_) (fun c_3 => absurd (by rw [g_lt rfl t_400]; omega) c_3)
      refine lv_aload_n hx hb dX8_days_25 rfl (lv_at hl 0 rfl) ?_
      refine lv_dup hx hb dX8_days_26 rfl ?_
      refine va_get (D := D) (ci := 8) (v := .int 0) (C := RX8) (T := TX8) (N := 14) hx hb htb iX8 hown hK.1 hP 0 rfl rfl 13 (by decide) (htb _ k_285) (fun _ h9 => h9) rfl dX8_days_27 ?_
      refine lv_iload_n hx hb dX8_days_30 rfl (lv_at hl 1 rfl) ?_
      refine lv_iadd hx hb dX8_days_31 ?_
      refine W_top (y := .int p0) (congrArg Value.int (Int32.zero_add _)) ?_
      refine va_put (D := D) (ci := 8) (v := .int p0) (ty := .int) (C := RX8) (T := TX8) (N := 14) hx hb htb iX8 tyX8 tyX8_ok nmX8 hown hK.1 hP hD hS 0 rfl rfl 13 (by decide) (htb _ k_285) (fun _ h9 => h9) rfl (by decide +kernel) rfl rfl (Nat.le_of_ble_eq_true rfl) dX8_days_32 (fun H locs hP hD hS => ?_)
      have hP : va_P D vwCl [(h0, .inr (8, xF a p0))] H := hP
      have hD : va_D A [(h0, .inr (8, xF a p0))] := hD
      refine lv_aload_n hx hb dX8_days_35 rfl (lv_at hl 0 rfl) ?_
      refine va_get (D := D) (ci := 8) (v := .int p0) (C := RX8) (T := TX8) (N := 14) hx hb htb iX8 hown hK.1 hP 0 rfl rfl 13 (by decide) (htb _ k_285) (fun _ h9 => h9) rfl dX8_days_36 ?_
      have hP9 := hP.sub (ws' := ([] : va_W)) [] rfl
      have hD9 := hD.sub (ws' := ([] : va_W)) [] (by decide) rfl
      exact W.iret (v := p0) hx hb hr (fun t ht hW => ⟨⟨p0, (), rfl, by first | exact Or.inl ⟨rfl, by omega⟩ | exact Or.inr ⟨(g_eq rfl t_m1).mpr (by omega), by omega⟩ | (exfalso; omega), by rw [ht]; exact hP9, hD9⟩, hS.F ht⟩) hS.2.2 dX8_days_39
set_option maxHeartbeats 4000000 in
set_option maxRecDepth 100000 in
theorem c_X8_warmth (l : Launch) (D : va_G) (E : Nat → Nat) (h0 : Nat) (a : Nat → Nat) (fw : Nat → Int32) (p0 : Int32) (p1 : Int32) (sz : Nat)  : Met l yX8_warmth (wl yX8_warmth cX8_warmth 3 (some .int)) (RM 1 0 0) (mu_P D E [.ref h0, .int p0, .int p1] [(h0, .inr (8, xF a 0)), ((a 0), .inl (E 0, 400, .inl fw))] sz) (va_Qi (fun (r : Int32) (u : Unit) => (r = 1 ∧ ((0 ≤ p0.toInt ∧ p0.toInt ≤ 399) ∧ (p1.toInt = -100 ∨ (-50 ≤ p1.toInt ∧ p1.toInt ≤ 50)))) ∨ (r = (-1) ∧ ¬ ((0 ≤ p0.toInt ∧ p0.toInt ≤ 399) ∧ (p1.toInt = -100 ∨ (-50 ≤ p1.toInt ∧ p1.toInt ≤ 50))))) (mu_B D (va_A [(h0, .inr (8, xF a 0)), ((a 0), .inl (E 0, 400, .inl fw))] sz) (fun (u : Unit) => ([] : va_W))) (va_A [(h0, .inr (8, xF a 0)), ((a 0), .inl (E 0, 400, .inl fw))] sz)) 0 0 (va_A [(h0, .inr (8, xF a 0)), ((a 0), .inl (E 0, 400, .inl fw))] sz) := by
  refine Met.ofW (cc := cX8_warmth) (maxL := 3) (ret := (some .int)) (by decide) rfl ?_
  intro p e s m args below meth c s₁ B hml hv
  obtain ⟨rfl, hsz, hP, hK, hD0⟩ := hv
  have hx := B.exec
  have hb := B.bytes
  have hr := B.returns
  have hts := atoms_spec (ws := wl yX8_warmth cX8_warmth 3 (some .int)) B.pre
  have htb : ∀ w ∈ tb, w.before _ s = true := fun w h => hts w (List.mem_cons_of_mem _ h)
  have hown : s.vm.findClass RX8 = some m.cls := findClass_of_methodNamed B.named
  have hlocks := B.notSynchronized
  subst hsz
  have hD := hD0.self (sz := s.heap.size)
  generalize hAe : va_A [(h0, .inr (8, xF a 0)), ((a 0), .inl (E 0, 400, .inl fw))] s.heap.size = A at hD ⊢
  have hA : ∀ q : Nat, s.heap.size ≤ q → A q := fun q h => by rw [← hAe]; exact Or.inr h
  have hS : va_S A s.heap s.heap [] := va_S.rf
  have hP : va_P D vwCl [(h0, .inr (8, xF a 0)), ((a 0), .inl (E 0, 400, .inl fw))] s.heap := hP
  have hl := lv_entry ([.ref h0, .int p0, .int p1]) (n := 3) (Nat.le_of_ble_eq_true rfl)
  rw [lg_entry_eq]
  generalize (lg_sl ([.ref h0, .int p0, .int p1]) ++ List.replicate (3 - (lg_sl ([.ref h0, .int p0, .int p1])).length) Slot.unset).toArray = ls at hl ⊢
  have hl : lv_has ls 3 [(0, .ref h0), (1, .int p0), (2, .int p1)] := hl
  have lo_p0 := i_lo p0
  have hi_p0 := i_hi p0
  have lo_p1 := i_lo p1
  have hi_p1 := i_hi p1
  refine lv_iload_n hx hb dX8_warmth_0 rfl (lv_at hl 1 rfl) ?_
  refine callRS (rest := []) (As := [.int p0]) hx hb hml hown htb hK (c_X8_isDay l D E p0 ) ok_X8_isDay k_323 k_324 k_1 k_325 ⟨(Nat.le_of_ble_eq_true rfl), (Nat.le_of_ble_eq_true rfl)⟩ ⟨(Nat.le_of_ble_eq_true rfl), (Nat.le_of_ble_eq_true rfl)⟩ hl.1 (Nat.le_of_ble_eq_true rfl) rfl rfl dX8_warmth_1 (hP.sub (ws' := ([] : va_W)) [] rfl) (fun r_2 hw_1 => ?_)
  rcases hw_1 with ⟨hr_2, hw_1⟩ | ⟨hr_2, hw_1⟩
  ·
    refine W_top (y := .int 1) (by rw [hr_2]) ?_
    refine lv_if_eq (tgt := 22) hx hb dX8_warmth_4 (by decide) (fun c_3 => absurd c_3 (by decide)) (fun c_3 => ?_)
    refine lv_iload_n hx hb dX8_warmth_7 rfl (lv_at hl 2 rfl) ?_
    refine lv_bipush (v := (-100)) hx hb dX8_warmth_8 (by decide) ?_
    refine lv_icmp_eq (tgt := 24) hx hb dX8_warmth_10 (by decide) (fun c_4 => ?_) (fun c_4 => ?_)
    ·
      have ic_4 : p1.toInt = -100 := (g_eq rfl t_m100).mp c_4
      refine lv_aload_n hx hb dX8_warmth_24 rfl (lv_at hl 0 rfl) ?_
      refine va_get (D := D) (ci := 8) (v := .ref (a 0)) (C := RX8) (T := TX8) (N := 14) hx hb htb iX8 hown hK.1 hP 0 rfl rfl 0 (by decide) (htb _ k_272) (fun _ h9 => h9) rfl dX8_warmth_25 ?_
      refine lv_iload_n hx hb dX8_warmth_28 rfl (lv_at hl 1 rfl) ?_
      refine lv_iload_n hx hb dX8_warmth_29 rfl (lv_at hl 2 rfl) ?_
      refine va_iast hx hb hK.1 hP hD hS 1 0 rfl rfl (g_in rfl (by omega) (by omega)) dX8_warmth_30 (fun H locs hP hD hS => ?_)
      have hP : va_P D vwCl [(h0, .inr (8, xF a 0)), ((a 0), .inl (E 0, 400, .inl (upd fw (p0 : Int32).toNatClampNeg p1)))] H := hP
      have hD : va_D A [(h0, .inr (8, xF a 0)), ((a 0), .inl (E 0, 400, .inl (upd fw (p0 : Int32).toNatClampNeg p1)))] := hD
      refine lv_iconst (v := 1) hx hb dX8_warmth_31 (by decide) ?_
      have hP9 := hP.sub (ws' := ([] : va_W)) [] rfl
      have hD9 := hD.sub (ws' := ([] : va_W)) [] (by decide) rfl
      exact W.iret (v := 1) hx hb hr (fun t ht hW => ⟨⟨1, (), rfl, by first | exact Or.inl ⟨rfl, by omega⟩ | (exfalso; omega), by rw [ht]; exact hP9, hD9⟩, hS.F ht⟩) hS.2.2 dX8_warmth_32
    ·
      have ic_4 : p1.toInt ≠ -100 := mt (g_eq rfl t_m100).mpr c_4
      refine lv_iload_n hx hb dX8_warmth_13 rfl (lv_at hl 2 rfl) ?_
      refine lv_bipush (v := 50) hx hb dX8_warmth_14 (by decide) ?_
      refine callRS (rest := []) (As := [.int p1, .int 50]) hx hb hml hown htb hK (c_X8_isWithin l D E p1 50 (by decide)) ok_X8_isWithin k_326 k_327 k_1 k_328 ⟨(Nat.le_of_ble_eq_true rfl), (Nat.le_of_ble_eq_true rfl)⟩ ⟨(Nat.le_of_ble_eq_true rfl), (Nat.le_of_ble_eq_true rfl)⟩ hl.1 (Nat.le_of_ble_eq_true rfl) rfl rfl dX8_warmth_16 (hP.sub (ws' := ([] : va_W)) [] rfl) (fun r_6 hw_5 => ?_)
      rcases hw_5 with ⟨hr_6, hw_5⟩ | ⟨hr_6, hw_5⟩
      ·
        try simp only [t_50] at hw_5
        refine W_top (y := .int 1) (by rw [hr_6]) ?_
        refine lv_if_ne (tgt := 24) hx hb dX8_warmth_19 (by decide) (fun c_7 => ?_) (fun c_7 => absurd c_7 (by decide))
        refine lv_aload_n hx hb dX8_warmth_24 rfl (lv_at hl 0 rfl) ?_
        refine va_get (D := D) (ci := 8) (v := .ref (a 0)) (C := RX8) (T := TX8) (N := 14) hx hb htb iX8 hown hK.1 hP 0 rfl rfl 0 (by decide) (htb _ k_272) (fun _ h9 => h9) rfl dX8_warmth_25 ?_
        refine lv_iload_n hx hb dX8_warmth_28 rfl (lv_at hl 1 rfl) ?_
        refine lv_iload_n hx hb dX8_warmth_29 rfl (lv_at hl 2 rfl) ?_
        refine va_iast hx hb hK.1 hP hD hS 1 0 rfl rfl (g_in rfl (by omega) (by omega)) dX8_warmth_30 (fun H locs hP hD hS => ?_)
        have hP : va_P D vwCl [(h0, .inr (8, xF a 0)), ((a 0), .inl (E 0, 400, .inl (upd fw (p0 : Int32).toNatClampNeg p1)))] H := hP
        have hD : va_D A [(h0, .inr (8, xF a 0)), ((a 0), .inl (E 0, 400, .inl (upd fw (p0 : Int32).toNatClampNeg p1)))] := hD
        refine lv_iconst (v := 1) hx hb dX8_warmth_31 (by decide) ?_
        have hP9 := hP.sub (ws' := ([] : va_W)) [] rfl
        have hD9 := hD.sub (ws' := ([] : va_W)) [] (by decide) rfl
        exact W.iret (v := 1) hx hb hr (fun t ht hW => ⟨⟨1, (), rfl, by first | exact Or.inl ⟨rfl, by omega⟩ | (exfalso; omega), by rw [ht]; exact hP9, hD9⟩, hS.F ht⟩) hS.2.2 dX8_warmth_32
      ·
        try simp only [t_50] at hw_5
        refine W_top (y := .int 0) (by rw [hr_6]) ?_
        refine lv_if_ne (tgt := 24) hx hb dX8_warmth_19 (by decide) (fun c_8 => absurd (by decide) c_8) (fun c_8 => ?_)
        refine lv_iconst (v := (-1)) hx hb dX8_warmth_22 (by decide) ?_
        have hP9 := hP.sub (ws' := ([] : va_W)) [] rfl
        have hD9 := hD.sub (ws' := ([] : va_W)) [] (by decide) rfl
        exact W.iret (v := (-1)) hx hb hr (fun t ht hW => ⟨⟨(-1), (), rfl, by first | exact Or.inr ⟨rfl, by omega⟩ | (exfalso; omega), by rw [ht]; exact hP9, hD9⟩, hS.F ht⟩) hS.2.2 dX8_warmth_23
  ·
    refine W_top (y := .int 0) (by rw [hr_2]) ?_
    refine lv_if_eq (tgt := 22) hx hb dX8_warmth_4 (by decide) (fun c_9 => ?_) (fun c_9 => absurd (by decide) c_9)
    refine lv_iconst (v := (-1)) hx hb dX8_warmth_22 (by decide) ?_
    have hP9 := hP.sub (ws' := ([] : va_W)) [] rfl
    have hD9 := hD.sub (ws' := ([] : va_W)) [] (by decide) rfl
    exact W.iret (v := (-1)) hx hb hr (fun t ht hW => ⟨⟨(-1), (), rfl, by first | exact Or.inr ⟨rfl, by omega⟩ | (exfalso; omega), by rw [ht]; exact hP9, hD9⟩, hS.F ht⟩) hS.2.2 dX8_warmth_23
set_option maxHeartbeats 4000000 in
set_option maxRecDepth 100000 in
theorem c_X2_add (l : Launch) (D : va_G) (E : Nat → Nat) (a : Nat → Nat) (p0 : Int32) (p1 : Int32) (p2 : Int32) (p3 : Int32) (p4 : Int32) (sz : Nat)  : Met l yX2_add (wl yX2_add cX2_add 6 none) (RM 0 0 0) (mu_P D E [.ref (a 6), .int p0, .int p1, .int p2, .int p3, .int p4] [((a 6), .inr (2, [.ref (a 18), .ref (a 19), .ref (a 20), .ref (a 21), .ref (a 22), .int 0])), ((a 18), .inl (E 0, 60, .inl (fun _ => 0))), ((a 19), .inl (E 0, 60, .inl (fun _ => 0))), ((a 20), .inl (E 0, 60, .inl (fun _ => 0))), ((a 21), .inl (E 0, 60, .inl (fun _ => 0))), ((a 22), .inl (E 0, 60, .inl (fun _ => 0)))] sz) (va_Qv (fun (u : Unit) => True) (mu_B D (va_A [((a 6), .inr (2, [.ref (a 18), .ref (a 19), .ref (a 20), .ref (a 21), .ref (a 22), .int 0])), ((a 18), .inl (E 0, 60, .inl (fun _ => 0))), ((a 19), .inl (E 0, 60, .inl (fun _ => 0))), ((a 20), .inl (E 0, 60, .inl (fun _ => 0))), ((a 21), .inl (E 0, 60, .inl (fun _ => 0))), ((a 22), .inl (E 0, 60, .inl (fun _ => 0)))] sz) (fun (u : Unit) => [((a 6), .inr (2, [.ref (a 18), .ref (a 19), .ref (a 20), .ref (a 21), .ref (a 22), .int 1]))])) (va_A [((a 6), .inr (2, [.ref (a 18), .ref (a 19), .ref (a 20), .ref (a 21), .ref (a 22), .int 0])), ((a 18), .inl (E 0, 60, .inl (fun _ => 0))), ((a 19), .inl (E 0, 60, .inl (fun _ => 0))), ((a 20), .inl (E 0, 60, .inl (fun _ => 0))), ((a 21), .inl (E 0, 60, .inl (fun _ => 0))), ((a 22), .inl (E 0, 60, .inl (fun _ => 0)))] sz)) 0 0 (va_A [((a 6), .inr (2, [.ref (a 18), .ref (a 19), .ref (a 20), .ref (a 21), .ref (a 22), .int 0])), ((a 18), .inl (E 0, 60, .inl (fun _ => 0))), ((a 19), .inl (E 0, 60, .inl (fun _ => 0))), ((a 20), .inl (E 0, 60, .inl (fun _ => 0))), ((a 21), .inl (E 0, 60, .inl (fun _ => 0))), ((a 22), .inl (E 0, 60, .inl (fun _ => 0)))] sz) := by
  refine Met.ofW (cc := cX2_add) (maxL := 6) (ret := none) (by decide) rfl ?_
  intro p e s m args below meth c s₁ B hml hv
  obtain ⟨rfl, hsz, hP, hK, hD0⟩ := hv
  have hx := B.exec
  have hb := B.bytes
  have hr := B.returns
  have hts := atoms_spec (ws := wl yX2_add cX2_add 6 none) B.pre
  have htb : ∀ w ∈ tb, w.before _ s = true := fun w h => hts w (List.mem_cons_of_mem _ h)
  have hown : s.vm.findClass RX2 = some m.cls := findClass_of_methodNamed B.named
  have hlocks := B.notSynchronized
  subst hsz
  have hD := hD0.self (sz := s.heap.size)
  generalize hAe : va_A [((a 6), .inr (2, [.ref (a 18), .ref (a 19), .ref (a 20), .ref (a 21), .ref (a 22), .int 0])), ((a 18), .inl (E 0, 60, .inl (fun _ => 0))), ((a 19), .inl (E 0, 60, .inl (fun _ => 0))), ((a 20), .inl (E 0, 60, .inl (fun _ => 0))), ((a 21), .inl (E 0, 60, .inl (fun _ => 0))), ((a 22), .inl (E 0, 60, .inl (fun _ => 0)))] s.heap.size = A at hD ⊢
  have hA : ∀ q : Nat, s.heap.size ≤ q → A q := fun q h => by rw [← hAe]; exact Or.inr h
  have hS : va_S A s.heap s.heap [] := va_S.rf
  have hP : va_P D vwCl [((a 6), .inr (2, [.ref (a 18), .ref (a 19), .ref (a 20), .ref (a 21), .ref (a 22), .int 0])), ((a 18), .inl (E 0, 60, .inl (fun _ => 0))), ((a 19), .inl (E 0, 60, .inl (fun _ => 0))), ((a 20), .inl (E 0, 60, .inl (fun _ => 0))), ((a 21), .inl (E 0, 60, .inl (fun _ => 0))), ((a 22), .inl (E 0, 60, .inl (fun _ => 0)))] s.heap := hP
  have hl := lv_entry ([.ref (a 6), .int p0, .int p1, .int p2, .int p3, .int p4]) (n := 6) (Nat.le_of_ble_eq_true rfl)
  rw [lg_entry_eq]
  generalize (lg_sl ([.ref (a 6), .int p0, .int p1, .int p2, .int p3, .int p4]) ++ List.replicate (6 - (lg_sl ([.ref (a 6), .int p0, .int p1, .int p2, .int p3, .int p4])).length) Slot.unset).toArray = ls at hl ⊢
  have hl : lv_has ls 6 [(0, .ref (a 6)), (1, .int p0), (2, .int p1), (3, .int p2), (4, .int p3), (5, .int p4)] := hl
  have lo_p0 := i_lo p0
  have hi_p0 := i_hi p0
  have lo_p1 := i_lo p1
  have hi_p1 := i_hi p1
  have lo_p2 := i_lo p2
  have hi_p2 := i_hi p2
  have lo_p3 := i_lo p3
  have hi_p3 := i_hi p3
  have lo_p4 := i_lo p4
  have hi_p4 := i_hi p4
  refine lv_aload_n hx hb dX2_add_0 rfl (lv_at hl 0 rfl) ?_
  refine va_get (D := D) (ci := 2) (v := .int 0) (C := RX2) (T := TX2) (N := 6) hx hb htb iX2 hown hK.1 hP 0 rfl rfl 5 (by decide) (htb _ k_39) (fun _ h9 => h9) rfl dX2_add_1 ?_
  refine lv_bipush (v := 60) hx hb dX2_add_4 (by decide) ?_
  refine lv_icmp_lt (tgt := 10) hx hb dX2_add_6 (by decide) (fun c_1 => ?_) (fun c_1 => absurd (by decide) c_1)
  refine lv_aload_n hx hb dX2_add_10 rfl (lv_at hl 0 rfl) ?_
  refine va_get (D := D) (ci := 2) (v := .ref (a 18)) (C := RX2) (T := TX2) (N := 6) hx hb htb iX2 hown hK.1 hP 0 rfl rfl 0 (by decide) (htb _ k_34) (fun _ h9 => h9) rfl dX2_add_11 ?_
  refine lv_aload_n hx hb dX2_add_14 rfl (lv_at hl 0 rfl) ?_
  refine va_get (D := D) (ci := 2) (v := .int 0) (C := RX2) (T := TX2) (N := 6) hx hb htb iX2 hown hK.1 hP 0 rfl rfl 5 (by decide) (htb _ k_39) (fun _ h9 => h9) rfl dX2_add_15 ?_
  refine lv_iload_n hx hb dX2_add_18 rfl (lv_at hl 1 rfl) ?_
  refine va_iast hx hb hK.1 hP hD hS 1 0 rfl rfl (g_in t_0 (by decide) (by decide)) dX2_add_19 (fun H locs hP hD hS => ?_)
  have hP : va_P D vwCl [((a 6), .inr (2, [.ref (a 18), .ref (a 19), .ref (a 20), .ref (a 21), .ref (a 22), .int 0])), ((a 18), .inl (E 0, 60, .inl (upd (fun _ => 0) (0 : Int32).toNatClampNeg p0))), ((a 19), .inl (E 0, 60, .inl (fun _ => 0))), ((a 20), .inl (E 0, 60, .inl (fun _ => 0))), ((a 21), .inl (E 0, 60, .inl (fun _ => 0))), ((a 22), .inl (E 0, 60, .inl (fun _ => 0)))] H := hP
  have hD : va_D A [((a 6), .inr (2, [.ref (a 18), .ref (a 19), .ref (a 20), .ref (a 21), .ref (a 22), .int 0])), ((a 18), .inl (E 0, 60, .inl (upd (fun _ => 0) (0 : Int32).toNatClampNeg p0))), ((a 19), .inl (E 0, 60, .inl (fun _ => 0))), ((a 20), .inl (E 0, 60, .inl (fun _ => 0))), ((a 21), .inl (E 0, 60, .inl (fun _ => 0))), ((a 22), .inl (E 0, 60, .inl (fun _ => 0)))] := hD
  refine lv_aload_n hx hb dX2_add_20 rfl (lv_at hl 0 rfl) ?_
  refine va_get (D := D) (ci := 2) (v := .ref (a 19)) (C := RX2) (T := TX2) (N := 6) hx hb htb iX2 hown hK.1 hP 0 rfl rfl 1 (by decide) (htb _ k_35) (fun _ h9 => h9) rfl dX2_add_21 ?_
  refine lv_aload_n hx hb dX2_add_24 rfl (lv_at hl 0 rfl) ?_
  refine va_get (D := D) (ci := 2) (v := .int 0) (C := RX2) (T := TX2) (N := 6) hx hb htb iX2 hown hK.1 hP 0 rfl rfl 5 (by decide) (htb _ k_39) (fun _ h9 => h9) rfl dX2_add_25 ?_
  refine lv_iload_n hx hb dX2_add_28 rfl (lv_at hl 2 rfl) ?_
  refine va_iast hx hb hK.1 hP hD hS 2 0 rfl rfl (g_in t_0 (by decide) (by decide)) dX2_add_29 (fun H locs hP hD hS => ?_)
  have hP : va_P D vwCl [((a 6), .inr (2, [.ref (a 18), .ref (a 19), .ref (a 20), .ref (a 21), .ref (a 22), .int 0])), ((a 18), .inl (E 0, 60, .inl (upd (fun _ => 0) (0 : Int32).toNatClampNeg p0))), ((a 19), .inl (E 0, 60, .inl (upd (fun _ => 0) (0 : Int32).toNatClampNeg p1))), ((a 20), .inl (E 0, 60, .inl (fun _ => 0))), ((a 21), .inl (E 0, 60, .inl (fun _ => 0))), ((a 22), .inl (E 0, 60, .inl (fun _ => 0)))] H := hP
  have hD : va_D A [((a 6), .inr (2, [.ref (a 18), .ref (a 19), .ref (a 20), .ref (a 21), .ref (a 22), .int 0])), ((a 18), .inl (E 0, 60, .inl (upd (fun _ => 0) (0 : Int32).toNatClampNeg p0))), ((a 19), .inl (E 0, 60, .inl (upd (fun _ => 0) (0 : Int32).toNatClampNeg p1))), ((a 20), .inl (E 0, 60, .inl (fun _ => 0))), ((a 21), .inl (E 0, 60, .inl (fun _ => 0))), ((a 22), .inl (E 0, 60, .inl (fun _ => 0)))] := hD
  refine lv_aload_n hx hb dX2_add_30 rfl (lv_at hl 0 rfl) ?_
  refine va_get (D := D) (ci := 2) (v := .ref (a 20)) (C := RX2) (T := TX2) (N := 6) hx hb htb iX2 hown hK.1 hP 0 rfl rfl 2 (by decide) (htb _ k_36) (fun _ h9 => h9) rfl dX2_add_31 ?_
  refine lv_aload_n hx hb dX2_add_34 rfl (lv_at hl 0 rfl) ?_
  refine va_get (D := D) (ci := 2) (v := .int 0) (C := RX2) (T := TX2) (N := 6) hx hb htb iX2 hown hK.1 hP 0 rfl rfl 5 (by decide) (htb _ k_39) (fun _ h9 => h9) rfl dX2_add_35 ?_
  refine lv_iload_n hx hb dX2_add_38 rfl (lv_at hl 3 rfl) ?_
  refine va_iast hx hb hK.1 hP hD hS 3 0 rfl rfl (g_in t_0 (by decide) (by decide)) dX2_add_39 (fun H locs hP hD hS => ?_)
  have hP : va_P D vwCl [((a 6), .inr (2, [.ref (a 18), .ref (a 19), .ref (a 20), .ref (a 21), .ref (a 22), .int 0])), ((a 18), .inl (E 0, 60, .inl (upd (fun _ => 0) (0 : Int32).toNatClampNeg p0))), ((a 19), .inl (E 0, 60, .inl (upd (fun _ => 0) (0 : Int32).toNatClampNeg p1))), ((a 20), .inl (E 0, 60, .inl (upd (fun _ => 0) (0 : Int32).toNatClampNeg p2))), ((a 21), .inl (E 0, 60, .inl (fun _ => 0))), ((a 22), .inl (E 0, 60, .inl (fun _ => 0)))] H := hP
  have hD : va_D A [((a 6), .inr (2, [.ref (a 18), .ref (a 19), .ref (a 20), .ref (a 21), .ref (a 22), .int 0])), ((a 18), .inl (E 0, 60, .inl (upd (fun _ => 0) (0 : Int32).toNatClampNeg p0))), ((a 19), .inl (E 0, 60, .inl (upd (fun _ => 0) (0 : Int32).toNatClampNeg p1))), ((a 20), .inl (E 0, 60, .inl (upd (fun _ => 0) (0 : Int32).toNatClampNeg p2))), ((a 21), .inl (E 0, 60, .inl (fun _ => 0))), ((a 22), .inl (E 0, 60, .inl (fun _ => 0)))] := hD
  refine lv_aload_n hx hb dX2_add_40 rfl (lv_at hl 0 rfl) ?_
  refine va_get (D := D) (ci := 2) (v := .ref (a 21)) (C := RX2) (T := TX2) (N := 6) hx hb htb iX2 hown hK.1 hP 0 rfl rfl 3 (by decide) (htb _ k_37) (fun _ h9 => h9) rfl dX2_add_41 ?_
  refine lv_aload_n hx hb dX2_add_44 rfl (lv_at hl 0 rfl) ?_
  refine va_get (D := D) (ci := 2) (v := .int 0) (C := RX2) (T := TX2) (N := 6) hx hb htb iX2 hown hK.1 hP 0 rfl rfl 5 (by decide) (htb _ k_39) (fun _ h9 => h9) rfl dX2_add_45 ?_
  refine lv_iload hx hb dX2_add_48 (lv_at hl 4 rfl) ?_
  refine va_iast hx hb hK.1 hP hD hS 4 0 rfl rfl (g_in t_0 (by decide) (by decide)) dX2_add_50 (fun H locs hP hD hS => ?_)
  have hP : va_P D vwCl [((a 6), .inr (2, [.ref (a 18), .ref (a 19), .ref (a 20), .ref (a 21), .ref (a 22), .int 0])), ((a 18), .inl (E 0, 60, .inl (upd (fun _ => 0) (0 : Int32).toNatClampNeg p0))), ((a 19), .inl (E 0, 60, .inl (upd (fun _ => 0) (0 : Int32).toNatClampNeg p1))), ((a 20), .inl (E 0, 60, .inl (upd (fun _ => 0) (0 : Int32).toNatClampNeg p2))), ((a 21), .inl (E 0, 60, .inl (upd (fun _ => 0) (0 : Int32).toNatClampNeg p3))), ((a 22), .inl (E 0, 60, .inl (fun _ => 0)))] H := hP
  have hD : va_D A [((a 6), .inr (2, [.ref (a 18), .ref (a 19), .ref (a 20), .ref (a 21), .ref (a 22), .int 0])), ((a 18), .inl (E 0, 60, .inl (upd (fun _ => 0) (0 : Int32).toNatClampNeg p0))), ((a 19), .inl (E 0, 60, .inl (upd (fun _ => 0) (0 : Int32).toNatClampNeg p1))), ((a 20), .inl (E 0, 60, .inl (upd (fun _ => 0) (0 : Int32).toNatClampNeg p2))), ((a 21), .inl (E 0, 60, .inl (upd (fun _ => 0) (0 : Int32).toNatClampNeg p3))), ((a 22), .inl (E 0, 60, .inl (fun _ => 0)))] := hD
  refine lv_aload_n hx hb dX2_add_51 rfl (lv_at hl 0 rfl) ?_
  refine va_get (D := D) (ci := 2) (v := .ref (a 22)) (C := RX2) (T := TX2) (N := 6) hx hb htb iX2 hown hK.1 hP 0 rfl rfl 4 (by decide) (htb _ k_38) (fun _ h9 => h9) rfl dX2_add_52 ?_
  refine lv_aload_n hx hb dX2_add_55 rfl (lv_at hl 0 rfl) ?_
  refine va_get (D := D) (ci := 2) (v := .int 0) (C := RX2) (T := TX2) (N := 6) hx hb htb iX2 hown hK.1 hP 0 rfl rfl 5 (by decide) (htb _ k_39) (fun _ h9 => h9) rfl dX2_add_56 ?_
  refine lv_iload hx hb dX2_add_59 (lv_at hl 5 rfl) ?_
  refine va_iast hx hb hK.1 hP hD hS 5 0 rfl rfl (g_in t_0 (by decide) (by decide)) dX2_add_61 (fun H locs hP hD hS => ?_)
  have hP : va_P D vwCl [((a 6), .inr (2, [.ref (a 18), .ref (a 19), .ref (a 20), .ref (a 21), .ref (a 22), .int 0])), ((a 18), .inl (E 0, 60, .inl (upd (fun _ => 0) (0 : Int32).toNatClampNeg p0))), ((a 19), .inl (E 0, 60, .inl (upd (fun _ => 0) (0 : Int32).toNatClampNeg p1))), ((a 20), .inl (E 0, 60, .inl (upd (fun _ => 0) (0 : Int32).toNatClampNeg p2))), ((a 21), .inl (E 0, 60, .inl (upd (fun _ => 0) (0 : Int32).toNatClampNeg p3))), ((a 22), .inl (E 0, 60, .inl (upd (fun _ => 0) (0 : Int32).toNatClampNeg p4)))] H := hP
  have hD : va_D A [((a 6), .inr (2, [.ref (a 18), .ref (a 19), .ref (a 20), .ref (a 21), .ref (a 22), .int 0])), ((a 18), .inl (E 0, 60, .inl (upd (fun _ => 0) (0 : Int32).toNatClampNeg p0))), ((a 19), .inl (E 0, 60, .inl (upd (fun _ => 0) (0 : Int32).toNatClampNeg p1))), ((a 20), .inl (E 0, 60, .inl (upd (fun _ => 0) (0 : Int32).toNatClampNeg p2))), ((a 21), .inl (E 0, 60, .inl (upd (fun _ => 0) (0 : Int32).toNatClampNeg p3))), ((a 22), .inl (E 0, 60, .inl (upd (fun _ => 0) (0 : Int32).toNatClampNeg p4)))] := hD
  refine lv_aload_n hx hb dX2_add_62 rfl (lv_at hl 0 rfl) ?_
  refine lv_dup hx hb dX2_add_63 rfl ?_
  refine va_get (D := D) (ci := 2) (v := .int 0) (C := RX2) (T := TX2) (N := 6) hx hb htb iX2 hown hK.1 hP 0 rfl rfl 5 (by decide) (htb _ k_39) (fun _ h9 => h9) rfl dX2_add_64 ?_
  refine lv_iconst (v := 1) hx hb dX2_add_67 (by decide) ?_
  refine lv_iadd hx hb dX2_add_68 ?_
  refine W_top (y := .int 1) (by decide) ?_
  refine va_put (D := D) (ci := 2) (v := .int 1) (ty := .int) (C := RX2) (T := TX2) (N := 6) hx hb htb iX2 tyX2 tyX2_ok nmX2 hown hK.1 hP hD hS 0 rfl rfl 5 (by decide) (htb _ k_39) (fun _ h9 => h9) rfl (by decide +kernel) rfl rfl (Nat.le_of_ble_eq_true rfl) dX2_add_69 (fun H locs hP hD hS => ?_)
  have hP : va_P D vwCl [((a 6), .inr (2, [.ref (a 18), .ref (a 19), .ref (a 20), .ref (a 21), .ref (a 22), .int 1])), ((a 18), .inl (E 0, 60, .inl (upd (fun _ => 0) (0 : Int32).toNatClampNeg p0))), ((a 19), .inl (E 0, 60, .inl (upd (fun _ => 0) (0 : Int32).toNatClampNeg p1))), ((a 20), .inl (E 0, 60, .inl (upd (fun _ => 0) (0 : Int32).toNatClampNeg p2))), ((a 21), .inl (E 0, 60, .inl (upd (fun _ => 0) (0 : Int32).toNatClampNeg p3))), ((a 22), .inl (E 0, 60, .inl (upd (fun _ => 0) (0 : Int32).toNatClampNeg p4)))] H := hP
  have hD : va_D A [((a 6), .inr (2, [.ref (a 18), .ref (a 19), .ref (a 20), .ref (a 21), .ref (a 22), .int 1])), ((a 18), .inl (E 0, 60, .inl (upd (fun _ => 0) (0 : Int32).toNatClampNeg p0))), ((a 19), .inl (E 0, 60, .inl (upd (fun _ => 0) (0 : Int32).toNatClampNeg p1))), ((a 20), .inl (E 0, 60, .inl (upd (fun _ => 0) (0 : Int32).toNatClampNeg p2))), ((a 21), .inl (E 0, 60, .inl (upd (fun _ => 0) (0 : Int32).toNatClampNeg p3))), ((a 22), .inl (E 0, 60, .inl (upd (fun _ => 0) (0 : Int32).toNatClampNeg p4)))] := hD
  have hP9 := hP.sub (ws' := [((a 6), .inr (2, [.ref (a 18), .ref (a 19), .ref (a 20), .ref (a 21), .ref (a 22), .int 1]))]) [0] rfl
  have hD9 := hD.sub (ws' := [((a 6), .inr (2, [.ref (a 18), .ref (a 19), .ref (a 20), .ref (a 21), .ref (a 22), .int 1]))]) [0] (by decide) rfl
  exact W.vret hx hb hr (fun t ht hW => ⟨⟨(), rfl, trivial, by rw [ht]; exact hP9, hD9⟩, hS.F ht⟩) hS.2.2 dX2_add_72
set_option maxHeartbeats 4000000 in
set_option maxRecDepth 100000 in
theorem c_X6_add0 (l : Launch) (D : va_G) (E : Nat → Nat) (a : Nat → Nat) (q3 : Nat) (f : Nat → Int32) (p0 : Int32) (sz : Nat)  : Met l yX6_add (wl yX6_add cX6_add 2 none) (RM 0 0 0) (mu_P D E [.ref (a 9), .int p0] [((a 9), .inr (6, [.ref (a 23), .int 0, .ref (a 24), .ref q3, .int 0, .int 0, .int 0, .int 0])), ((a 23), .inl (E 0, 120, .inl f))] sz) (va_Qv (fun (u : Nat → Int32) => True) (mu_B D (va_A [((a 9), .inr (6, [.ref (a 23), .int 0, .ref (a 24), .ref q3, .int 0, .int 0, .int 0, .int 0])), ((a 23), .inl (E 0, 120, .inl f))] sz) (fun (u : Nat → Int32) => [((a 9), .inr (6, [.ref (a 23), .int 1, .ref (a 24), .ref q3, .int 0, .int 0, .int 0, .int 0])), ((a 23), .inl (E 0, 120, .inl u))])) (va_A [((a 9), .inr (6, [.ref (a 23), .int 0, .ref (a 24), .ref q3, .int 0, .int 0, .int 0, .int 0])), ((a 23), .inl (E 0, 120, .inl f))] sz)) 0 0 (va_A [((a 9), .inr (6, [.ref (a 23), .int 0, .ref (a 24), .ref q3, .int 0, .int 0, .int 0, .int 0])), ((a 23), .inl (E 0, 120, .inl f))] sz) := by
  refine Met.ofW (cc := cX6_add) (maxL := 2) (ret := none) (by decide) rfl ?_
  intro p e s m args below meth c s₁ B hml hv
  obtain ⟨rfl, hsz, hP, hK, hD0⟩ := hv
  have hx := B.exec
  have hb := B.bytes
  have hr := B.returns
  have hts := atoms_spec (ws := wl yX6_add cX6_add 2 none) B.pre
  have htb : ∀ w ∈ tb, w.before _ s = true := fun w h => hts w (List.mem_cons_of_mem _ h)
  have hown : s.vm.findClass RX6 = some m.cls := findClass_of_methodNamed B.named
  have hlocks := B.notSynchronized
  subst hsz
  have hD := hD0.self (sz := s.heap.size)
  generalize hAe : va_A [((a 9), .inr (6, [.ref (a 23), .int 0, .ref (a 24), .ref q3, .int 0, .int 0, .int 0, .int 0])), ((a 23), .inl (E 0, 120, .inl f))] s.heap.size = A at hD ⊢
  have hA : ∀ q : Nat, s.heap.size ≤ q → A q := fun q h => by rw [← hAe]; exact Or.inr h
  have hS : va_S A s.heap s.heap [] := va_S.rf
  have hP : va_P D vwCl [((a 9), .inr (6, [.ref (a 23), .int 0, .ref (a 24), .ref q3, .int 0, .int 0, .int 0, .int 0])), ((a 23), .inl (E 0, 120, .inl f))] s.heap := hP
  have hl := lv_entry ([.ref (a 9), .int p0]) (n := 2) (Nat.le_of_ble_eq_true rfl)
  rw [lg_entry_eq]
  generalize (lg_sl ([.ref (a 9), .int p0]) ++ List.replicate (2 - (lg_sl ([.ref (a 9), .int p0])).length) Slot.unset).toArray = ls at hl ⊢
  have hl : lv_has ls 2 [(0, .ref (a 9)), (1, .int p0)] := hl
  have lo_p0 := i_lo p0
  have hi_p0 := i_hi p0
  refine lv_aload_n hx hb dX6_add_0 rfl (lv_at hl 0 rfl) ?_
  refine va_get (D := D) (ci := 6) (v := .int 0) (C := RX6) (T := TX6) (N := 8) hx hb htb iX6 hown hK.1 hP 0 rfl rfl 1 (by decide) (htb _ k_158) (fun _ h9 => h9) rfl dX6_add_1 ?_
  refine lv_bipush (v := 120) hx hb dX6_add_4 (by decide) ?_
  refine lv_icmp_ge (tgt := 29) hx hb dX6_add_6 (by decide) (fun c_1 => absurd c_1 (by decide)) (fun c_1 => ?_)
  refine lv_aload_n hx hb dX6_add_9 rfl (lv_at hl 0 rfl) ?_
  refine va_get (D := D) (ci := 6) (v := .ref (a 23)) (C := RX6) (T := TX6) (N := 8) hx hb htb iX6 hown hK.1 hP 0 rfl rfl 0 (by decide) (htb _ k_157) (fun _ h9 => h9) rfl dX6_add_10 ?_
  refine lv_aload_n hx hb dX6_add_13 rfl (lv_at hl 0 rfl) ?_
  refine va_get (D := D) (ci := 6) (v := .int 0) (C := RX6) (T := TX6) (N := 8) hx hb htb iX6 hown hK.1 hP 0 rfl rfl 1 (by decide) (htb _ k_158) (fun _ h9 => h9) rfl dX6_add_14 ?_
  refine lv_iload_n hx hb dX6_add_17 rfl (lv_at hl 1 rfl) ?_
  refine va_iast hx hb hK.1 hP hD hS 1 0 rfl rfl (g_in t_0 (by decide) (by decide)) dX6_add_18 (fun H locs hP hD hS => ?_)
  have hP : va_P D vwCl [((a 9), .inr (6, [.ref (a 23), .int 0, .ref (a 24), .ref q3, .int 0, .int 0, .int 0, .int 0])), ((a 23), .inl (E 0, 120, .inl (upd f (0 : Int32).toNatClampNeg p0)))] H := hP
  have hD : va_D A [((a 9), .inr (6, [.ref (a 23), .int 0, .ref (a 24), .ref q3, .int 0, .int 0, .int 0, .int 0])), ((a 23), .inl (E 0, 120, .inl (upd f (0 : Int32).toNatClampNeg p0)))] := hD
  refine lv_aload_n hx hb dX6_add_19 rfl (lv_at hl 0 rfl) ?_
  refine lv_dup hx hb dX6_add_20 rfl ?_
  refine va_get (D := D) (ci := 6) (v := .int 0) (C := RX6) (T := TX6) (N := 8) hx hb htb iX6 hown hK.1 hP 0 rfl rfl 1 (by decide) (htb _ k_158) (fun _ h9 => h9) rfl dX6_add_21 ?_
  refine lv_iconst (v := 1) hx hb dX6_add_24 (by decide) ?_
  refine lv_iadd hx hb dX6_add_25 ?_
  refine W_top (y := .int 1) (by decide) ?_
  refine va_put (D := D) (ci := 6) (v := .int 1) (ty := .int) (C := RX6) (T := TX6) (N := 8) hx hb htb iX6 tyX6 tyX6_ok nmX6 hown hK.1 hP hD hS 0 rfl rfl 1 (by decide) (htb _ k_158) (fun _ h9 => h9) rfl (by decide +kernel) rfl rfl (Nat.le_of_ble_eq_true rfl) dX6_add_26 (fun H locs hP hD hS => ?_)
  have hP : va_P D vwCl [((a 9), .inr (6, [.ref (a 23), .int 1, .ref (a 24), .ref q3, .int 0, .int 0, .int 0, .int 0])), ((a 23), .inl (E 0, 120, .inl (upd f (0 : Int32).toNatClampNeg p0)))] H := hP
  have hD : va_D A [((a 9), .inr (6, [.ref (a 23), .int 1, .ref (a 24), .ref q3, .int 0, .int 0, .int 0, .int 0])), ((a 23), .inl (E 0, 120, .inl (upd f (0 : Int32).toNatClampNeg p0)))] := hD
  have hP9 := hP.sub (ws' := [((a 9), .inr (6, [.ref (a 23), .int 1, .ref (a 24), .ref q3, .int 0, .int 0, .int 0, .int 0])), ((a 23), .inl (E 0, 120, .inl (upd f (0 : Int32).toNatClampNeg p0)))]) [0, 1] rfl
  have hD9 := hD.sub (ws' := [((a 9), .inr (6, [.ref (a 23), .int 1, .ref (a 24), .ref q3, .int 0, .int 0, .int 0, .int 0])), ((a 23), .inl (E 0, 120, .inl (upd f (0 : Int32).toNatClampNeg p0)))]) [0, 1] (by decide) rfl
  exact W.vret hx hb hr (fun t ht hW => ⟨⟨(upd f (0 : Int32).toNatClampNeg p0), rfl, trivial, by rw [ht]; exact hP9, hD9⟩, hS.F ht⟩) hS.2.2 dX6_add_29
set_option maxHeartbeats 4000000 in
set_option maxRecDepth 100000 in
theorem c_X6_add1 (l : Launch) (D : va_G) (E : Nat → Nat) (a : Nat → Nat) (q3 : Nat) (f : Nat → Int32) (p0 : Int32) (sz : Nat)  : Met l yX6_add (wl yX6_add cX6_add 2 none) (RM 0 0 0) (mu_P D E [.ref (a 9), .int p0] [((a 9), .inr (6, [.ref (a 23), .int 1, .ref (a 24), .ref q3, .int 0, .int 0, .int 0, .int 0])), ((a 23), .inl (E 0, 120, .inl f))] sz) (va_Qv (fun (u : Nat → Int32) => True) (mu_B D (va_A [((a 9), .inr (6, [.ref (a 23), .int 1, .ref (a 24), .ref q3, .int 0, .int 0, .int 0, .int 0])), ((a 23), .inl (E 0, 120, .inl f))] sz) (fun (u : Nat → Int32) => [((a 9), .inr (6, [.ref (a 23), .int 2, .ref (a 24), .ref q3, .int 0, .int 0, .int 0, .int 0])), ((a 23), .inl (E 0, 120, .inl u))])) (va_A [((a 9), .inr (6, [.ref (a 23), .int 1, .ref (a 24), .ref q3, .int 0, .int 0, .int 0, .int 0])), ((a 23), .inl (E 0, 120, .inl f))] sz)) 0 0 (va_A [((a 9), .inr (6, [.ref (a 23), .int 1, .ref (a 24), .ref q3, .int 0, .int 0, .int 0, .int 0])), ((a 23), .inl (E 0, 120, .inl f))] sz) := by
  refine Met.ofW (cc := cX6_add) (maxL := 2) (ret := none) (by decide) rfl ?_
  intro p e s m args below meth c s₁ B hml hv
  obtain ⟨rfl, hsz, hP, hK, hD0⟩ := hv
  have hx := B.exec
  have hb := B.bytes
  have hr := B.returns
  have hts := atoms_spec (ws := wl yX6_add cX6_add 2 none) B.pre
  have htb : ∀ w ∈ tb, w.before _ s = true := fun w h => hts w (List.mem_cons_of_mem _ h)
  have hown : s.vm.findClass RX6 = some m.cls := findClass_of_methodNamed B.named
  have hlocks := B.notSynchronized
  subst hsz
  have hD := hD0.self (sz := s.heap.size)
  generalize hAe : va_A [((a 9), .inr (6, [.ref (a 23), .int 1, .ref (a 24), .ref q3, .int 0, .int 0, .int 0, .int 0])), ((a 23), .inl (E 0, 120, .inl f))] s.heap.size = A at hD ⊢
  have hA : ∀ q : Nat, s.heap.size ≤ q → A q := fun q h => by rw [← hAe]; exact Or.inr h
  have hS : va_S A s.heap s.heap [] := va_S.rf
  have hP : va_P D vwCl [((a 9), .inr (6, [.ref (a 23), .int 1, .ref (a 24), .ref q3, .int 0, .int 0, .int 0, .int 0])), ((a 23), .inl (E 0, 120, .inl f))] s.heap := hP
  have hl := lv_entry ([.ref (a 9), .int p0]) (n := 2) (Nat.le_of_ble_eq_true rfl)
  rw [lg_entry_eq]
  generalize (lg_sl ([.ref (a 9), .int p0]) ++ List.replicate (2 - (lg_sl ([.ref (a 9), .int p0])).length) Slot.unset).toArray = ls at hl ⊢
  have hl : lv_has ls 2 [(0, .ref (a 9)), (1, .int p0)] := hl
  have lo_p0 := i_lo p0
  have hi_p0 := i_hi p0
  refine lv_aload_n hx hb dX6_add_0 rfl (lv_at hl 0 rfl) ?_
  refine va_get (D := D) (ci := 6) (v := .int 1) (C := RX6) (T := TX6) (N := 8) hx hb htb iX6 hown hK.1 hP 0 rfl rfl 1 (by decide) (htb _ k_158) (fun _ h9 => h9) rfl dX6_add_1 ?_
  refine lv_bipush (v := 120) hx hb dX6_add_4 (by decide) ?_
  refine lv_icmp_ge (tgt := 29) hx hb dX6_add_6 (by decide) (fun c_1 => absurd c_1 (by decide)) (fun c_1 => ?_)
  refine lv_aload_n hx hb dX6_add_9 rfl (lv_at hl 0 rfl) ?_
  refine va_get (D := D) (ci := 6) (v := .ref (a 23)) (C := RX6) (T := TX6) (N := 8) hx hb htb iX6 hown hK.1 hP 0 rfl rfl 0 (by decide) (htb _ k_157) (fun _ h9 => h9) rfl dX6_add_10 ?_
  refine lv_aload_n hx hb dX6_add_13 rfl (lv_at hl 0 rfl) ?_
  refine va_get (D := D) (ci := 6) (v := .int 1) (C := RX6) (T := TX6) (N := 8) hx hb htb iX6 hown hK.1 hP 0 rfl rfl 1 (by decide) (htb _ k_158) (fun _ h9 => h9) rfl dX6_add_14 ?_
  refine lv_iload_n hx hb dX6_add_17 rfl (lv_at hl 1 rfl) ?_
  refine va_iast hx hb hK.1 hP hD hS 1 0 rfl rfl (g_in t_1 (by decide) (by decide)) dX6_add_18 (fun H locs hP hD hS => ?_)
  have hP : va_P D vwCl [((a 9), .inr (6, [.ref (a 23), .int 1, .ref (a 24), .ref q3, .int 0, .int 0, .int 0, .int 0])), ((a 23), .inl (E 0, 120, .inl (upd f (1 : Int32).toNatClampNeg p0)))] H := hP
  have hD : va_D A [((a 9), .inr (6, [.ref (a 23), .int 1, .ref (a 24), .ref q3, .int 0, .int 0, .int 0, .int 0])), ((a 23), .inl (E 0, 120, .inl (upd f (1 : Int32).toNatClampNeg p0)))] := hD
  refine lv_aload_n hx hb dX6_add_19 rfl (lv_at hl 0 rfl) ?_
  refine lv_dup hx hb dX6_add_20 rfl ?_
  refine va_get (D := D) (ci := 6) (v := .int 1) (C := RX6) (T := TX6) (N := 8) hx hb htb iX6 hown hK.1 hP 0 rfl rfl 1 (by decide) (htb _ k_158) (fun _ h9 => h9) rfl dX6_add_21 ?_
  refine lv_iconst (v := 1) hx hb dX6_add_24 (by decide) ?_
  refine lv_iadd hx hb dX6_add_25 ?_
  refine W_top (y := .int 2) (by decide) ?_
  refine va_put (D := D) (ci := 6) (v := .int 2) (ty := .int) (C := RX6) (T := TX6) (N := 8) hx hb htb iX6 tyX6 tyX6_ok nmX6 hown hK.1 hP hD hS 0 rfl rfl 1 (by decide) (htb _ k_158) (fun _ h9 => h9) rfl (by decide +kernel) rfl rfl (Nat.le_of_ble_eq_true rfl) dX6_add_26 (fun H locs hP hD hS => ?_)
  have hP : va_P D vwCl [((a 9), .inr (6, [.ref (a 23), .int 2, .ref (a 24), .ref q3, .int 0, .int 0, .int 0, .int 0])), ((a 23), .inl (E 0, 120, .inl (upd f (1 : Int32).toNatClampNeg p0)))] H := hP
  have hD : va_D A [((a 9), .inr (6, [.ref (a 23), .int 2, .ref (a 24), .ref q3, .int 0, .int 0, .int 0, .int 0])), ((a 23), .inl (E 0, 120, .inl (upd f (1 : Int32).toNatClampNeg p0)))] := hD
  have hP9 := hP.sub (ws' := [((a 9), .inr (6, [.ref (a 23), .int 2, .ref (a 24), .ref q3, .int 0, .int 0, .int 0, .int 0])), ((a 23), .inl (E 0, 120, .inl (upd f (1 : Int32).toNatClampNeg p0)))]) [0, 1] rfl
  have hD9 := hD.sub (ws' := [((a 9), .inr (6, [.ref (a 23), .int 2, .ref (a 24), .ref q3, .int 0, .int 0, .int 0, .int 0])), ((a 23), .inl (E 0, 120, .inl (upd f (1 : Int32).toNatClampNeg p0)))]) [0, 1] (by decide) rfl
  exact W.vret hx hb hr (fun t ht hW => ⟨⟨(upd f (1 : Int32).toNatClampNeg p0), rfl, trivial, by rw [ht]; exact hP9, hD9⟩, hS.F ht⟩) hS.2.2 dX6_add_29
set_option maxHeartbeats 4000000 in
set_option maxRecDepth 100000 in
theorem c_X6_add2 (l : Launch) (D : va_G) (E : Nat → Nat) (a : Nat → Nat) (q3 : Nat) (f : Nat → Int32) (p0 : Int32) (sz : Nat)  : Met l yX6_add (wl yX6_add cX6_add 2 none) (RM 0 0 0) (mu_P D E [.ref (a 9), .int p0] [((a 9), .inr (6, [.ref (a 23), .int 2, .ref (a 24), .ref q3, .int 0, .int 0, .int 0, .int 0])), ((a 23), .inl (E 0, 120, .inl f))] sz) (va_Qv (fun (u : Nat → Int32) => True) (mu_B D (va_A [((a 9), .inr (6, [.ref (a 23), .int 2, .ref (a 24), .ref q3, .int 0, .int 0, .int 0, .int 0])), ((a 23), .inl (E 0, 120, .inl f))] sz) (fun (u : Nat → Int32) => [((a 9), .inr (6, [.ref (a 23), .int 3, .ref (a 24), .ref q3, .int 0, .int 0, .int 0, .int 0])), ((a 23), .inl (E 0, 120, .inl u))])) (va_A [((a 9), .inr (6, [.ref (a 23), .int 2, .ref (a 24), .ref q3, .int 0, .int 0, .int 0, .int 0])), ((a 23), .inl (E 0, 120, .inl f))] sz)) 0 0 (va_A [((a 9), .inr (6, [.ref (a 23), .int 2, .ref (a 24), .ref q3, .int 0, .int 0, .int 0, .int 0])), ((a 23), .inl (E 0, 120, .inl f))] sz) := by
  refine Met.ofW (cc := cX6_add) (maxL := 2) (ret := none) (by decide) rfl ?_
  intro p e s m args below meth c s₁ B hml hv
  obtain ⟨rfl, hsz, hP, hK, hD0⟩ := hv
  have hx := B.exec
  have hb := B.bytes
  have hr := B.returns
  have hts := atoms_spec (ws := wl yX6_add cX6_add 2 none) B.pre
  have htb : ∀ w ∈ tb, w.before _ s = true := fun w h => hts w (List.mem_cons_of_mem _ h)
  have hown : s.vm.findClass RX6 = some m.cls := findClass_of_methodNamed B.named
  have hlocks := B.notSynchronized
  subst hsz
  have hD := hD0.self (sz := s.heap.size)
  generalize hAe : va_A [((a 9), .inr (6, [.ref (a 23), .int 2, .ref (a 24), .ref q3, .int 0, .int 0, .int 0, .int 0])), ((a 23), .inl (E 0, 120, .inl f))] s.heap.size = A at hD ⊢
  have hA : ∀ q : Nat, s.heap.size ≤ q → A q := fun q h => by rw [← hAe]; exact Or.inr h
  have hS : va_S A s.heap s.heap [] := va_S.rf
  have hP : va_P D vwCl [((a 9), .inr (6, [.ref (a 23), .int 2, .ref (a 24), .ref q3, .int 0, .int 0, .int 0, .int 0])), ((a 23), .inl (E 0, 120, .inl f))] s.heap := hP
  have hl := lv_entry ([.ref (a 9), .int p0]) (n := 2) (Nat.le_of_ble_eq_true rfl)
  rw [lg_entry_eq]
  generalize (lg_sl ([.ref (a 9), .int p0]) ++ List.replicate (2 - (lg_sl ([.ref (a 9), .int p0])).length) Slot.unset).toArray = ls at hl ⊢
  have hl : lv_has ls 2 [(0, .ref (a 9)), (1, .int p0)] := hl
  have lo_p0 := i_lo p0
  have hi_p0 := i_hi p0
  refine lv_aload_n hx hb dX6_add_0 rfl (lv_at hl 0 rfl) ?_
  refine va_get (D := D) (ci := 6) (v := .int 2) (C := RX6) (T := TX6) (N := 8) hx hb htb iX6 hown hK.1 hP 0 rfl rfl 1 (by decide) (htb _ k_158) (fun _ h9 => h9) rfl dX6_add_1 ?_
  refine lv_bipush (v := 120) hx hb dX6_add_4 (by decide) ?_
  refine lv_icmp_ge (tgt := 29) hx hb dX6_add_6 (by decide) (fun c_1 => absurd c_1 (by decide)) (fun c_1 => ?_)
  refine lv_aload_n hx hb dX6_add_9 rfl (lv_at hl 0 rfl) ?_
  refine va_get (D := D) (ci := 6) (v := .ref (a 23)) (C := RX6) (T := TX6) (N := 8) hx hb htb iX6 hown hK.1 hP 0 rfl rfl 0 (by decide) (htb _ k_157) (fun _ h9 => h9) rfl dX6_add_10 ?_
  refine lv_aload_n hx hb dX6_add_13 rfl (lv_at hl 0 rfl) ?_
  refine va_get (D := D) (ci := 6) (v := .int 2) (C := RX6) (T := TX6) (N := 8) hx hb htb iX6 hown hK.1 hP 0 rfl rfl 1 (by decide) (htb _ k_158) (fun _ h9 => h9) rfl dX6_add_14 ?_
  refine lv_iload_n hx hb dX6_add_17 rfl (lv_at hl 1 rfl) ?_
  refine va_iast hx hb hK.1 hP hD hS 1 0 rfl rfl (g_in t_2 (by decide) (by decide)) dX6_add_18 (fun H locs hP hD hS => ?_)
  have hP : va_P D vwCl [((a 9), .inr (6, [.ref (a 23), .int 2, .ref (a 24), .ref q3, .int 0, .int 0, .int 0, .int 0])), ((a 23), .inl (E 0, 120, .inl (upd f (2 : Int32).toNatClampNeg p0)))] H := hP
  have hD : va_D A [((a 9), .inr (6, [.ref (a 23), .int 2, .ref (a 24), .ref q3, .int 0, .int 0, .int 0, .int 0])), ((a 23), .inl (E 0, 120, .inl (upd f (2 : Int32).toNatClampNeg p0)))] := hD
  refine lv_aload_n hx hb dX6_add_19 rfl (lv_at hl 0 rfl) ?_
  refine lv_dup hx hb dX6_add_20 rfl ?_
  refine va_get (D := D) (ci := 6) (v := .int 2) (C := RX6) (T := TX6) (N := 8) hx hb htb iX6 hown hK.1 hP 0 rfl rfl 1 (by decide) (htb _ k_158) (fun _ h9 => h9) rfl dX6_add_21 ?_
  refine lv_iconst (v := 1) hx hb dX6_add_24 (by decide) ?_
  refine lv_iadd hx hb dX6_add_25 ?_
  refine W_top (y := .int 3) (by decide) ?_
  refine va_put (D := D) (ci := 6) (v := .int 3) (ty := .int) (C := RX6) (T := TX6) (N := 8) hx hb htb iX6 tyX6 tyX6_ok nmX6 hown hK.1 hP hD hS 0 rfl rfl 1 (by decide) (htb _ k_158) (fun _ h9 => h9) rfl (by decide +kernel) rfl rfl (Nat.le_of_ble_eq_true rfl) dX6_add_26 (fun H locs hP hD hS => ?_)
  have hP : va_P D vwCl [((a 9), .inr (6, [.ref (a 23), .int 3, .ref (a 24), .ref q3, .int 0, .int 0, .int 0, .int 0])), ((a 23), .inl (E 0, 120, .inl (upd f (2 : Int32).toNatClampNeg p0)))] H := hP
  have hD : va_D A [((a 9), .inr (6, [.ref (a 23), .int 3, .ref (a 24), .ref q3, .int 0, .int 0, .int 0, .int 0])), ((a 23), .inl (E 0, 120, .inl (upd f (2 : Int32).toNatClampNeg p0)))] := hD
  have hP9 := hP.sub (ws' := [((a 9), .inr (6, [.ref (a 23), .int 3, .ref (a 24), .ref q3, .int 0, .int 0, .int 0, .int 0])), ((a 23), .inl (E 0, 120, .inl (upd f (2 : Int32).toNatClampNeg p0)))]) [0, 1] rfl
  have hD9 := hD.sub (ws' := [((a 9), .inr (6, [.ref (a 23), .int 3, .ref (a 24), .ref q3, .int 0, .int 0, .int 0, .int 0])), ((a 23), .inl (E 0, 120, .inl (upd f (2 : Int32).toNatClampNeg p0)))]) [0, 1] (by decide) rfl
  exact W.vret hx hb hr (fun t ht hW => ⟨⟨(upd f (2 : Int32).toNatClampNeg p0), rfl, trivial, by rw [ht]; exact hP9, hD9⟩, hS.F ht⟩) hS.2.2 dX6_add_29
set_option maxHeartbeats 4000000 in
set_option maxRecDepth 100000 in
theorem c_X6_add3 (l : Launch) (D : va_G) (E : Nat → Nat) (a : Nat → Nat) (q3 : Nat) (f : Nat → Int32) (p0 : Int32) (sz : Nat)  : Met l yX6_add (wl yX6_add cX6_add 2 none) (RM 0 0 0) (mu_P D E [.ref (a 9), .int p0] [((a 9), .inr (6, [.ref (a 23), .int 3, .ref (a 24), .ref q3, .int 0, .int 0, .int 0, .int 0])), ((a 23), .inl (E 0, 120, .inl f))] sz) (va_Qv (fun (u : Nat → Int32) => True) (mu_B D (va_A [((a 9), .inr (6, [.ref (a 23), .int 3, .ref (a 24), .ref q3, .int 0, .int 0, .int 0, .int 0])), ((a 23), .inl (E 0, 120, .inl f))] sz) (fun (u : Nat → Int32) => [((a 9), .inr (6, [.ref (a 23), .int 4, .ref (a 24), .ref q3, .int 0, .int 0, .int 0, .int 0])), ((a 23), .inl (E 0, 120, .inl u))])) (va_A [((a 9), .inr (6, [.ref (a 23), .int 3, .ref (a 24), .ref q3, .int 0, .int 0, .int 0, .int 0])), ((a 23), .inl (E 0, 120, .inl f))] sz)) 0 0 (va_A [((a 9), .inr (6, [.ref (a 23), .int 3, .ref (a 24), .ref q3, .int 0, .int 0, .int 0, .int 0])), ((a 23), .inl (E 0, 120, .inl f))] sz) := by
  refine Met.ofW (cc := cX6_add) (maxL := 2) (ret := none) (by decide) rfl ?_
  intro p e s m args below meth c s₁ B hml hv
  obtain ⟨rfl, hsz, hP, hK, hD0⟩ := hv
  have hx := B.exec
  have hb := B.bytes
  have hr := B.returns
  have hts := atoms_spec (ws := wl yX6_add cX6_add 2 none) B.pre
  have htb : ∀ w ∈ tb, w.before _ s = true := fun w h => hts w (List.mem_cons_of_mem _ h)
  have hown : s.vm.findClass RX6 = some m.cls := findClass_of_methodNamed B.named
  have hlocks := B.notSynchronized
  subst hsz
  have hD := hD0.self (sz := s.heap.size)
  generalize hAe : va_A [((a 9), .inr (6, [.ref (a 23), .int 3, .ref (a 24), .ref q3, .int 0, .int 0, .int 0, .int 0])), ((a 23), .inl (E 0, 120, .inl f))] s.heap.size = A at hD ⊢
  have hA : ∀ q : Nat, s.heap.size ≤ q → A q := fun q h => by rw [← hAe]; exact Or.inr h
  have hS : va_S A s.heap s.heap [] := va_S.rf
  have hP : va_P D vwCl [((a 9), .inr (6, [.ref (a 23), .int 3, .ref (a 24), .ref q3, .int 0, .int 0, .int 0, .int 0])), ((a 23), .inl (E 0, 120, .inl f))] s.heap := hP
  have hl := lv_entry ([.ref (a 9), .int p0]) (n := 2) (Nat.le_of_ble_eq_true rfl)
  rw [lg_entry_eq]
  generalize (lg_sl ([.ref (a 9), .int p0]) ++ List.replicate (2 - (lg_sl ([.ref (a 9), .int p0])).length) Slot.unset).toArray = ls at hl ⊢
  have hl : lv_has ls 2 [(0, .ref (a 9)), (1, .int p0)] := hl
  have lo_p0 := i_lo p0
  have hi_p0 := i_hi p0
  refine lv_aload_n hx hb dX6_add_0 rfl (lv_at hl 0 rfl) ?_
  refine va_get (D := D) (ci := 6) (v := .int 3) (C := RX6) (T := TX6) (N := 8) hx hb htb iX6 hown hK.1 hP 0 rfl rfl 1 (by decide) (htb _ k_158) (fun _ h9 => h9) rfl dX6_add_1 ?_
  refine lv_bipush (v := 120) hx hb dX6_add_4 (by decide) ?_
  refine lv_icmp_ge (tgt := 29) hx hb dX6_add_6 (by decide) (fun c_1 => absurd c_1 (by decide)) (fun c_1 => ?_)
  refine lv_aload_n hx hb dX6_add_9 rfl (lv_at hl 0 rfl) ?_
  refine va_get (D := D) (ci := 6) (v := .ref (a 23)) (C := RX6) (T := TX6) (N := 8) hx hb htb iX6 hown hK.1 hP 0 rfl rfl 0 (by decide) (htb _ k_157) (fun _ h9 => h9) rfl dX6_add_10 ?_
  refine lv_aload_n hx hb dX6_add_13 rfl (lv_at hl 0 rfl) ?_
  refine va_get (D := D) (ci := 6) (v := .int 3) (C := RX6) (T := TX6) (N := 8) hx hb htb iX6 hown hK.1 hP 0 rfl rfl 1 (by decide) (htb _ k_158) (fun _ h9 => h9) rfl dX6_add_14 ?_
  refine lv_iload_n hx hb dX6_add_17 rfl (lv_at hl 1 rfl) ?_
  refine va_iast hx hb hK.1 hP hD hS 1 0 rfl rfl (g_in t_3 (by decide) (by decide)) dX6_add_18 (fun H locs hP hD hS => ?_)
  have hP : va_P D vwCl [((a 9), .inr (6, [.ref (a 23), .int 3, .ref (a 24), .ref q3, .int 0, .int 0, .int 0, .int 0])), ((a 23), .inl (E 0, 120, .inl (upd f (3 : Int32).toNatClampNeg p0)))] H := hP
  have hD : va_D A [((a 9), .inr (6, [.ref (a 23), .int 3, .ref (a 24), .ref q3, .int 0, .int 0, .int 0, .int 0])), ((a 23), .inl (E 0, 120, .inl (upd f (3 : Int32).toNatClampNeg p0)))] := hD
  refine lv_aload_n hx hb dX6_add_19 rfl (lv_at hl 0 rfl) ?_
  refine lv_dup hx hb dX6_add_20 rfl ?_
  refine va_get (D := D) (ci := 6) (v := .int 3) (C := RX6) (T := TX6) (N := 8) hx hb htb iX6 hown hK.1 hP 0 rfl rfl 1 (by decide) (htb _ k_158) (fun _ h9 => h9) rfl dX6_add_21 ?_
  refine lv_iconst (v := 1) hx hb dX6_add_24 (by decide) ?_
  refine lv_iadd hx hb dX6_add_25 ?_
  refine W_top (y := .int 4) (by decide) ?_
  refine va_put (D := D) (ci := 6) (v := .int 4) (ty := .int) (C := RX6) (T := TX6) (N := 8) hx hb htb iX6 tyX6 tyX6_ok nmX6 hown hK.1 hP hD hS 0 rfl rfl 1 (by decide) (htb _ k_158) (fun _ h9 => h9) rfl (by decide +kernel) rfl rfl (Nat.le_of_ble_eq_true rfl) dX6_add_26 (fun H locs hP hD hS => ?_)
  have hP : va_P D vwCl [((a 9), .inr (6, [.ref (a 23), .int 4, .ref (a 24), .ref q3, .int 0, .int 0, .int 0, .int 0])), ((a 23), .inl (E 0, 120, .inl (upd f (3 : Int32).toNatClampNeg p0)))] H := hP
  have hD : va_D A [((a 9), .inr (6, [.ref (a 23), .int 4, .ref (a 24), .ref q3, .int 0, .int 0, .int 0, .int 0])), ((a 23), .inl (E 0, 120, .inl (upd f (3 : Int32).toNatClampNeg p0)))] := hD
  have hP9 := hP.sub (ws' := [((a 9), .inr (6, [.ref (a 23), .int 4, .ref (a 24), .ref q3, .int 0, .int 0, .int 0, .int 0])), ((a 23), .inl (E 0, 120, .inl (upd f (3 : Int32).toNatClampNeg p0)))]) [0, 1] rfl
  have hD9 := hD.sub (ws' := [((a 9), .inr (6, [.ref (a 23), .int 4, .ref (a 24), .ref q3, .int 0, .int 0, .int 0, .int 0])), ((a 23), .inl (E 0, 120, .inl (upd f (3 : Int32).toNatClampNeg p0)))]) [0, 1] (by decide) rfl
  exact W.vret hx hb hr (fun t ht hW => ⟨⟨(upd f (3 : Int32).toNatClampNeg p0), rfl, trivial, by rw [ht]; exact hP9, hD9⟩, hS.F ht⟩) hS.2.2 dX6_add_29
set_option maxHeartbeats 4000000 in
set_option maxRecDepth 100000 in
theorem c_X0_add (l : Launch) (D : va_G) (E : Nat → Nat) (a : Nat → Nat) (p0 : Int32) (sz : Nat)  : Met l yX0_add (wl yX0_add cX0_add 2 none) (RM 0 0 0) (mu_P D E [.ref (a 10), .int p0] [((a 10), .inr (0, [.ref (a 28), .ref (a 29), .ref (a 30), .ref (a 31), .ref (a 32), .int 0, .int 0, .int 0, .int 0])), ((a 28), .inl (E 0, 9, .inl (fun _ => 0)))] sz) (va_Qv (fun (u : Unit) => True) (mu_B D (va_A [((a 10), .inr (0, [.ref (a 28), .ref (a 29), .ref (a 30), .ref (a 31), .ref (a 32), .int 0, .int 0, .int 0, .int 0])), ((a 28), .inl (E 0, 9, .inl (fun _ => 0)))] sz) (fun (u : Unit) => [((a 10), .inr (0, [.ref (a 28), .ref (a 29), .ref (a 30), .ref (a 31), .ref (a 32), .int 1, .int 0, .int 0, .int 0]))])) (va_A [((a 10), .inr (0, [.ref (a 28), .ref (a 29), .ref (a 30), .ref (a 31), .ref (a 32), .int 0, .int 0, .int 0, .int 0])), ((a 28), .inl (E 0, 9, .inl (fun _ => 0)))] sz)) 0 0 (va_A [((a 10), .inr (0, [.ref (a 28), .ref (a 29), .ref (a 30), .ref (a 31), .ref (a 32), .int 0, .int 0, .int 0, .int 0])), ((a 28), .inl (E 0, 9, .inl (fun _ => 0)))] sz) := by
  refine Met.ofW (cc := cX0_add) (maxL := 2) (ret := none) (by decide) rfl ?_
  intro p e s m args below meth c s₁ B hml hv
  obtain ⟨rfl, hsz, hP, hK, hD0⟩ := hv
  have hx := B.exec
  have hb := B.bytes
  have hr := B.returns
  have hts := atoms_spec (ws := wl yX0_add cX0_add 2 none) B.pre
  have htb : ∀ w ∈ tb, w.before _ s = true := fun w h => hts w (List.mem_cons_of_mem _ h)
  have hown : s.vm.findClass RX0 = some m.cls := findClass_of_methodNamed B.named
  have hlocks := B.notSynchronized
  subst hsz
  have hD := hD0.self (sz := s.heap.size)
  generalize hAe : va_A [((a 10), .inr (0, [.ref (a 28), .ref (a 29), .ref (a 30), .ref (a 31), .ref (a 32), .int 0, .int 0, .int 0, .int 0])), ((a 28), .inl (E 0, 9, .inl (fun _ => 0)))] s.heap.size = A at hD ⊢
  have hA : ∀ q : Nat, s.heap.size ≤ q → A q := fun q h => by rw [← hAe]; exact Or.inr h
  have hS : va_S A s.heap s.heap [] := va_S.rf
  have hP : va_P D vwCl [((a 10), .inr (0, [.ref (a 28), .ref (a 29), .ref (a 30), .ref (a 31), .ref (a 32), .int 0, .int 0, .int 0, .int 0])), ((a 28), .inl (E 0, 9, .inl (fun _ => 0)))] s.heap := hP
  have hl := lv_entry ([.ref (a 10), .int p0]) (n := 2) (Nat.le_of_ble_eq_true rfl)
  rw [lg_entry_eq]
  generalize (lg_sl ([.ref (a 10), .int p0]) ++ List.replicate (2 - (lg_sl ([.ref (a 10), .int p0])).length) Slot.unset).toArray = ls at hl ⊢
  have hl : lv_has ls 2 [(0, .ref (a 10)), (1, .int p0)] := hl
  have lo_p0 := i_lo p0
  have hi_p0 := i_hi p0
  refine lv_aload_n hx hb dX0_add_0 rfl (lv_at hl 0 rfl) ?_
  refine va_get (D := D) (ci := 0) (v := .int 0) (C := RX0) (T := TX0) (N := 9) hx hb htb iX0 hown hK.1 hP 0 rfl rfl 5 (by decide) (htb _ k_196) (fun _ h9 => h9) rfl dX0_add_1 ?_
  refine lv_bipush (v := 9) hx hb dX0_add_4 (by decide) ?_
  refine lv_icmp_ge (tgt := 29) hx hb dX0_add_6 (by decide) (fun c_1 => absurd c_1 (by decide)) (fun c_1 => ?_)
  refine lv_aload_n hx hb dX0_add_9 rfl (lv_at hl 0 rfl) ?_
  refine va_get (D := D) (ci := 0) (v := .ref (a 28)) (C := RX0) (T := TX0) (N := 9) hx hb htb iX0 hown hK.1 hP 0 rfl rfl 0 (by decide) (htb _ k_190) (fun _ h9 => h9) rfl dX0_add_10 ?_
  refine lv_aload_n hx hb dX0_add_13 rfl (lv_at hl 0 rfl) ?_
  refine va_get (D := D) (ci := 0) (v := .int 0) (C := RX0) (T := TX0) (N := 9) hx hb htb iX0 hown hK.1 hP 0 rfl rfl 5 (by decide) (htb _ k_196) (fun _ h9 => h9) rfl dX0_add_14 ?_
  refine lv_iload_n hx hb dX0_add_17 rfl (lv_at hl 1 rfl) ?_
  refine va_iast hx hb hK.1 hP hD hS 1 0 rfl rfl (g_in t_0 (by decide) (by decide)) dX0_add_18 (fun H locs hP hD hS => ?_)
  have hP : va_P D vwCl [((a 10), .inr (0, [.ref (a 28), .ref (a 29), .ref (a 30), .ref (a 31), .ref (a 32), .int 0, .int 0, .int 0, .int 0])), ((a 28), .inl (E 0, 9, .inl (upd (fun _ => 0) (0 : Int32).toNatClampNeg p0)))] H := hP
  have hD : va_D A [((a 10), .inr (0, [.ref (a 28), .ref (a 29), .ref (a 30), .ref (a 31), .ref (a 32), .int 0, .int 0, .int 0, .int 0])), ((a 28), .inl (E 0, 9, .inl (upd (fun _ => 0) (0 : Int32).toNatClampNeg p0)))] := hD
  refine lv_aload_n hx hb dX0_add_19 rfl (lv_at hl 0 rfl) ?_
  refine lv_dup hx hb dX0_add_20 rfl ?_
  refine va_get (D := D) (ci := 0) (v := .int 0) (C := RX0) (T := TX0) (N := 9) hx hb htb iX0 hown hK.1 hP 0 rfl rfl 5 (by decide) (htb _ k_196) (fun _ h9 => h9) rfl dX0_add_21 ?_
  refine lv_iconst (v := 1) hx hb dX0_add_24 (by decide) ?_
  refine lv_iadd hx hb dX0_add_25 ?_
  refine W_top (y := .int 1) (by decide) ?_
  refine va_put (D := D) (ci := 0) (v := .int 1) (ty := .int) (C := RX0) (T := TX0) (N := 9) hx hb htb iX0 tyX0 tyX0_ok nmX0 hown hK.1 hP hD hS 0 rfl rfl 5 (by decide) (htb _ k_196) (fun _ h9 => h9) rfl (by decide +kernel) rfl rfl (Nat.le_of_ble_eq_true rfl) dX0_add_26 (fun H locs hP hD hS => ?_)
  have hP : va_P D vwCl [((a 10), .inr (0, [.ref (a 28), .ref (a 29), .ref (a 30), .ref (a 31), .ref (a 32), .int 1, .int 0, .int 0, .int 0])), ((a 28), .inl (E 0, 9, .inl (upd (fun _ => 0) (0 : Int32).toNatClampNeg p0)))] H := hP
  have hD : va_D A [((a 10), .inr (0, [.ref (a 28), .ref (a 29), .ref (a 30), .ref (a 31), .ref (a 32), .int 1, .int 0, .int 0, .int 0])), ((a 28), .inl (E 0, 9, .inl (upd (fun _ => 0) (0 : Int32).toNatClampNeg p0)))] := hD
  have hP9 := hP.sub (ws' := [((a 10), .inr (0, [.ref (a 28), .ref (a 29), .ref (a 30), .ref (a 31), .ref (a 32), .int 1, .int 0, .int 0, .int 0]))]) [0] rfl
  have hD9 := hD.sub (ws' := [((a 10), .inr (0, [.ref (a 28), .ref (a 29), .ref (a 30), .ref (a 31), .ref (a 32), .int 1, .int 0, .int 0, .int 0]))]) [0] (by decide) rfl
  exact W.vret hx hb hr (fun t ht hW => ⟨⟨(), rfl, trivial, by rw [ht]; exact hP9, hD9⟩, hS.F ht⟩) hS.2.2 dX0_add_29
set_option maxHeartbeats 4000000 in
set_option maxRecDepth 100000 in
theorem c_X8_off (l : Launch) (D : va_G) (E : Nat → Nat) (h0 : Nat) (a : Nat → Nat) (p0 : Int32) (p1 : Int32) (p2 : Int32) (p3 : Int32) (sz : Nat)  : Met l yX8_off (wl yX8_off cX8_off 5 (some .int)) (RM 1 0 0) (mu_P D E [.ref h0, .int p0, .int p1, .int p2, .int p3] [(h0, .inr (8, xF a 0)), ((a 6), .inr (2, [.ref (a 18), .ref (a 19), .ref (a 20), .ref (a 21), .ref (a 22), .int 0])), ((a 18), .inl (E 0, 60, .inl (fun _ => 0))), ((a 19), .inl (E 0, 60, .inl (fun _ => 0))), ((a 20), .inl (E 0, 60, .inl (fun _ => 0))), ((a 21), .inl (E 0, 60, .inl (fun _ => 0))), ((a 22), .inl (E 0, 60, .inl (fun _ => 0)))] sz) (va_Qi (fun (r : Int32) (u : Unit) => (r = 1 ∧ ((1 ≤ p0.toInt ∧ p0.toInt ≤ 5) ∧ (0 ≤ p1.toInt ∧ p1.toInt ≤ 399) ∧ (0 ≤ p2.toInt ∧ p2.toInt ≤ 399) ∧ p1.toInt ≤ p2.toInt ∧ (-10000 ≤ p3.toInt ∧ p3.toInt ≤ 10000))) ∨ (r = (-1) ∧ ¬ ((1 ≤ p0.toInt ∧ p0.toInt ≤ 5) ∧ (0 ≤ p1.toInt ∧ p1.toInt ≤ 399) ∧ (0 ≤ p2.toInt ∧ p2.toInt ≤ 399) ∧ p1.toInt ≤ p2.toInt ∧ (-10000 ≤ p3.toInt ∧ p3.toInt ≤ 10000)))) (mu_B D (va_A [(h0, .inr (8, xF a 0)), ((a 6), .inr (2, [.ref (a 18), .ref (a 19), .ref (a 20), .ref (a 21), .ref (a 22), .int 0])), ((a 18), .inl (E 0, 60, .inl (fun _ => 0))), ((a 19), .inl (E 0, 60, .inl (fun _ => 0))), ((a 20), .inl (E 0, 60, .inl (fun _ => 0))), ((a 21), .inl (E 0, 60, .inl (fun _ => 0))), ((a 22), .inl (E 0, 60, .inl (fun _ => 0)))] sz) (fun (u : Unit) => ([] : va_W))) (va_A [(h0, .inr (8, xF a 0)), ((a 6), .inr (2, [.ref (a 18), .ref (a 19), .ref (a 20), .ref (a 21), .ref (a 22), .int 0])), ((a 18), .inl (E 0, 60, .inl (fun _ => 0))), ((a 19), .inl (E 0, 60, .inl (fun _ => 0))), ((a 20), .inl (E 0, 60, .inl (fun _ => 0))), ((a 21), .inl (E 0, 60, .inl (fun _ => 0))), ((a 22), .inl (E 0, 60, .inl (fun _ => 0)))] sz)) 0 0 (va_A [(h0, .inr (8, xF a 0)), ((a 6), .inr (2, [.ref (a 18), .ref (a 19), .ref (a 20), .ref (a 21), .ref (a 22), .int 0])), ((a 18), .inl (E 0, 60, .inl (fun _ => 0))), ((a 19), .inl (E 0, 60, .inl (fun _ => 0))), ((a 20), .inl (E 0, 60, .inl (fun _ => 0))), ((a 21), .inl (E 0, 60, .inl (fun _ => 0))), ((a 22), .inl (E 0, 60, .inl (fun _ => 0)))] sz) := by
  refine Met.ofW (cc := cX8_off) (maxL := 5) (ret := (some .int)) (by decide) rfl ?_
  intro p e s m args below meth c s₁ B hml hv
  obtain ⟨rfl, hsz, hP, hK, hD0⟩ := hv
  have hx := B.exec
  have hb := B.bytes
  have hr := B.returns
  have hts := atoms_spec (ws := wl yX8_off cX8_off 5 (some .int)) B.pre
  have htb : ∀ w ∈ tb, w.before _ s = true := fun w h => hts w (List.mem_cons_of_mem _ h)
  have hown : s.vm.findClass RX8 = some m.cls := findClass_of_methodNamed B.named
  have hlocks := B.notSynchronized
  subst hsz
  have hD := hD0.self (sz := s.heap.size)
  generalize hAe : va_A [(h0, .inr (8, xF a 0)), ((a 6), .inr (2, [.ref (a 18), .ref (a 19), .ref (a 20), .ref (a 21), .ref (a 22), .int 0])), ((a 18), .inl (E 0, 60, .inl (fun _ => 0))), ((a 19), .inl (E 0, 60, .inl (fun _ => 0))), ((a 20), .inl (E 0, 60, .inl (fun _ => 0))), ((a 21), .inl (E 0, 60, .inl (fun _ => 0))), ((a 22), .inl (E 0, 60, .inl (fun _ => 0)))] s.heap.size = A at hD ⊢
  have hA : ∀ q : Nat, s.heap.size ≤ q → A q := fun q h => by rw [← hAe]; exact Or.inr h
  have hS : va_S A s.heap s.heap [] := va_S.rf
  have hP : va_P D vwCl [(h0, .inr (8, xF a 0)), ((a 6), .inr (2, [.ref (a 18), .ref (a 19), .ref (a 20), .ref (a 21), .ref (a 22), .int 0])), ((a 18), .inl (E 0, 60, .inl (fun _ => 0))), ((a 19), .inl (E 0, 60, .inl (fun _ => 0))), ((a 20), .inl (E 0, 60, .inl (fun _ => 0))), ((a 21), .inl (E 0, 60, .inl (fun _ => 0))), ((a 22), .inl (E 0, 60, .inl (fun _ => 0)))] s.heap := hP
  have hl := lv_entry ([.ref h0, .int p0, .int p1, .int p2, .int p3]) (n := 5) (Nat.le_of_ble_eq_true rfl)
  rw [lg_entry_eq]
  generalize (lg_sl ([.ref h0, .int p0, .int p1, .int p2, .int p3]) ++ List.replicate (5 - (lg_sl ([.ref h0, .int p0, .int p1, .int p2, .int p3])).length) Slot.unset).toArray = ls at hl ⊢
  have hl : lv_has ls 5 [(0, .ref h0), (1, .int p0), (2, .int p1), (3, .int p2), (4, .int p3)] := hl
  have lo_p0 := i_lo p0
  have hi_p0 := i_hi p0
  have lo_p1 := i_lo p1
  have hi_p1 := i_hi p1
  have lo_p2 := i_lo p2
  have hi_p2 := i_hi p2
  have lo_p3 := i_lo p3
  have hi_p3 := i_hi p3
  refine lv_iload_n hx hb dX8_off_0 rfl (lv_at hl 1 rfl) ?_
  refine lv_iconst (v := 1) hx hb dX8_off_1 (by decide) ?_
  refine lv_icmp_lt (tgt := 41) hx hb dX8_off_2 (by decide) (fun c_1 => ?_) (fun c_1 => ?_)
  ·
    have ic_1 : p0.toInt < 1 := by first | exact (g_lt rfl t_1).mp c_1 | (have h := mt (g_le t_1 rfl).mpr c_1; omega)
    refine lv_iconst (v := (-1)) hx hb dX8_off_41 (by decide) ?_
    have hP9 := hP.sub (ws' := ([] : va_W)) [] rfl
    have hD9 := hD.sub (ws' := ([] : va_W)) [] (by decide) rfl
    exact W.iret (v := (-1)) hx hb hr (fun t ht hW => ⟨⟨(-1), (), rfl, by first | exact Or.inr ⟨rfl, by omega⟩ | (exfalso; omega), by rw [ht]; exact hP9, hD9⟩, hS.F ht⟩) hS.2.2 dX8_off_42
  ·
    have ic_1 : 1 ≤ p0.toInt := by first | exact (g_le t_1 rfl).mp c_1 | (have h := mt (g_lt rfl t_1).mpr c_1; omega)
    refine lv_iload_n hx hb dX8_off_5 rfl (lv_at hl 1 rfl) ?_
    refine lv_bipush (v := 6) hx hb dX8_off_6 (by decide) ?_
    refine lv_icmp_ge (tgt := 41) hx hb dX8_off_8 (by decide) (fun c_2 => ?_) (fun c_2 => ?_)
    ·
      have ic_2 : 6 ≤ p0.toInt := by first | exact (g_le t_6 rfl).mp c_2 | (have h := mt (g_lt rfl t_6).mpr c_2; omega)
      refine lv_iconst (v := (-1)) hx hb dX8_off_41 (by decide) ?_
      have hP9 := hP.sub (ws' := ([] : va_W)) [] rfl
      have hD9 := hD.sub (ws' := ([] : va_W)) [] (by decide) rfl
      exact W.iret (v := (-1)) hx hb hr (fun t ht hW => ⟨⟨(-1), (), rfl, by first | exact Or.inr ⟨rfl, by omega⟩ | (exfalso; omega), by rw [ht]; exact hP9, hD9⟩, hS.F ht⟩) hS.2.2 dX8_off_42
    ·
      have ic_2 : p0.toInt < 6 := by first | exact (g_lt rfl t_6).mp c_2 | (have h := mt (g_le t_6 rfl).mpr c_2; omega)
      refine lv_iload_n hx hb dX8_off_11 rfl (lv_at hl 2 rfl) ?_
      refine callRS (rest := []) (As := [.int p1]) hx hb hml hown htb hK (c_X8_isDay l D E p1 ) ok_X8_isDay k_323 k_324 k_1 k_325 ⟨(Nat.le_of_ble_eq_true rfl), (Nat.le_of_ble_eq_true rfl)⟩ ⟨(Nat.le_of_ble_eq_true rfl), (Nat.le_of_ble_eq_true rfl)⟩ hl.1 (Nat.le_of_ble_eq_true rfl) rfl rfl dX8_off_12 (hP.sub (ws' := ([] : va_W)) [] rfl) (fun r_4 hw_3 => ?_)
      rcases hw_3 with ⟨hr_4, hw_3⟩ | ⟨hr_4, hw_3⟩
      ·
        refine W_top (y := .int 1) (by rw [hr_4]) ?_
        refine lv_if_eq (tgt := 41) hx hb dX8_off_15 (by decide) (fun c_5 => absurd c_5 (by decide)) (fun c_5 => ?_)
        refine lv_iload_n hx hb dX8_off_18 rfl (lv_at hl 3 rfl) ?_
        refine callRS (rest := []) (As := [.int p2]) hx hb hml hown htb hK (c_X8_isDay l D E p2 ) ok_X8_isDay k_323 k_324 k_1 k_325 ⟨(Nat.le_of_ble_eq_true rfl), (Nat.le_of_ble_eq_true rfl)⟩ ⟨(Nat.le_of_ble_eq_true rfl), (Nat.le_of_ble_eq_true rfl)⟩ hl.1 (Nat.le_of_ble_eq_true rfl) rfl rfl dX8_off_19 (hP.sub (ws' := ([] : va_W)) [] rfl) (fun r_7 hw_6 => ?_)
        rcases hw_6 with ⟨hr_7, hw_6⟩ | ⟨hr_7, hw_6⟩
        ·
          refine W_top (y := .int 1) (by rw [hr_7]) ?_
          refine lv_if_eq (tgt := 41) hx hb dX8_off_22 (by decide) (fun c_8 => absurd c_8 (by decide)) (fun c_8 => ?_)
          refine lv_iload_n hx hb dX8_off_25 rfl (lv_at hl 2 rfl) ?_
          refine lv_iload_n hx hb dX8_off_26 rfl (lv_at hl 3 rfl) ?_
          refine lv_icmp_gt (tgt := 41) hx hb dX8_off_27 (by decide) (fun c_9 => ?_) (fun c_9 => ?_)
          ·
            have ic_9 : p2.toInt < p1.toInt := by first | exact (g_lt rfl rfl).mp c_9 | (have h := mt (g_le rfl rfl).mpr c_9; omega)
            refine lv_iconst (v := (-1)) hx hb dX8_off_41 (by decide) ?_
            have hP9 := hP.sub (ws' := ([] : va_W)) [] rfl
            have hD9 := hD.sub (ws' := ([] : va_W)) [] (by decide) rfl
            exact W.iret (v := (-1)) hx hb hr (fun t ht hW => ⟨⟨(-1), (), rfl, by first | exact Or.inr ⟨rfl, by omega⟩ | (exfalso; omega), by rw [ht]; exact hP9, hD9⟩, hS.F ht⟩) hS.2.2 dX8_off_42
          ·
            have ic_9 : p1.toInt ≤ p2.toInt := by first | exact (g_le rfl rfl).mp c_9 | (have h := mt (g_lt rfl rfl).mpr c_9; omega)
            refine lv_iload hx hb dX8_off_30 (lv_at hl 4 rfl) ?_
            refine lv_sipush (v := 10000) hx hb dX8_off_32 (by decide) ?_
            refine callRS (rest := []) (As := [.int p3, .int 10000]) hx hb hml hown htb hK (c_X8_isWithin l D E p3 10000 (by decide)) ok_X8_isWithin k_326 k_327 k_1 k_328 ⟨(Nat.le_of_ble_eq_true rfl), (Nat.le_of_ble_eq_true rfl)⟩ ⟨(Nat.le_of_ble_eq_true rfl), (Nat.le_of_ble_eq_true rfl)⟩ hl.1 (Nat.le_of_ble_eq_true rfl) rfl rfl dX8_off_35 (hP.sub (ws' := ([] : va_W)) [] rfl) (fun r_11 hw_10 => ?_)
            rcases hw_10 with ⟨hr_11, hw_10⟩ | ⟨hr_11, hw_10⟩
            ·
              try simp only [t_10000] at hw_10
              refine W_top (y := .int 1) (by rw [hr_11]) ?_
              refine lv_if_ne (tgt := 43) hx hb dX8_off_38 (by decide) (fun c_12 => ?_) (fun c_12 => absurd c_12 (by decide))
              refine lv_aload_n hx hb dX8_off_43 rfl (lv_at hl 0 rfl) ?_
              refine va_get (D := D) (ci := 8) (v := .ref (a 6)) (C := RX8) (T := TX8) (N := 14) hx hb htb iX8 hown hK.1 hP 0 rfl rfl 6 (by decide) (htb _ k_278) (fun _ h9 => h9) rfl dX8_off_44 ?_
              refine va_getN (D := D) (ci := 2) (v := .int 0) (C := RX2) (T := TX2) (N := 6) hx hb htb iX2 hown hK.1 hP 1 rfl rfl 5 (by decide) (va_Nw.use rfl (hK.2.1 (Cond.fieldLinkNest RX8 142 "SeaWatches$Offs" "size" "I" "SeaWatches") (by decide +kernel))) (fun _ h9 => h9) rfl dX8_off_47 ?_
              refine lv_bipush (v := 60) hx hb dX8_off_50 (by decide) ?_
              refine lv_icmp_lt (tgt := 58) hx hb dX8_off_52 (by decide) (fun c_13 => ?_) (fun c_13 => absurd (by decide) c_13)
              refine lv_aload_n hx hb dX8_off_58 rfl (lv_at hl 0 rfl) ?_
              refine va_get (D := D) (ci := 8) (v := .ref (a 6)) (C := RX8) (T := TX8) (N := 14) hx hb htb iX8 hown hK.1 hP 0 rfl rfl 6 (by decide) (htb _ k_278) (fun _ h9 => h9) rfl dX8_off_59 ?_
              refine lv_iload_n hx hb dX8_off_62 rfl (lv_at hl 1 rfl) ?_
              refine lv_iload_n hx hb dX8_off_63 rfl (lv_at hl 2 rfl) ?_
              refine lv_iload_n hx hb dX8_off_64 rfl (lv_at hl 3 rfl) ?_
              refine lv_iload hx hb dX8_off_65 (lv_at hl 4 rfl) ?_
              refine lv_aload_n hx hb dX8_off_67 rfl (lv_at hl 0 rfl) ?_
              refine va_get (D := D) (ci := 8) (v := .int 0) (C := RX8) (T := TX8) (N := 14) hx hb htb iX8 hown hK.1 hP 0 rfl rfl 13 (by decide) (htb _ k_285) (fun _ h9 => h9) rfl dX8_off_68 ?_
              have hPc := hP.sub (ws' := [((a 6), .inr (2, [.ref (a 18), .ref (a 19), .ref (a 20), .ref (a 21), .ref (a 22), .int 0])), ((a 18), .inl (E 0, 60, .inl (fun _ => 0))), ((a 19), .inl (E 0, 60, .inl (fun _ => 0))), ((a 20), .inl (E 0, 60, .inl (fun _ => 0))), ((a 21), .inl (E 0, 60, .inl (fun _ => 0))), ((a 22), .inl (E 0, 60, .inl (fun _ => 0)))]) [1, 2, 3, 4, 5, 6] rfl
              have hDc := hD.sub (ws' := [((a 6), .inr (2, [.ref (a 18), .ref (a 19), .ref (a 20), .ref (a 21), .ref (a 22), .int 0])), ((a 18), .inl (E 0, 60, .inl (fun _ => 0))), ((a 19), .inl (E 0, 60, .inl (fun _ => 0))), ((a 20), .inl (E 0, 60, .inl (fun _ => 0))), ((a 21), .inl (E 0, 60, .inl (fun _ => 0))), ((a 22), .inl (E 0, 60, .inl (fun _ => 0)))]) [1, 2, 3, 4, 5, 6] (by decide) rfl
              refine aft_v (runMV (rest := []) (As := [.int p0, .int p1, .int p2, .int p3, .int 0]) hx hb hml hown htb hK (c_X2_add l D E a p0 p1 p2 p3 0 _ ) ok_X2_add k_471 k_472 k_473 k_2 k_474 ⟨(Nat.le_of_ble_eq_true rfl), (Nat.le_of_ble_eq_true rfl)⟩ ⟨(Nat.le_of_ble_eq_true rfl), (Nat.le_of_ble_eq_true rfl)⟩ hl.1 (Nat.le_of_ble_eq_true rfl) rfl rfl dX8_off_71 hPc hDc rfl rfl 0 rfl) hP hD hS hA [1, 2, 3, 4, 5, 6] [0] (wr := [(h0, .inr (8, xF a 0))]) rfl rfl (by decide) (by decide) (fun u_14 H locs hw_15 hP hD hS => ?_)
              clear hPc hDc
              have hP : va_P D vwCl [(h0, .inr (8, xF a 0)), ((a 6), .inr (2, [.ref (a 18), .ref (a 19), .ref (a 20), .ref (a 21), .ref (a 22), .int 1]))] H := hP
              have hD : va_D A [(h0, .inr (8, xF a 0)), ((a 6), .inr (2, [.ref (a 18), .ref (a 19), .ref (a 20), .ref (a 21), .ref (a 22), .int 1]))] := hD
              refine lv_aload_n hx hb dX8_off_74 rfl (lv_at hl 0 rfl) ?_
              refine va_get (D := D) (ci := 8) (v := .ref (a 6)) (C := RX8) (T := TX8) (N := 14) hx hb htb iX8 hown hK.1 hP 0 rfl rfl 6 (by decide) (htb _ k_278) (fun _ h9 => h9) rfl dX8_off_75 ?_
              refine va_getN (D := D) (ci := 2) (v := .int 1) (C := RX2) (T := TX2) (N := 6) hx hb htb iX2 hown hK.1 hP 1 rfl rfl 5 (by decide) (va_Nw.use rfl (hK.2.1 (Cond.fieldLinkNest RX8 142 "SeaWatches$Offs" "size" "I" "SeaWatches") (by decide +kernel))) (fun _ h9 => h9) rfl dX8_off_78 ?_
              have hP9 := hP.sub (ws' := ([] : va_W)) [] rfl
              have hD9 := hD.sub (ws' := ([] : va_W)) [] (by decide) rfl
              exact W.iret (v := 1) hx hb hr (fun t ht hW => ⟨⟨1, (), rfl, by first | exact Or.inl ⟨rfl, by omega⟩ | (exfalso; omega), by rw [ht]; exact hP9, hD9⟩, hS.F ht⟩) hS.2.2 dX8_off_81
            ·
              try simp only [t_10000] at hw_10
              refine W_top (y := .int 0) (by rw [hr_11]) ?_
              refine lv_if_ne (tgt := 43) hx hb dX8_off_38 (by decide) (fun c_17 => absurd (by decide) c_17) (fun c_17 => ?_)
              refine lv_iconst (v := (-1)) hx hb dX8_off_41 (by decide) ?_
              have hP9 := hP.sub (ws' := ([] : va_W)) [] rfl
              have hD9 := hD.sub (ws' := ([] : va_W)) [] (by decide) rfl
              exact W.iret (v := (-1)) hx hb hr (fun t ht hW => ⟨⟨(-1), (), rfl, by first | exact Or.inr ⟨rfl, by omega⟩ | (exfalso; omega), by rw [ht]; exact hP9, hD9⟩, hS.F ht⟩) hS.2.2 dX8_off_42
        ·
          refine W_top (y := .int 0) (by rw [hr_7]) ?_
          refine lv_if_eq (tgt := 41) hx hb dX8_off_22 (by decide) (fun c_18 => ?_) (fun c_18 => absurd (by decide) c_18)
          refine lv_iconst (v := (-1)) hx hb dX8_off_41 (by decide) ?_
          have hP9 := hP.sub (ws' := ([] : va_W)) [] rfl
          have hD9 := hD.sub (ws' := ([] : va_W)) [] (by decide) rfl
          exact W.iret (v := (-1)) hx hb hr (fun t ht hW => ⟨⟨(-1), (), rfl, by first | exact Or.inr ⟨rfl, by omega⟩ | (exfalso; omega), by rw [ht]; exact hP9, hD9⟩, hS.F ht⟩) hS.2.2 dX8_off_42
      ·
        refine W_top (y := .int 0) (by rw [hr_4]) ?_
        refine lv_if_eq (tgt := 41) hx hb dX8_off_15 (by decide) (fun c_19 => ?_) (fun c_19 => absurd (by decide) c_19)
        refine lv_iconst (v := (-1)) hx hb dX8_off_41 (by decide) ?_
        have hP9 := hP.sub (ws' := ([] : va_W)) [] rfl
        have hD9 := hD.sub (ws' := ([] : va_W)) [] (by decide) rfl
        exact W.iret (v := (-1)) hx hb hr (fun t ht hW => ⟨⟨(-1), (), rfl, by first | exact Or.inr ⟨rfl, by omega⟩ | (exfalso; omega), by rw [ht]; exact hP9, hD9⟩, hS.F ht⟩) hS.2.2 dX8_off_42
set_option maxHeartbeats 4000000 in
set_option maxRecDepth 100000 in
theorem c_X8_feed (l : Launch) (D : va_G) (E : Nat → Nat) (h0 : Nat) (a : Nat → Nat) (p0 : Int32) (p1 : Int32) (sz : Nat)  : Met l yX8_feed (wl yX8_feed cX8_feed 4 (some .int)) (RM 1 0 0) (mu_P D E [.ref h0, .int p0, .int p1] [(h0, .inr (8, xF a 0)), ((a 9), .inr (6, [.ref (a 23), .int 0, .ref (a 24), .ref (E 5), .int 0, .int 0, .int 0, .int 0])), ((a 23), .inl (E 0, 120, .inl (fun _ => 0)))] sz) (va_Qi (fun (r : Int32) (u : Unit) => (r = p0 ∧ (1 ≤ p0.toInt ∧ p0.toInt ≤ 4)) ∨ (r = (-1) ∧ ¬ (1 ≤ p0.toInt ∧ p0.toInt ≤ 4))) (mu_B D (va_A [(h0, .inr (8, xF a 0)), ((a 9), .inr (6, [.ref (a 23), .int 0, .ref (a 24), .ref (E 5), .int 0, .int 0, .int 0, .int 0])), ((a 23), .inl (E 0, 120, .inl (fun _ => 0)))] sz) (fun (u : Unit) => ([] : va_W))) (va_A [(h0, .inr (8, xF a 0)), ((a 9), .inr (6, [.ref (a 23), .int 0, .ref (a 24), .ref (E 5), .int 0, .int 0, .int 0, .int 0])), ((a 23), .inl (E 0, 120, .inl (fun _ => 0)))] sz)) 0 0 (va_A [(h0, .inr (8, xF a 0)), ((a 9), .inr (6, [.ref (a 23), .int 0, .ref (a 24), .ref (E 5), .int 0, .int 0, .int 0, .int 0])), ((a 23), .inl (E 0, 120, .inl (fun _ => 0)))] sz) := by
  refine Met.ofW (cc := cX8_feed) (maxL := 4) (ret := (some .int)) (by decide) rfl ?_
  intro p e s m args below meth c s₁ B hml hv
  obtain ⟨rfl, hsz, hP, hK, hD0⟩ := hv
  have hx := B.exec
  have hb := B.bytes
  have hr := B.returns
  have hts := atoms_spec (ws := wl yX8_feed cX8_feed 4 (some .int)) B.pre
  have htb : ∀ w ∈ tb, w.before _ s = true := fun w h => hts w (List.mem_cons_of_mem _ h)
  have hown : s.vm.findClass RX8 = some m.cls := findClass_of_methodNamed B.named
  have hlocks := B.notSynchronized
  subst hsz
  have hD := hD0.self (sz := s.heap.size)
  generalize hAe : va_A [(h0, .inr (8, xF a 0)), ((a 9), .inr (6, [.ref (a 23), .int 0, .ref (a 24), .ref (E 5), .int 0, .int 0, .int 0, .int 0])), ((a 23), .inl (E 0, 120, .inl (fun _ => 0)))] s.heap.size = A at hD ⊢
  have hA : ∀ q : Nat, s.heap.size ≤ q → A q := fun q h => by rw [← hAe]; exact Or.inr h
  have hS : va_S A s.heap s.heap [] := va_S.rf
  have hP : va_P D vwCl [(h0, .inr (8, xF a 0)), ((a 9), .inr (6, [.ref (a 23), .int 0, .ref (a 24), .ref (E 5), .int 0, .int 0, .int 0, .int 0])), ((a 23), .inl (E 0, 120, .inl (fun _ => 0)))] s.heap := hP
  have hl := lv_entry ([.ref h0, .int p0, .int p1]) (n := 4) (Nat.le_of_ble_eq_true rfl)
  rw [lg_entry_eq]
  generalize (lg_sl ([.ref h0, .int p0, .int p1]) ++ List.replicate (4 - (lg_sl ([.ref h0, .int p0, .int p1])).length) Slot.unset).toArray = ls at hl ⊢
  have hl : lv_has ls 4 [(0, .ref h0), (1, .int p0), (2, .int p1)] := hl
  have lo_p0 := i_lo p0
  have hi_p0 := i_hi p0
  have lo_p1 := i_lo p1
  have hi_p1 := i_hi p1
  refine lv_iload_n hx hb dX8_feed_0 rfl (lv_at hl 1 rfl) ?_
  refine lv_iconst (v := 1) hx hb dX8_feed_1 (by decide) ?_
  refine lv_icmp_lt (tgt := 10) hx hb dX8_feed_2 (by decide) (fun c_1 => ?_) (fun c_1 => ?_)
  ·
    have ic_1 : p0.toInt < 1 := by first | exact (g_lt rfl t_1).mp c_1 | (have h := mt (g_le t_1 rfl).mpr c_1; omega)
    refine lv_iconst (v := (-1)) hx hb dX8_feed_10 (by decide) ?_
    have hP9 := hP.sub (ws' := ([] : va_W)) [] rfl
    have hD9 := hD.sub (ws' := ([] : va_W)) [] (by decide) rfl
    exact W.iret (v := (-1)) hx hb hr (fun t ht hW => ⟨⟨(-1), (), rfl, by first | exact Or.inl ⟨(g_eq t_m1 rfl).mpr (by omega), by omega⟩ | exact Or.inr ⟨rfl, by omega⟩ | (exfalso; omega), by rw [ht]; exact hP9, hD9⟩, hS.F ht⟩) hS.2.2 dX8_feed_11
  ·
    have ic_1 : 1 ≤ p0.toInt := by first | exact (g_le t_1 rfl).mp c_1 | (have h := mt (g_lt rfl t_1).mpr c_1; omega)
    refine lv_iload_n hx hb dX8_feed_5 rfl (lv_at hl 1 rfl) ?_
    refine lv_iconst (v := 4) hx hb dX8_feed_6 (by decide) ?_
    refine lv_icmp_le (tgt := 12) hx hb dX8_feed_7 (by decide) (fun c_2 => ?_) (fun c_2 => ?_)
    ·
      have ic_2 : p0.toInt ≤ 4 := by first | exact (g_le rfl t_4).mp c_2 | (have h := mt (g_lt t_4 rfl).mpr c_2; omega)
      refine lv_aload_n hx hb dX8_feed_12 rfl (lv_at hl 0 rfl) ?_
      refine va_get (D := D) (ci := 8) (v := .ref (a 9)) (C := RX8) (T := TX8) (N := 14) hx hb htb iX8 hown hK.1 hP 0 rfl rfl 9 (by decide) (htb _ k_281) (fun _ h9 => h9) rfl dX8_feed_13 ?_
      refine va_getN (D := D) (ci := 6) (v := .int 0) (C := RX6) (T := TX6) (N := 8) hx hb htb iX6 hown hK.1 hP 1 rfl rfl 1 (by decide) (va_Nw.use rfl (hK.2.1 (Cond.fieldLinkNest RX8 179 "SeaWatches$Tape" "size" "I" "SeaWatches") (by decide +kernel))) (fun _ h9 => h9) rfl dX8_feed_16 ?_
      refine lv_iload_n hx hb dX8_feed_19 rfl (lv_at hl 1 rfl) ?_
      refine lv_iadd hx hb dX8_feed_20 ?_
      refine W_top (y := .int p0) (congrArg Value.int (Int32.zero_add _)) ?_
      refine lv_bipush (v := 120) hx hb dX8_feed_21 (by decide) ?_
      refine lv_icmp_le (tgt := 29) hx hb dX8_feed_23 (by decide) (fun c_3 => ?_) (fun c_3 => absurd (by rw [g_le rfl t_120]; omega) c_3)
      refine lv_iconst (v := 0) hx hb dX8_feed_29 (by decide) ?_
      refine lv_istore_n (lv' := [(3, .int 0), (0, .ref h0), (1, .int p0), (2, .int p1)]) hx hb dX8_feed_30 rfl hl (by decide) rfl (fun ls hl => ?_)
      refine lv_iload_n hx hb dX8_feed_31 rfl (lv_at hl 0 rfl) ?_
      refine lv_iload_n hx hb dX8_feed_32 rfl (lv_at hl 2 rfl) ?_
      refine lv_icmp_ge (tgt := 59) hx hb dX8_feed_33 (by decide) (fun c_4 => absurd c_4 (by rw [g_le rfl t_0]; omega)) (fun c_4 => ?_)
      refine lv_aload_n hx hb dX8_feed_36 rfl (lv_at hl 1 rfl) ?_
      refine va_get (D := D) (ci := 8) (v := .ref (a 9)) (C := RX8) (T := TX8) (N := 14) hx hb htb iX8 hown hK.1 hP 0 rfl rfl 9 (by decide) (htb _ k_281) (fun _ h9 => h9) rfl dX8_feed_37 ?_
      refine lv_iload_n hx hb dX8_feed_40 rfl (lv_at hl 3 rfl) ?_
      refine lv_bipush (v := 8) hx hb dX8_feed_41 (by decide) ?_
      refine lv_iload_n hx hb dX8_feed_43 rfl (lv_at hl 0 rfl) ?_
      refine lv_imul hx hb dX8_feed_44 ?_
      refine W_top (y := .int 0) (by decide) ?_
      refine lv_ishr hx hb dX8_feed_45 ?_
      refine lv_topi (fun z_5 ez_5 => ?_)
      refine lv_sipush (v := 255) hx hb dX8_feed_46 (by decide) ?_
      refine lv_iand hx hb dX8_feed_49 ?_
      refine lv_topi (fun z_6 ez_6 => ?_)
      have hPc := hP.sub (ws' := [((a 9), .inr (6, [.ref (a 23), .int 0, .ref (a 24), .ref (E 5), .int 0, .int 0, .int 0, .int 0])), ((a 23), .inl (E 0, 120, .inl (fun _ => 0)))]) [1, 2] rfl
      have hDc := hD.sub (ws' := [((a 9), .inr (6, [.ref (a 23), .int 0, .ref (a 24), .ref (E 5), .int 0, .int 0, .int 0, .int 0])), ((a 23), .inl (E 0, 120, .inl (fun _ => 0)))]) [1, 2] (by decide) rfl
      refine aft_v (runMV (rest := []) (As := [.int z_6]) hx hb hml hown htb hK (c_X6_add0 l D E a (E 5) (fun _ => 0) z_6 _ ) ok_X6_add k_577 k_578 k_579 k_5 k_580 ⟨(Nat.le_of_ble_eq_true rfl), (Nat.le_of_ble_eq_true rfl)⟩ ⟨(Nat.le_of_ble_eq_true rfl), (Nat.le_of_ble_eq_true rfl)⟩ hl.1 (Nat.le_of_ble_eq_true rfl) rfl rfl dX8_feed_50 hPc hDc rfl rfl 0 rfl) hP hD hS hA [1, 2] [0] (wr := [(h0, .inr (8, xF a 0))]) rfl rfl (by decide) (by decide) (fun u_7 H locs hw_8 hP hD hS => ?_)
      clear hPc hDc
      have hP : va_P D vwCl [(h0, .inr (8, xF a 0)), ((a 9), .inr (6, [.ref (a 23), .int 1, .ref (a 24), .ref (E 5), .int 0, .int 0, .int 0, .int 0])), ((a 23), .inl (E 0, 120, .inl u_7))] H := hP
      have hD : va_D A [(h0, .inr (8, xF a 0)), ((a 9), .inr (6, [.ref (a 23), .int 1, .ref (a 24), .ref (E 5), .int 0, .int 0, .int 0, .int 0])), ((a 23), .inl (E 0, 120, .inl u_7))] := hD
      refine lv_iinc (v := 1) (lv' := [(3, .int 1), (0, .ref h0), (1, .int p0), (2, .int p1)]) hx hb dX8_feed_53 hl (k := 0) rfl (by decide) (by decide) rfl (fun ls hl => ?_)
      refine lv_goto (tgt := 31) hx hb dX8_feed_56 (by decide) ?_
      refine lv_iload_n hx hb dX8_feed_31 rfl (lv_at hl 0 rfl) ?_
      refine lv_iload_n hx hb dX8_feed_32 rfl (lv_at hl 2 rfl) ?_
      refine lv_icmp_ge (tgt := 59) hx hb dX8_feed_33 (by decide) (fun c_10 => ?_) (fun c_10 => ?_)
      ·
        have ic_10 : p0.toInt ≤ 1 := by first | exact (g_le rfl t_1).mp c_10 | (have h := mt (g_lt t_1 rfl).mpr c_10; omega)
        refine lv_aload_n hx hb dX8_feed_59 rfl (lv_at hl 1 rfl) ?_
        refine va_get (D := D) (ci := 8) (v := .ref (a 9)) (C := RX8) (T := TX8) (N := 14) hx hb htb iX8 hown hK.1 hP 0 rfl rfl 9 (by decide) (htb _ k_281) (fun _ h9 => h9) rfl dX8_feed_60 ?_
        refine va_getN (D := D) (ci := 6) (v := .int 1) (C := RX6) (T := TX6) (N := 8) hx hb htb iX6 hown hK.1 hP 1 rfl rfl 1 (by decide) (va_Nw.use rfl (hK.2.1 (Cond.fieldLinkNest RX8 179 "SeaWatches$Tape" "size" "I" "SeaWatches") (by decide +kernel))) (fun _ h9 => h9) rfl dX8_feed_63 ?_
        have hP9 := hP.sub (ws' := ([] : va_W)) [] rfl
        have hD9 := hD.sub (ws' := ([] : va_W)) [] (by decide) rfl
        exact W.iret (v := 1) hx hb hr (fun t ht hW => ⟨⟨1, (), rfl, by first | exact Or.inl ⟨(g_eq t_1 rfl).mpr (by omega), by omega⟩ | (exfalso; omega), by rw [ht]; exact hP9, hD9⟩, hS.F ht⟩) hS.2.2 dX8_feed_66
      ·
        have ic_10 : 1 < p0.toInt := by first | exact (g_lt t_1 rfl).mp c_10 | (have h := mt (g_le rfl t_1).mpr c_10; omega)
        refine lv_aload_n hx hb dX8_feed_36 rfl (lv_at hl 1 rfl) ?_
        refine va_get (D := D) (ci := 8) (v := .ref (a 9)) (C := RX8) (T := TX8) (N := 14) hx hb htb iX8 hown hK.1 hP 0 rfl rfl 9 (by decide) (htb _ k_281) (fun _ h9 => h9) rfl dX8_feed_37 ?_
        refine lv_iload_n hx hb dX8_feed_40 rfl (lv_at hl 3 rfl) ?_
        refine lv_bipush (v := 8) hx hb dX8_feed_41 (by decide) ?_
        refine lv_iload_n hx hb dX8_feed_43 rfl (lv_at hl 0 rfl) ?_
        refine lv_imul hx hb dX8_feed_44 ?_
        refine W_top (y := .int 8) (by decide) ?_
        refine lv_ishr hx hb dX8_feed_45 ?_
        refine lv_topi (fun z_11 ez_11 => ?_)
        refine lv_sipush (v := 255) hx hb dX8_feed_46 (by decide) ?_
        refine lv_iand hx hb dX8_feed_49 ?_
        refine lv_topi (fun z_12 ez_12 => ?_)
        have hPc := hP.sub (ws' := [((a 9), .inr (6, [.ref (a 23), .int 1, .ref (a 24), .ref (E 5), .int 0, .int 0, .int 0, .int 0])), ((a 23), .inl (E 0, 120, .inl u_7))]) [1, 2] rfl
        have hDc := hD.sub (ws' := [((a 9), .inr (6, [.ref (a 23), .int 1, .ref (a 24), .ref (E 5), .int 0, .int 0, .int 0, .int 0])), ((a 23), .inl (E 0, 120, .inl u_7))]) [1, 2] (by decide) rfl
        refine aft_v (runMV (rest := []) (As := [.int z_12]) hx hb hml hown htb hK (c_X6_add1 l D E a (E 5) u_7 z_12 _ ) ok_X6_add k_577 k_578 k_579 k_5 k_580 ⟨(Nat.le_of_ble_eq_true rfl), (Nat.le_of_ble_eq_true rfl)⟩ ⟨(Nat.le_of_ble_eq_true rfl), (Nat.le_of_ble_eq_true rfl)⟩ hl.1 (Nat.le_of_ble_eq_true rfl) rfl rfl dX8_feed_50 hPc hDc rfl rfl 0 rfl) hP hD hS hA [1, 2] [0] (wr := [(h0, .inr (8, xF a 0))]) rfl rfl (by decide) (by decide) (fun u_13 H locs hw_14 hP hD hS => ?_)
        clear hPc hDc
        have hP : va_P D vwCl [(h0, .inr (8, xF a 0)), ((a 9), .inr (6, [.ref (a 23), .int 2, .ref (a 24), .ref (E 5), .int 0, .int 0, .int 0, .int 0])), ((a 23), .inl (E 0, 120, .inl u_13))] H := hP
        have hD : va_D A [(h0, .inr (8, xF a 0)), ((a 9), .inr (6, [.ref (a 23), .int 2, .ref (a 24), .ref (E 5), .int 0, .int 0, .int 0, .int 0])), ((a 23), .inl (E 0, 120, .inl u_13))] := hD
        refine lv_iinc (v := 2) (lv' := [(3, .int 2), (0, .ref h0), (1, .int p0), (2, .int p1)]) hx hb dX8_feed_53 hl (k := 0) rfl (by decide) (by decide) rfl (fun ls hl => ?_)
        refine lv_goto (tgt := 31) hx hb dX8_feed_56 (by decide) ?_
        refine lv_iload_n hx hb dX8_feed_31 rfl (lv_at hl 0 rfl) ?_
        refine lv_iload_n hx hb dX8_feed_32 rfl (lv_at hl 2 rfl) ?_
        refine lv_icmp_ge (tgt := 59) hx hb dX8_feed_33 (by decide) (fun c_16 => ?_) (fun c_16 => ?_)
        ·
          have ic_16 : p0.toInt ≤ 2 := by first | exact (g_le rfl t_2).mp c_16 | (have h := mt (g_lt t_2 rfl).mpr c_16; omega)
          refine lv_aload_n hx hb dX8_feed_59 rfl (lv_at hl 1 rfl) ?_
          refine va_get (D := D) (ci := 8) (v := .ref (a 9)) (C := RX8) (T := TX8) (N := 14) hx hb htb iX8 hown hK.1 hP 0 rfl rfl 9 (by decide) (htb _ k_281) (fun _ h9 => h9) rfl dX8_feed_60 ?_
          refine va_getN (D := D) (ci := 6) (v := .int 2) (C := RX6) (T := TX6) (N := 8) hx hb htb iX6 hown hK.1 hP 1 rfl rfl 1 (by decide) (va_Nw.use rfl (hK.2.1 (Cond.fieldLinkNest RX8 179 "SeaWatches$Tape" "size" "I" "SeaWatches") (by decide +kernel))) (fun _ h9 => h9) rfl dX8_feed_63 ?_
          have hP9 := hP.sub (ws' := ([] : va_W)) [] rfl
          have hD9 := hD.sub (ws' := ([] : va_W)) [] (by decide) rfl
          exact W.iret (v := 2) hx hb hr (fun t ht hW => ⟨⟨2, (), rfl, by first | exact Or.inl ⟨(g_eq t_2 rfl).mpr (by omega), by omega⟩ | (exfalso; omega), by rw [ht]; exact hP9, hD9⟩, hS.F ht⟩) hS.2.2 dX8_feed_66
        ·
          have ic_16 : 2 < p0.toInt := by first | exact (g_lt t_2 rfl).mp c_16 | (have h := mt (g_le rfl t_2).mpr c_16; omega)
          refine lv_aload_n hx hb dX8_feed_36 rfl (lv_at hl 1 rfl) ?_
          refine va_get (D := D) (ci := 8) (v := .ref (a 9)) (C := RX8) (T := TX8) (N := 14) hx hb htb iX8 hown hK.1 hP 0 rfl rfl 9 (by decide) (htb _ k_281) (fun _ h9 => h9) rfl dX8_feed_37 ?_
          refine lv_iload_n hx hb dX8_feed_40 rfl (lv_at hl 3 rfl) ?_
          refine lv_bipush (v := 8) hx hb dX8_feed_41 (by decide) ?_
          refine lv_iload_n hx hb dX8_feed_43 rfl (lv_at hl 0 rfl) ?_
          refine lv_imul hx hb dX8_feed_44 ?_
          refine W_top (y := .int 16) (by decide) ?_
          refine lv_ishr hx hb dX8_feed_45 ?_
          refine lv_topi (fun z_17 ez_17 => ?_)
          refine lv_sipush (v := 255) hx hb dX8_feed_46 (by decide) ?_
          refine lv_iand hx hb dX8_feed_49 ?_
          refine lv_topi (fun z_18 ez_18 => ?_)
          have hPc := hP.sub (ws' := [((a 9), .inr (6, [.ref (a 23), .int 2, .ref (a 24), .ref (E 5), .int 0, .int 0, .int 0, .int 0])), ((a 23), .inl (E 0, 120, .inl u_13))]) [1, 2] rfl
          have hDc := hD.sub (ws' := [((a 9), .inr (6, [.ref (a 23), .int 2, .ref (a 24), .ref (E 5), .int 0, .int 0, .int 0, .int 0])), ((a 23), .inl (E 0, 120, .inl u_13))]) [1, 2] (by decide) rfl
          refine aft_v (runMV (rest := []) (As := [.int z_18]) hx hb hml hown htb hK (c_X6_add2 l D E a (E 5) u_13 z_18 _ ) ok_X6_add k_577 k_578 k_579 k_5 k_580 ⟨(Nat.le_of_ble_eq_true rfl), (Nat.le_of_ble_eq_true rfl)⟩ ⟨(Nat.le_of_ble_eq_true rfl), (Nat.le_of_ble_eq_true rfl)⟩ hl.1 (Nat.le_of_ble_eq_true rfl) rfl rfl dX8_feed_50 hPc hDc rfl rfl 0 rfl) hP hD hS hA [1, 2] [0] (wr := [(h0, .inr (8, xF a 0))]) rfl rfl (by decide) (by decide) (fun u_19 H locs hw_20 hP hD hS => ?_)
          clear hPc hDc
          have hP : va_P D vwCl [(h0, .inr (8, xF a 0)), ((a 9), .inr (6, [.ref (a 23), .int 3, .ref (a 24), .ref (E 5), .int 0, .int 0, .int 0, .int 0])), ((a 23), .inl (E 0, 120, .inl u_19))] H := hP
          have hD : va_D A [(h0, .inr (8, xF a 0)), ((a 9), .inr (6, [.ref (a 23), .int 3, .ref (a 24), .ref (E 5), .int 0, .int 0, .int 0, .int 0])), ((a 23), .inl (E 0, 120, .inl u_19))] := hD
          refine lv_iinc (v := 3) (lv' := [(3, .int 3), (0, .ref h0), (1, .int p0), (2, .int p1)]) hx hb dX8_feed_53 hl (k := 0) rfl (by decide) (by decide) rfl (fun ls hl => ?_)
          refine lv_goto (tgt := 31) hx hb dX8_feed_56 (by decide) ?_
          refine lv_iload_n hx hb dX8_feed_31 rfl (lv_at hl 0 rfl) ?_
          refine lv_iload_n hx hb dX8_feed_32 rfl (lv_at hl 2 rfl) ?_
          refine lv_icmp_ge (tgt := 59) hx hb dX8_feed_33 (by decide) (fun c_22 => ?_) (fun c_22 => ?_)
          ·
            have ic_22 : p0.toInt ≤ 3 := by first | exact (g_le rfl t_3).mp c_22 | (have h := mt (g_lt t_3 rfl).mpr c_22; omega)
            refine lv_aload_n hx hb dX8_feed_59 rfl (lv_at hl 1 rfl) ?_
            refine va_get (D := D) (ci := 8) (v := .ref (a 9)) (C := RX8) (T := TX8) (N := 14) hx hb htb iX8 hown hK.1 hP 0 rfl rfl 9 (by decide) (htb _ k_281) (fun _ h9 => h9) rfl dX8_feed_60 ?_
            refine va_getN (D := D) (ci := 6) (v := .int 3) (C := RX6) (T := TX6) (N := 8) hx hb htb iX6 hown hK.1 hP 1 rfl rfl 1 (by decide) (va_Nw.use rfl (hK.2.1 (Cond.fieldLinkNest RX8 179 "SeaWatches$Tape" "size" "I" "SeaWatches") (by decide +kernel))) (fun _ h9 => h9) rfl dX8_feed_63 ?_
            have hP9 := hP.sub (ws' := ([] : va_W)) [] rfl
            have hD9 := hD.sub (ws' := ([] : va_W)) [] (by decide) rfl
            exact W.iret (v := 3) hx hb hr (fun t ht hW => ⟨⟨3, (), rfl, by first | exact Or.inl ⟨(g_eq t_3 rfl).mpr (by omega), by omega⟩ | (exfalso; omega), by rw [ht]; exact hP9, hD9⟩, hS.F ht⟩) hS.2.2 dX8_feed_66
          ·
            have ic_22 : 3 < p0.toInt := by first | exact (g_lt t_3 rfl).mp c_22 | (have h := mt (g_le rfl t_3).mpr c_22; omega)
            refine lv_aload_n hx hb dX8_feed_36 rfl (lv_at hl 1 rfl) ?_
            refine va_get (D := D) (ci := 8) (v := .ref (a 9)) (C := RX8) (T := TX8) (N := 14) hx hb htb iX8 hown hK.1 hP 0 rfl rfl 9 (by decide) (htb _ k_281) (fun _ h9 => h9) rfl dX8_feed_37 ?_
            refine lv_iload_n hx hb dX8_feed_40 rfl (lv_at hl 3 rfl) ?_
            refine lv_bipush (v := 8) hx hb dX8_feed_41 (by decide) ?_
            refine lv_iload_n hx hb dX8_feed_43 rfl (lv_at hl 0 rfl) ?_
            refine lv_imul hx hb dX8_feed_44 ?_
            refine W_top (y := .int 24) (by decide) ?_
            refine lv_ishr hx hb dX8_feed_45 ?_
            refine lv_topi (fun z_23 ez_23 => ?_)
            refine lv_sipush (v := 255) hx hb dX8_feed_46 (by decide) ?_
            refine lv_iand hx hb dX8_feed_49 ?_
            refine lv_topi (fun z_24 ez_24 => ?_)
            have hPc := hP.sub (ws' := [((a 9), .inr (6, [.ref (a 23), .int 3, .ref (a 24), .ref (E 5), .int 0, .int 0, .int 0, .int 0])), ((a 23), .inl (E 0, 120, .inl u_19))]) [1, 2] rfl
            have hDc := hD.sub (ws' := [((a 9), .inr (6, [.ref (a 23), .int 3, .ref (a 24), .ref (E 5), .int 0, .int 0, .int 0, .int 0])), ((a 23), .inl (E 0, 120, .inl u_19))]) [1, 2] (by decide) rfl
            refine aft_v (runMV (rest := []) (As := [.int z_24]) hx hb hml hown htb hK (c_X6_add3 l D E a (E 5) u_19 z_24 _ ) ok_X6_add k_577 k_578 k_579 k_5 k_580 ⟨(Nat.le_of_ble_eq_true rfl), (Nat.le_of_ble_eq_true rfl)⟩ ⟨(Nat.le_of_ble_eq_true rfl), (Nat.le_of_ble_eq_true rfl)⟩ hl.1 (Nat.le_of_ble_eq_true rfl) rfl rfl dX8_feed_50 hPc hDc rfl rfl 0 rfl) hP hD hS hA [1, 2] [0] (wr := [(h0, .inr (8, xF a 0))]) rfl rfl (by decide) (by decide) (fun u_25 H locs hw_26 hP hD hS => ?_)
            clear hPc hDc
            have hP : va_P D vwCl [(h0, .inr (8, xF a 0)), ((a 9), .inr (6, [.ref (a 23), .int 4, .ref (a 24), .ref (E 5), .int 0, .int 0, .int 0, .int 0])), ((a 23), .inl (E 0, 120, .inl u_25))] H := hP
            have hD : va_D A [(h0, .inr (8, xF a 0)), ((a 9), .inr (6, [.ref (a 23), .int 4, .ref (a 24), .ref (E 5), .int 0, .int 0, .int 0, .int 0])), ((a 23), .inl (E 0, 120, .inl u_25))] := hD
            refine lv_iinc (v := 4) (lv' := [(3, .int 4), (0, .ref h0), (1, .int p0), (2, .int p1)]) hx hb dX8_feed_53 hl (k := 0) rfl (by decide) (by decide) rfl (fun ls hl => ?_)
            refine lv_goto (tgt := 31) hx hb dX8_feed_56 (by decide) ?_
            refine lv_iload_n hx hb dX8_feed_31 rfl (lv_at hl 0 rfl) ?_
            refine lv_iload_n hx hb dX8_feed_32 rfl (lv_at hl 2 rfl) ?_
            refine lv_icmp_ge (tgt := 59) hx hb dX8_feed_33 (by decide) (fun c_28 => ?_) (fun c_28 => absurd (by rw [g_le rfl t_4]; omega) c_28)
            refine lv_aload_n hx hb dX8_feed_59 rfl (lv_at hl 1 rfl) ?_
            refine va_get (D := D) (ci := 8) (v := .ref (a 9)) (C := RX8) (T := TX8) (N := 14) hx hb htb iX8 hown hK.1 hP 0 rfl rfl 9 (by decide) (htb _ k_281) (fun _ h9 => h9) rfl dX8_feed_60 ?_
            refine va_getN (D := D) (ci := 6) (v := .int 4) (C := RX6) (T := TX6) (N := 8) hx hb htb iX6 hown hK.1 hP 1 rfl rfl 1 (by decide) (va_Nw.use rfl (hK.2.1 (Cond.fieldLinkNest RX8 179 "SeaWatches$Tape" "size" "I" "SeaWatches") (by decide +kernel))) (fun _ h9 => h9) rfl dX8_feed_63 ?_
            have hP9 := hP.sub (ws' := ([] : va_W)) [] rfl
            have hD9 := hD.sub (ws' := ([] : va_W)) [] (by decide) rfl
            exact W.iret (v := 4) hx hb hr (fun t ht hW => ⟨⟨4, (), rfl, by first | exact Or.inl ⟨(g_eq t_4 rfl).mpr (by omega), by omega⟩ | (exfalso; omega), by rw [ht]; exact hP9, hD9⟩, hS.F ht⟩) hS.2.2 dX8_feed_66
    ·
      have ic_2 : 4 < p0.toInt := by first | exact (g_lt t_4 rfl).mp c_2 | (have h := mt (g_le rfl t_4).mpr c_2; omega)
      refine lv_iconst (v := (-1)) hx hb dX8_feed_10 (by decide) ?_
      have hP9 := hP.sub (ws' := ([] : va_W)) [] rfl
      have hD9 := hD.sub (ws' := ([] : va_W)) [] (by decide) rfl
      exact W.iret (v := (-1)) hx hb hr (fun t ht hW => ⟨⟨(-1), (), rfl, by first | exact Or.inl ⟨(g_eq t_m1 rfl).mpr (by omega), by omega⟩ | exact Or.inr ⟨rfl, by omega⟩ | (exfalso; omega), by rw [ht]; exact hP9, hD9⟩, hS.F ht⟩) hS.2.2 dX8_feed_11
set_option maxHeartbeats 4000000 in
set_option maxRecDepth 100000 in
theorem c_X8_doubt (l : Launch) (D : va_G) (E : Nat → Nat) (h0 : Nat) (a : Nat → Nat) (p0 : Int32) (sz : Nat)  : Met l yX8_doubt (wl yX8_doubt cX8_doubt 2 (some .int)) (RM 1 0 0) (mu_P D E [.ref h0, .int p0] [(h0, .inr (8, xF a 0)), ((a 10), .inr (0, [.ref (a 28), .ref (a 29), .ref (a 30), .ref (a 31), .ref (a 32), .int 0, .int 0, .int 0, .int 0])), ((a 28), .inl (E 0, 9, .inl (fun _ => 0)))] sz) (va_Qi (fun (r : Int32) (u : Unit) => (r = 1 ∧ (1 ≤ p0.toInt ∧ p0.toInt ≤ 9999)) ∨ (r = (-1) ∧ ¬ (1 ≤ p0.toInt ∧ p0.toInt ≤ 9999))) (mu_B D (va_A [(h0, .inr (8, xF a 0)), ((a 10), .inr (0, [.ref (a 28), .ref (a 29), .ref (a 30), .ref (a 31), .ref (a 32), .int 0, .int 0, .int 0, .int 0])), ((a 28), .inl (E 0, 9, .inl (fun _ => 0)))] sz) (fun (u : Unit) => ([] : va_W))) (va_A [(h0, .inr (8, xF a 0)), ((a 10), .inr (0, [.ref (a 28), .ref (a 29), .ref (a 30), .ref (a 31), .ref (a 32), .int 0, .int 0, .int 0, .int 0])), ((a 28), .inl (E 0, 9, .inl (fun _ => 0)))] sz)) 0 0 (va_A [(h0, .inr (8, xF a 0)), ((a 10), .inr (0, [.ref (a 28), .ref (a 29), .ref (a 30), .ref (a 31), .ref (a 32), .int 0, .int 0, .int 0, .int 0])), ((a 28), .inl (E 0, 9, .inl (fun _ => 0)))] sz) := by
  refine Met.ofW (cc := cX8_doubt) (maxL := 2) (ret := (some .int)) (by decide) rfl ?_
  intro p e s m args below meth c s₁ B hml hv
  obtain ⟨rfl, hsz, hP, hK, hD0⟩ := hv
  have hx := B.exec
  have hb := B.bytes
  have hr := B.returns
  have hts := atoms_spec (ws := wl yX8_doubt cX8_doubt 2 (some .int)) B.pre
  have htb : ∀ w ∈ tb, w.before _ s = true := fun w h => hts w (List.mem_cons_of_mem _ h)
  have hown : s.vm.findClass RX8 = some m.cls := findClass_of_methodNamed B.named
  have hlocks := B.notSynchronized
  subst hsz
  have hD := hD0.self (sz := s.heap.size)
  generalize hAe : va_A [(h0, .inr (8, xF a 0)), ((a 10), .inr (0, [.ref (a 28), .ref (a 29), .ref (a 30), .ref (a 31), .ref (a 32), .int 0, .int 0, .int 0, .int 0])), ((a 28), .inl (E 0, 9, .inl (fun _ => 0)))] s.heap.size = A at hD ⊢
  have hA : ∀ q : Nat, s.heap.size ≤ q → A q := fun q h => by rw [← hAe]; exact Or.inr h
  have hS : va_S A s.heap s.heap [] := va_S.rf
  have hP : va_P D vwCl [(h0, .inr (8, xF a 0)), ((a 10), .inr (0, [.ref (a 28), .ref (a 29), .ref (a 30), .ref (a 31), .ref (a 32), .int 0, .int 0, .int 0, .int 0])), ((a 28), .inl (E 0, 9, .inl (fun _ => 0)))] s.heap := hP
  have hl := lv_entry ([.ref h0, .int p0]) (n := 2) (Nat.le_of_ble_eq_true rfl)
  rw [lg_entry_eq]
  generalize (lg_sl ([.ref h0, .int p0]) ++ List.replicate (2 - (lg_sl ([.ref h0, .int p0])).length) Slot.unset).toArray = ls at hl ⊢
  have hl : lv_has ls 2 [(0, .ref h0), (1, .int p0)] := hl
  have lo_p0 := i_lo p0
  have hi_p0 := i_hi p0
  refine lv_iload_n hx hb dX8_doubt_0 rfl (lv_at hl 1 rfl) ?_
  refine lv_iconst (v := 1) hx hb dX8_doubt_1 (by decide) ?_
  refine lv_icmp_lt (tgt := 12) hx hb dX8_doubt_2 (by decide) (fun c_1 => ?_) (fun c_1 => ?_)
  ·
    have ic_1 : p0.toInt < 1 := by first | exact (g_lt rfl t_1).mp c_1 | (have h := mt (g_le t_1 rfl).mpr c_1; omega)
    refine lv_iconst (v := (-1)) hx hb dX8_doubt_12 (by decide) ?_
    have hP9 := hP.sub (ws' := ([] : va_W)) [] rfl
    have hD9 := hD.sub (ws' := ([] : va_W)) [] (by decide) rfl
    exact W.iret (v := (-1)) hx hb hr (fun t ht hW => ⟨⟨(-1), (), rfl, by first | exact Or.inr ⟨rfl, by omega⟩ | (exfalso; omega), by rw [ht]; exact hP9, hD9⟩, hS.F ht⟩) hS.2.2 dX8_doubt_13
  ·
    have ic_1 : 1 ≤ p0.toInt := by first | exact (g_le t_1 rfl).mp c_1 | (have h := mt (g_lt rfl t_1).mpr c_1; omega)
    refine lv_iload_n hx hb dX8_doubt_5 rfl (lv_at hl 1 rfl) ?_
    refine lv_sipush (v := 9999) hx hb dX8_doubt_6 (by decide) ?_
    refine lv_icmp_le (tgt := 14) hx hb dX8_doubt_9 (by decide) (fun c_2 => ?_) (fun c_2 => ?_)
    ·
      have ic_2 : p0.toInt ≤ 9999 := by first | exact (g_le rfl t_9999).mp c_2 | (have h := mt (g_lt t_9999 rfl).mpr c_2; omega)
      refine lv_aload_n hx hb dX8_doubt_14 rfl (lv_at hl 0 rfl) ?_
      refine va_get (D := D) (ci := 8) (v := .ref (a 10)) (C := RX8) (T := TX8) (N := 14) hx hb htb iX8 hown hK.1 hP 0 rfl rfl 10 (by decide) (htb _ k_282) (fun _ h9 => h9) rfl dX8_doubt_15 ?_
      refine va_getN (D := D) (ci := 0) (v := .int 0) (C := RX0) (T := TX0) (N := 9) hx hb htb iX0 hown hK.1 hP 1 rfl rfl 5 (by decide) (va_Nw.use rfl (hK.2.1 (Cond.fieldLinkNest RX8 275 "SeaWatches$Dealing" "listed" "I" "SeaWatches") (by decide +kernel))) (fun _ h9 => h9) rfl dX8_doubt_18 ?_
      refine lv_bipush (v := 9) hx hb dX8_doubt_21 (by decide) ?_
      refine lv_icmp_lt (tgt := 29) hx hb dX8_doubt_23 (by decide) (fun c_3 => ?_) (fun c_3 => absurd (by decide) c_3)
      refine lv_aload_n hx hb dX8_doubt_29 rfl (lv_at hl 0 rfl) ?_
      refine va_get (D := D) (ci := 8) (v := .ref (a 10)) (C := RX8) (T := TX8) (N := 14) hx hb htb iX8 hown hK.1 hP 0 rfl rfl 10 (by decide) (htb _ k_282) (fun _ h9 => h9) rfl dX8_doubt_30 ?_
      refine lv_iload_n hx hb dX8_doubt_33 rfl (lv_at hl 1 rfl) ?_
      have hPc := hP.sub (ws' := [((a 10), .inr (0, [.ref (a 28), .ref (a 29), .ref (a 30), .ref (a 31), .ref (a 32), .int 0, .int 0, .int 0, .int 0])), ((a 28), .inl (E 0, 9, .inl (fun _ => 0)))]) [1, 2] rfl
      have hDc := hD.sub (ws' := [((a 10), .inr (0, [.ref (a 28), .ref (a 29), .ref (a 30), .ref (a 31), .ref (a 32), .int 0, .int 0, .int 0, .int 0])), ((a 28), .inl (E 0, 9, .inl (fun _ => 0)))]) [1, 2] (by decide) rfl
      refine aft_v (runMV (rest := []) (As := [.int p0]) hx hb hml hown htb hK (c_X0_add l D E a p0 _ ) ok_X0_add k_890 k_891 k_892 k_7 k_893 ⟨(Nat.le_of_ble_eq_true rfl), (Nat.le_of_ble_eq_true rfl)⟩ ⟨(Nat.le_of_ble_eq_true rfl), (Nat.le_of_ble_eq_true rfl)⟩ hl.1 (Nat.le_of_ble_eq_true rfl) rfl rfl dX8_doubt_34 hPc hDc rfl rfl 0 rfl) hP hD hS hA [1, 2] [0] (wr := [(h0, .inr (8, xF a 0))]) rfl rfl (by decide) (by decide) (fun u_4 H locs hw_5 hP hD hS => ?_)
      clear hPc hDc
      have hP : va_P D vwCl [(h0, .inr (8, xF a 0)), ((a 10), .inr (0, [.ref (a 28), .ref (a 29), .ref (a 30), .ref (a 31), .ref (a 32), .int 1, .int 0, .int 0, .int 0]))] H := hP
      have hD : va_D A [(h0, .inr (8, xF a 0)), ((a 10), .inr (0, [.ref (a 28), .ref (a 29), .ref (a 30), .ref (a 31), .ref (a 32), .int 1, .int 0, .int 0, .int 0]))] := hD
      refine lv_aload_n hx hb dX8_doubt_37 rfl (lv_at hl 0 rfl) ?_
      refine va_get (D := D) (ci := 8) (v := .ref (a 10)) (C := RX8) (T := TX8) (N := 14) hx hb htb iX8 hown hK.1 hP 0 rfl rfl 10 (by decide) (htb _ k_282) (fun _ h9 => h9) rfl dX8_doubt_38 ?_
      refine va_getN (D := D) (ci := 0) (v := .int 1) (C := RX0) (T := TX0) (N := 9) hx hb htb iX0 hown hK.1 hP 1 rfl rfl 5 (by decide) (va_Nw.use rfl (hK.2.1 (Cond.fieldLinkNest RX8 275 "SeaWatches$Dealing" "listed" "I" "SeaWatches") (by decide +kernel))) (fun _ h9 => h9) rfl dX8_doubt_41 ?_
      have hP9 := hP.sub (ws' := ([] : va_W)) [] rfl
      have hD9 := hD.sub (ws' := ([] : va_W)) [] (by decide) rfl
      exact W.iret (v := 1) hx hb hr (fun t ht hW => ⟨⟨1, (), rfl, by first | exact Or.inl ⟨rfl, by omega⟩ | (exfalso; omega), by rw [ht]; exact hP9, hD9⟩, hS.F ht⟩) hS.2.2 dX8_doubt_44
    ·
      have ic_2 : 9999 < p0.toInt := by first | exact (g_lt t_9999 rfl).mp c_2 | (have h := mt (g_le rfl t_9999).mpr c_2; omega)
      refine lv_iconst (v := (-1)) hx hb dX8_doubt_12 (by decide) ?_
      have hP9 := hP.sub (ws' := ([] : va_W)) [] rfl
      have hD9 := hD.sub (ws' := ([] : va_W)) [] (by decide) rfl
      exact W.iret (v := (-1)) hx hb hr (fun t ht hW => ⟨⟨(-1), (), rfl, by first | exact Or.inr ⟨rfl, by omega⟩ | (exfalso; omega), by rw [ht]; exact hP9, hD9⟩, hS.F ht⟩) hS.2.2 dX8_doubt_13
