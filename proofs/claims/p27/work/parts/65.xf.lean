set_option maxHeartbeats 4000000 in
set_option maxRecDepth 100000 in
theorem g_X8_days (l : Launch) (D : va_G) (E : Nat → Nat) (xh : Nat) (xa : Nat → Nat) (xtrialRule : Nat) (xdropRule : Nat) (xtoday : Int32) (p0 : Int32) (sz : Nat) (hi_x : (0 ≤ xtoday.toInt ∧ xtoday.toInt ≤ 399)) : Met l yX8_days (wl yX8_days cX8_days 2 (some .int)) (RM 0 0 0) (mu_P D E [.ref xh, .int p0] [(xh, .inr (8, G8 xa xtrialRule xdropRule xtoday))] sz) (va_Qi (fun (r : Int32) (u : (Int32)) => (0 ≤ u.toInt ∧ u.toInt ≤ 399) ∧ (((1 ≤ p0.toInt ∧ p0.toInt ≤ 100 ∧ xtoday.toInt + p0.toInt ≤ 399) ∧ r.toInt = xtoday.toInt + p0.toInt ∧ u.toInt = r.toInt) ∨ (¬ (1 ≤ p0.toInt ∧ p0.toInt ≤ 100 ∧ xtoday.toInt + p0.toInt ≤ 399) ∧ r.toInt = -1 ∧ u.toInt = xtoday.toInt))) (mu_B D (va_A [(xh, .inr (8, G8 xa xtrialRule xdropRule xtoday))] sz) (fun (u : (Int32)) => [(xh, .inr (8, G8 xa xtrialRule xdropRule u))])) (va_A [(xh, .inr (8, G8 xa xtrialRule xdropRule xtoday))] sz)) 0 0 (va_A [(xh, .inr (8, G8 xa xtrialRule xdropRule xtoday))] sz) := by
  refine Met.ofW (cc := cX8_days) (maxL := 2) (ret := (some .int)) (by decide) rfl ?_
  intro p e s m args below meth c s₁ B hml hv
  obtain ⟨rfl, hsz, hP, hK, hD0⟩ := hv
  have hx := B.exec; have hb := B.bytes; have hr := B.returns
  have hts := atoms_spec (ws := wl yX8_days cX8_days 2 (some .int)) B.pre
  have htb : ∀ w ∈ tb, w.before _ s = true := fun w h => hts w (List.mem_cons_of_mem _ h)
  have hown : s.vm.findClass RX8 = some m.cls := findClass_of_methodNamed B.named
  have hlocks := B.notSynchronized
  subst hsz
  have hD := hD0.self (sz := s.heap.size)
  generalize hAe : va_A [(xh, .inr (8, G8 xa xtrialRule xdropRule xtoday))] s.heap.size = A at hD ⊢
  have hA : ∀ q : Nat, s.heap.size ≤ q → A q := fun q h => by rw [← hAe]; exact Or.inr h
  have hS : va_S A s.heap s.heap [] := va_S.rf
  have hP : va_P D vwCl [(xh, .inr (8, G8 xa xtrialRule xdropRule xtoday))] s.heap := hP
  have hl := lv_entry ([.ref xh, .int p0]) (n := 2) (Nat.le_of_ble_eq_true rfl)
  rw [lg_entry_eq]
  generalize (lg_sl ([.ref xh, .int p0]) ++ List.replicate (2 - (lg_sl ([.ref xh, .int p0])).length) Slot.unset).toArray = ls at hl ⊢
  have hl : lv_has ls 2 [(0, .ref xh), (1, .int p0)] := hl
  have lo_p0 := i_lo p0; have hi_p0 := i_hi p0
  refine lv_iload_n hx hb dX8_days_0 rfl (lv_at hl 1 rfl) ?_
  refine lv_iconst (v := 1) hx hb dX8_days_1 (by decide) ?_
  refine lv_icmp_lt (tgt := 23) hx hb dX8_days_2 (by decide) (fun c_1 => ?_) (fun c_1 => ?_)
  ·
    have ic_1 : p0.toInt < 1 := by first | exact (g_lt rfl t_1).mp c_1 | (have h := mt (g_le t_1 rfl).mpr c_1; omega)
    clear c_1
    refine lv_iconst (v := (-1)) hx hb dX8_days_23 (by decide) ?_
    have hP9 := hP.sub (ws' := [(xh, .inr (8, G8 xa xtrialRule xdropRule xtoday))]) [0] rfl
    have hD9 := hD.sub (ws' := [(xh, .inr (8, G8 xa xtrialRule xdropRule xtoday))]) [0] (by decide) rfl
    exact W.iret (v := (-1)) hx hb hr (fun t ht hW => ⟨⟨(-1), xtoday, rfl, ⟨(by (try dsimp only); omega), (by have h0 := t_m1; (try dsimp only); omega)⟩, by rw [ht]; exact hP9, hD9⟩, hS.F ht⟩) hS.2.2 dX8_days_24
  ·
    have ic_1 : 1 ≤ p0.toInt := by first | exact (g_le t_1 rfl).mp c_1 | (have h := mt (g_lt rfl t_1).mpr c_1; omega)
    clear c_1
    refine lv_iload_n hx hb dX8_days_5 rfl (lv_at hl 1 rfl) ?_
    refine lv_bipush (v := 100) hx hb dX8_days_6 (by decide) ?_
    refine lv_icmp_gt (tgt := 23) hx hb dX8_days_8 (by decide) (fun c_2 => ?_) (fun c_2 => ?_)
    ·
      have ic_2 : 100 < p0.toInt := by first | exact (g_lt t_100 rfl).mp c_2 | (have h := mt (g_le rfl t_100).mpr c_2; omega)
      clear c_2
      refine lv_iconst (v := (-1)) hx hb dX8_days_23 (by decide) ?_
      have hP9 := hP.sub (ws' := [(xh, .inr (8, G8 xa xtrialRule xdropRule xtoday))]) [0] rfl
      have hD9 := hD.sub (ws' := [(xh, .inr (8, G8 xa xtrialRule xdropRule xtoday))]) [0] (by decide) rfl
      exact W.iret (v := (-1)) hx hb hr (fun t ht hW => ⟨⟨(-1), xtoday, rfl, ⟨(by (try dsimp only); omega), (by have h0 := t_m1; (try dsimp only); omega)⟩, by rw [ht]; exact hP9, hD9⟩, hS.F ht⟩) hS.2.2 dX8_days_24
    ·
      have ic_2 : p0.toInt ≤ 100 := by first | exact (g_le rfl t_100).mp c_2 | (have h := mt (g_lt t_100 rfl).mpr c_2; omega)
      clear c_2
      refine lv_aload_n hx hb dX8_days_11 rfl (lv_at hl 0 rfl) ?_
      refine va_get (D := D) (ci := 8) (v := .int xtoday) (C := RX8) (T := TX8) (N := 14) hx hb htb iX8 hown hK.1 hP 0 rfl rfl 13 (by decide) (htb _ k_285) (fun _ h9 => h9) rfl dX8_days_12 ?_
      refine lv_iload_n hx hb dX8_days_15 rfl (lv_at hl 1 rfl) ?_
      refine lv_iadd hx hb dX8_days_16 ?_
      refine lv_topi (fun z_3 ez_3 => ?_)
      have jz_3 : z_3.toInt = xtoday.toInt + p0.toInt := by rw [ez_3]; exact g_add rfl rfl (by omega) (by omega)
      refine lv_sipush (v := 400) hx hb dX8_days_17 (by decide) ?_
      refine lv_icmp_lt (tgt := 25) hx hb dX8_days_20 (by decide) (fun c_4 => ?_) (fun c_4 => ?_)
      ·
        have ic_4 : z_3.toInt < 400 := by first | exact (g_lt rfl t_400).mp c_4 | (have h := mt (g_le t_400 rfl).mpr c_4; omega)
        clear c_4
        refine lv_aload_n hx hb dX8_days_25 rfl (lv_at hl 0 rfl) ?_
        refine lv_dup hx hb dX8_days_26 rfl ?_
        refine va_get (D := D) (ci := 8) (v := .int xtoday) (C := RX8) (T := TX8) (N := 14) hx hb htb iX8 hown hK.1 hP 0 rfl rfl 13 (by decide) (htb _ k_285) (fun _ h9 => h9) rfl dX8_days_27 ?_
        refine lv_iload_n hx hb dX8_days_30 rfl (lv_at hl 1 rfl) ?_
        refine lv_iadd hx hb dX8_days_31 ?_
        refine lv_topi (fun z_5 ez_5 => ?_)
        have jz_5 : z_5.toInt = xtoday.toInt + p0.toInt := by rw [ez_5]; exact g_add rfl rfl (by omega) (by omega)
        refine va_put (D := D) (ci := 8) (v := .int z_5) (ty := .int) (C := RX8) (T := TX8) (N := 14) hx hb htb iX8 tyX8 tyX8_ok nmX8 hown hK.1 hP hD hS 0 rfl rfl 13 (by decide) (htb _ k_285) (fun _ h9 => h9) rfl (by decide +kernel) rfl rfl (Nat.le_of_ble_eq_true rfl) dX8_days_32 (fun H locs hP hD hS => ?_)
        have hP : va_P D vwCl [(xh, .inr (8, G8 xa xtrialRule xdropRule z_5))] H := hP
        have hD := toW hP hD rfl
        refine lv_aload_n hx hb dX8_days_35 rfl (lv_at hl 0 rfl) ?_
        refine va_get (D := D) (ci := 8) (v := .int z_5) (C := RX8) (T := TX8) (N := 14) hx hb htb iX8 hown hK.1 hP 0 rfl rfl 13 (by decide) (htb _ k_285) (fun _ h9 => h9) rfl dX8_days_36 ?_
        have hP9 := hP.sub (ws' := [(xh, .inr (8, G8 xa xtrialRule xdropRule z_5))]) [0] rfl
        have hD9 := hD.sub (ws' := [(xh, .inr (8, G8 xa xtrialRule xdropRule z_5))]) [0] (by decide) rfl
        exact W.iret (v := z_5) hx hb hr (fun t ht hW => ⟨⟨z_5, z_5, rfl, ⟨(by (try dsimp only); omega), (by (try dsimp only); omega)⟩, by rw [ht]; exact hP9, hD9⟩, hS.F ht⟩) hS.2.2 dX8_days_39
      ·
        have ic_4 : 400 ≤ z_3.toInt := by first | exact (g_le t_400 rfl).mp c_4 | (have h := mt (g_lt rfl t_400).mpr c_4; omega)
        clear c_4
        refine lv_iconst (v := (-1)) hx hb dX8_days_23 (by decide) ?_
        have hP9 := hP.sub (ws' := [(xh, .inr (8, G8 xa xtrialRule xdropRule xtoday))]) [0] rfl
        have hD9 := hD.sub (ws' := [(xh, .inr (8, G8 xa xtrialRule xdropRule xtoday))]) [0] (by decide) rfl
        exact W.iret (v := (-1)) hx hb hr (fun t ht hW => ⟨⟨(-1), xtoday, rfl, ⟨(by (try dsimp only); omega), (by have h0 := t_m1; (try dsimp only); omega)⟩, by rw [ht]; exact hP9, hD9⟩, hS.F ht⟩) hS.2.2 dX8_days_24
set_option maxHeartbeats 4000000 in
set_option maxRecDepth 100000 in
theorem g_X8_warmth (l : Launch) (D : va_G) (E : Nat → Nat) (xh : Nat) (xa : Nat → Nat) (xtrialRule : Nat) (xdropRule : Nat) (xtoday : Int32) (xf0 : Nat → Int32) (p0 : Int32) (p1 : Int32) (sz : Nat) (hi_x : (0 ≤ xtoday.toInt ∧ xtoday.toInt ≤ 399)) : Met l yX8_warmth (wl yX8_warmth cX8_warmth 3 (some .int)) (RM 1 0 0) (mu_P D E [.ref xh, .int p0, .int p1] [(xh, .inr (8, G8 xa xtrialRule xdropRule xtoday)), ((xa 0), .inl (E 0, 400, .inl xf0))] sz) (va_Qi (fun (r : Int32) (u : (Nat → Int32)) => ((r.toInt = 1 ∧ ((0 ≤ p0.toInt ∧ p0.toInt ≤ 399) ∧ (p1.toInt = -100 ∨ (-50 ≤ p1.toInt ∧ p1.toInt ≤ 50))) ∧ u = upd xf0 (p0).toNatClampNeg p1) ∨ (r.toInt = -1 ∧ ¬ ((0 ≤ p0.toInt ∧ p0.toInt ≤ 399) ∧ (p1.toInt = -100 ∨ (-50 ≤ p1.toInt ∧ p1.toInt ≤ 50))) ∧ u = xf0))) (mu_B D (va_A [(xh, .inr (8, G8 xa xtrialRule xdropRule xtoday)), ((xa 0), .inl (E 0, 400, .inl xf0))] sz) (fun (u : (Nat → Int32)) => [(xh, .inr (8, G8 xa xtrialRule xdropRule xtoday)), ((xa 0), .inl (E 0, 400, .inl u))])) (va_A [(xh, .inr (8, G8 xa xtrialRule xdropRule xtoday)), ((xa 0), .inl (E 0, 400, .inl xf0))] sz)) 0 0 (va_A [(xh, .inr (8, G8 xa xtrialRule xdropRule xtoday)), ((xa 0), .inl (E 0, 400, .inl xf0))] sz) := by
  refine Met.ofW (cc := cX8_warmth) (maxL := 3) (ret := (some .int)) (by decide) rfl ?_
  intro p e s m args below meth c s₁ B hml hv
  obtain ⟨rfl, hsz, hP, hK, hD0⟩ := hv
  have hx := B.exec; have hb := B.bytes; have hr := B.returns
  have hts := atoms_spec (ws := wl yX8_warmth cX8_warmth 3 (some .int)) B.pre
  have htb : ∀ w ∈ tb, w.before _ s = true := fun w h => hts w (List.mem_cons_of_mem _ h)
  have hown : s.vm.findClass RX8 = some m.cls := findClass_of_methodNamed B.named
  have hlocks := B.notSynchronized
  subst hsz
  have hD := hD0.self (sz := s.heap.size)
  generalize hAe : va_A [(xh, .inr (8, G8 xa xtrialRule xdropRule xtoday)), ((xa 0), .inl (E 0, 400, .inl xf0))] s.heap.size = A at hD ⊢
  have hA : ∀ q : Nat, s.heap.size ≤ q → A q := fun q h => by rw [← hAe]; exact Or.inr h
  have hS : va_S A s.heap s.heap [] := va_S.rf
  have hP : va_P D vwCl [(xh, .inr (8, G8 xa xtrialRule xdropRule xtoday)), ((xa 0), .inl (E 0, 400, .inl xf0))] s.heap := hP
  have hl := lv_entry ([.ref xh, .int p0, .int p1]) (n := 3) (Nat.le_of_ble_eq_true rfl)
  rw [lg_entry_eq]
  generalize (lg_sl ([.ref xh, .int p0, .int p1]) ++ List.replicate (3 - (lg_sl ([.ref xh, .int p0, .int p1])).length) Slot.unset).toArray = ls at hl ⊢
  have hl : lv_has ls 3 [(0, .ref xh), (1, .int p0), (2, .int p1)] := hl
  have lo_p0 := i_lo p0; have hi_p0 := i_hi p0
  have lo_p1 := i_lo p1; have hi_p1 := i_hi p1
  refine lv_iload_n hx hb dX8_warmth_0 rfl (lv_at hl 1 rfl) ?_
  refine callRS (rest := []) (As := [.int p0]) hx hb hml hown htb hK (g_X8_isDay l D E p0 ) ok_X8_isDay k_323 k_324 k_1 k_325 ⟨(Nat.le_of_ble_eq_true rfl), (Nat.le_of_ble_eq_true rfl)⟩ ⟨(Nat.le_of_ble_eq_true rfl), (Nat.le_of_ble_eq_true rfl)⟩ hl.1 (Nat.le_of_ble_eq_true rfl) rfl rfl dX8_warmth_1 (hP.sub (ws' := ([] : va_W)) [] rfl) (fun r_1 hw_2 => ?_)
  rcases hw_2 with ⟨hr_1, hw_2⟩ | ⟨hr_1, hw_2⟩
  ·
    refine W_top (y := .int 1) (by rw [hr_1]) ?_
    refine lv_if_eq (tgt := 22) hx hb dX8_warmth_4 (by decide) (fun c_4 => absurd c_4 (by decide)) (fun c_4 => ?_)
    refine lv_iload_n hx hb dX8_warmth_7 rfl (lv_at hl 2 rfl) ?_
    refine lv_bipush (v := (-100)) hx hb dX8_warmth_8 (by decide) ?_
    refine lv_icmp_eq (tgt := 24) hx hb dX8_warmth_10 (by decide) (fun c_5 => ?_) (fun c_5 => ?_)
    ·
      have ic_5 : p1.toInt = -100 := (g_eq rfl t_m100).mp c_5
      clear c_5
      refine lv_aload_n hx hb dX8_warmth_24 rfl (lv_at hl 0 rfl) ?_
      refine va_get (D := D) (ci := 8) (v := .ref (xa 0)) (C := RX8) (T := TX8) (N := 14) hx hb htb iX8 hown hK.1 hP 0 rfl rfl 0 (by decide) (htb _ k_272) (fun _ h9 => h9) rfl dX8_warmth_25 ?_
      refine lv_iload_n hx hb dX8_warmth_28 rfl (lv_at hl 1 rfl) ?_
      refine lv_iload_n hx hb dX8_warmth_29 rfl (lv_at hl 2 rfl) ?_
      refine va_iast hx hb hK.1 hP hD hS 1 0 rfl rfl (g_in rfl (by omega) (by omega)) dX8_warmth_30 (fun H locs hP hD hS => ?_)
      have hP : va_P D vwCl [(xh, .inr (8, G8 xa xtrialRule xdropRule xtoday)), ((xa 0), .inl (E 0, 400, .inl (upd xf0 (p0 : Int32).toNatClampNeg p1)))] H := hP
      have hD := toW hP hD rfl
      refine lv_iconst (v := 1) hx hb dX8_warmth_31 (by decide) ?_
      have hP9 := hP.sub (ws' := [(xh, .inr (8, G8 xa xtrialRule xdropRule xtoday)), ((xa 0), .inl (E 0, 400, .inl (upd xf0 (p0 : Int32).toNatClampNeg p1)))]) [0, 1] rfl
      have hD9 := hD.sub (ws' := [(xh, .inr (8, G8 xa xtrialRule xdropRule xtoday)), ((xa 0), .inl (E 0, 400, .inl (upd xf0 (p0 : Int32).toNatClampNeg p1)))]) [0, 1] (by decide) rfl
      exact W.iret (v := 1) hx hb hr (fun t ht hW => ⟨⟨1, (upd xf0 (p0 : Int32).toNatClampNeg p1), rfl, (by have hl0 := t_1; (try dsimp only); first | exact Or.inl ⟨by omega, by omega, rfl⟩), by rw [ht]; exact hP9, hD9⟩, hS.F ht⟩) hS.2.2 dX8_warmth_32
    ·
      have ic_5 : p1.toInt ≠ -100 := mt (g_eq rfl t_m100).mpr c_5
      clear c_5
      refine lv_iload_n hx hb dX8_warmth_13 rfl (lv_at hl 2 rfl) ?_
      refine lv_bipush (v := 50) hx hb dX8_warmth_14 (by decide) ?_
      refine callRS (rest := []) (As := [.int p1, .int 50]) hx hb hml hown htb hK (g_X8_isWithin l D E p1 50 (by decide)) ok_X8_isWithin k_326 k_327 k_1 k_328 ⟨(Nat.le_of_ble_eq_true rfl), (Nat.le_of_ble_eq_true rfl)⟩ ⟨(Nat.le_of_ble_eq_true rfl), (Nat.le_of_ble_eq_true rfl)⟩ hl.1 (Nat.le_of_ble_eq_true rfl) rfl rfl dX8_warmth_16 (hP.sub (ws' := ([] : va_W)) [] rfl) (fun r_6 hw_7 => ?_)
      try simp only [t_50] at hw_7
      rcases hw_7 with ⟨hr_6, hw_7⟩ | ⟨hr_6, hw_7⟩
      ·
        try simp only [t_50] at hw_7
        refine W_top (y := .int 1) (by rw [hr_6]) ?_
        refine lv_if_ne (tgt := 24) hx hb dX8_warmth_19 (by decide) (fun c_9 => ?_) (fun c_9 => absurd c_9 (by decide))
        refine lv_aload_n hx hb dX8_warmth_24 rfl (lv_at hl 0 rfl) ?_
        refine va_get (D := D) (ci := 8) (v := .ref (xa 0)) (C := RX8) (T := TX8) (N := 14) hx hb htb iX8 hown hK.1 hP 0 rfl rfl 0 (by decide) (htb _ k_272) (fun _ h9 => h9) rfl dX8_warmth_25 ?_
        refine lv_iload_n hx hb dX8_warmth_28 rfl (lv_at hl 1 rfl) ?_
        refine lv_iload_n hx hb dX8_warmth_29 rfl (lv_at hl 2 rfl) ?_
        refine va_iast hx hb hK.1 hP hD hS 1 0 rfl rfl (g_in rfl (by omega) (by omega)) dX8_warmth_30 (fun H locs hP hD hS => ?_)
        have hP : va_P D vwCl [(xh, .inr (8, G8 xa xtrialRule xdropRule xtoday)), ((xa 0), .inl (E 0, 400, .inl (upd xf0 (p0 : Int32).toNatClampNeg p1)))] H := hP
        have hD := toW hP hD rfl
        refine lv_iconst (v := 1) hx hb dX8_warmth_31 (by decide) ?_
        have hP9 := hP.sub (ws' := [(xh, .inr (8, G8 xa xtrialRule xdropRule xtoday)), ((xa 0), .inl (E 0, 400, .inl (upd xf0 (p0 : Int32).toNatClampNeg p1)))]) [0, 1] rfl
        have hD9 := hD.sub (ws' := [(xh, .inr (8, G8 xa xtrialRule xdropRule xtoday)), ((xa 0), .inl (E 0, 400, .inl (upd xf0 (p0 : Int32).toNatClampNeg p1)))]) [0, 1] (by decide) rfl
        exact W.iret (v := 1) hx hb hr (fun t ht hW => ⟨⟨1, (upd xf0 (p0 : Int32).toNatClampNeg p1), rfl, (by have hl0 := t_1; (try dsimp only); first | exact Or.inl ⟨by omega, by omega, rfl⟩), by rw [ht]; exact hP9, hD9⟩, hS.F ht⟩) hS.2.2 dX8_warmth_32
      ·
        try simp only [t_50] at hw_7
        refine W_top (y := .int 0) (by rw [hr_6]) ?_
        refine lv_if_ne (tgt := 24) hx hb dX8_warmth_19 (by decide) (fun c_10 => absurd (by decide) c_10) (fun c_10 => ?_)
        refine lv_iconst (v := (-1)) hx hb dX8_warmth_22 (by decide) ?_
        have hP9 := hP.sub (ws' := [(xh, .inr (8, G8 xa xtrialRule xdropRule xtoday)), ((xa 0), .inl (E 0, 400, .inl xf0))]) [0, 1] rfl
        have hD9 := hD.sub (ws' := [(xh, .inr (8, G8 xa xtrialRule xdropRule xtoday)), ((xa 0), .inl (E 0, 400, .inl xf0))]) [0, 1] (by decide) rfl
        exact W.iret (v := (-1)) hx hb hr (fun t ht hW => ⟨⟨(-1), xf0, rfl, (by have hl0 := t_m1; (try dsimp only); first | exact Or.inr ⟨by omega, by omega, rfl⟩), by rw [ht]; exact hP9, hD9⟩, hS.F ht⟩) hS.2.2 dX8_warmth_23
  ·
    refine W_top (y := .int 0) (by rw [hr_1]) ?_
    refine lv_if_eq (tgt := 22) hx hb dX8_warmth_4 (by decide) (fun c_11 => ?_) (fun c_11 => absurd (by decide) c_11)
    refine lv_iconst (v := (-1)) hx hb dX8_warmth_22 (by decide) ?_
    have hP9 := hP.sub (ws' := [(xh, .inr (8, G8 xa xtrialRule xdropRule xtoday)), ((xa 0), .inl (E 0, 400, .inl xf0))]) [0, 1] rfl
    have hD9 := hD.sub (ws' := [(xh, .inr (8, G8 xa xtrialRule xdropRule xtoday)), ((xa 0), .inl (E 0, 400, .inl xf0))]) [0, 1] (by decide) rfl
    exact W.iret (v := (-1)) hx hb hr (fun t ht hW => ⟨⟨(-1), xf0, rfl, (by have hl0 := t_m1; (try dsimp only); first | exact Or.inr ⟨by omega, by omega, rfl⟩), by rw [ht]; exact hP9, hD9⟩, hS.F ht⟩) hS.2.2 dX8_warmth_23
set_option maxHeartbeats 4000000 in
set_option maxRecDepth 100000 in
theorem g_X8_holds (l : Launch) (D : va_G) (E : Nat → Nat) (xh : Nat) (xa : Nat → Nat) (xtrialRule : Nat) (xdropRule : Nat) (xtoday : Int32) (xf1 : Nat → Int32) (p0 : Int32) (hi_x : (0 ≤ xtoday.toInt ∧ xtoday.toInt ≤ 399)) : Met l yX8_holds (wl yX8_holds cX8_holds 2 (some .int)) (RM 1 0 0) (rd_P D E [.ref xh, .int p0] [(xh, .inr (8, G8 xa xtrialRule xdropRule xtoday)), ((xa 1), .inl (E 0, 16, .inl xf1))]) (rd_Q (fun r => (((0 ≤ p0.toInt ∧ p0.toInt ≤ 15) ∧ r = xf1 (p0).toNatClampNeg) ∨ (¬ (0 ≤ p0.toInt ∧ p0.toInt ≤ 15) ∧ r.toInt = -1)))) 0 0 (fun _ => False) := by
  refine Met.ofW (cc := cX8_holds) (maxL := 2) (ret := (some .int)) (by decide) rfl ?_
  intro p e s m args below meth c s₁ B hml hv
  obtain ⟨rfl, hP, hK⟩ := hv
  have hx := B.exec; have hb := B.bytes; have hr := B.returns
  have hts := atoms_spec (ws := wl yX8_holds cX8_holds 2 (some .int)) B.pre
  have htb : ∀ w ∈ tb, w.before _ s = true := fun w h => hts w (List.mem_cons_of_mem _ h)
  have hown : s.vm.findClass RX8 = some m.cls := findClass_of_methodNamed B.named
  have hlocks := B.notSynchronized
  have hP : va_P D vwCl [(xh, .inr (8, G8 xa xtrialRule xdropRule xtoday)), ((xa 1), .inl (E 0, 16, .inl xf1))] s.heap := hP
  have hl := lv_entry ([.ref xh, .int p0]) (n := 2) (Nat.le_of_ble_eq_true rfl)
  rw [lg_entry_eq]
  generalize (lg_sl ([.ref xh, .int p0]) ++ List.replicate (2 - (lg_sl ([.ref xh, .int p0])).length) Slot.unset).toArray = ls at hl ⊢
  have hl : lv_has ls 2 [(0, .ref xh), (1, .int p0)] := hl
  have lo_p0 := i_lo p0; have hi_p0 := i_hi p0
  refine lv_iload_n hx hb dX8_holds_0 rfl (lv_at hl 1 rfl) ?_
  refine callRS (rest := []) (As := [.int p0]) hx hb hml hown htb hK (g_X8_isPlace l D E p0 ) ok_X8_isPlace k_333 k_334 k_1 k_335 ⟨(Nat.le_of_ble_eq_true rfl), (Nat.le_of_ble_eq_true rfl)⟩ ⟨(Nat.le_of_ble_eq_true rfl), (Nat.le_of_ble_eq_true rfl)⟩ hl.1 (Nat.le_of_ble_eq_true rfl) rfl rfl dX8_holds_1 (hP.sub (ws' := ([] : va_W)) [] rfl) (fun r_1 hw_2 => ?_)
  rcases hw_2 with ⟨hr_1, hw_2⟩ | ⟨hr_1, hw_2⟩
  ·
    refine W_top (y := .int 1) (by rw [hr_1]) ?_
    refine lv_if_eq (tgt := 16) hx hb dX8_holds_4 (by decide) (fun c_4 => absurd c_4 (by decide)) (fun c_4 => ?_)
    refine lv_aload_n hx hb dX8_holds_7 rfl (lv_at hl 0 rfl) ?_
    refine va_get (D := D) (ci := 8) (v := .ref (xa 1)) (C := RX8) (T := TX8) (N := 14) hx hb htb iX8 hown hK.1 hP 0 rfl rfl 1 (by decide) (htb _ k_273) (fun _ h9 => h9) rfl dX8_holds_8 ?_
    refine lv_iload_n hx hb dX8_holds_11 rfl (lv_at hl 1 rfl) ?_
    refine va_iald hx hb hK.1 hP 1 0 rfl rfl (g_in rfl (by omega) (by omega)) dX8_holds_12 ?_
    refine lv_topi (fun z_5 ez_5 => ?_)
    have kz_5 := congrArg Int32.toInt ez_5
    refine lv_goto (tgt := 17) hx hb dX8_holds_13 (by decide) ?_
    exact W.iret (v := z_5) hx hb hr (fun t ht hW => ⟨z_5, rfl, (by (try dsimp only); first | exact Or.inl ⟨by omega, by subst_vars; rfl⟩ | exact Or.inr ⟨by omega, by omega⟩), ht⟩) (fun q h => by cases h) dX8_holds_17
  ·
    refine W_top (y := .int 0) (by rw [hr_1]) ?_
    refine lv_if_eq (tgt := 16) hx hb dX8_holds_4 (by decide) (fun c_6 => ?_) (fun c_6 => absurd (by decide) c_6)
    refine lv_iconst (v := (-1)) hx hb dX8_holds_16 (by decide) ?_
    exact W.iret (v := (-1)) hx hb hr (fun t ht hW => ⟨(-1), rfl, (by have hl0 := t_m1; (try dsimp only); first | exact Or.inl ⟨by omega, by subst_vars; rfl⟩ | exact Or.inr ⟨by omega, by omega⟩), ht⟩) (fun q h => by cases h) dX8_holds_17
set_option maxHeartbeats 4000000 in
set_option maxRecDepth 100000 in
theorem g_X8_read (l : Launch) (D : va_G) (E : Nat → Nat) (xh : Nat) (xa : Nat → Nat) (xtrialRule : Nat) (xdropRule : Nat) (xtoday : Int32) (xf1 : Nat → Int32) (xf2 : Nat → Int32) (p0 : Int32) (hi_x : (0 ≤ xtoday.toInt ∧ xtoday.toInt ≤ 399)) : Met l yX8_read (wl yX8_read cX8_read 2 (some .int)) (RM 1 0 0) (rd_P D E [.ref xh, .int p0] [(xh, .inr (8, G8 xa xtrialRule xdropRule xtoday)), ((xa 1), .inl (E 0, 16, .inl xf1)), ((xa 2), .inl (E 0, 16, .inl xf2))]) (rd_Q (fun r => ((((0 ≤ p0.toInt ∧ p0.toInt ≤ 15) ∧ ((xf1 (p0).toNatClampNeg).toInt = 1 ∨ (xf1 (p0).toNatClampNeg).toInt = 2)) ∧ r = xf2 (p0).toNatClampNeg) ∨ (¬ ((0 ≤ p0.toInt ∧ p0.toInt ≤ 15) ∧ ((xf1 (p0).toNatClampNeg).toInt = 1 ∨ (xf1 (p0).toNatClampNeg).toInt = 2)) ∧ r.toInt = -2000000000)))) 0 0 (fun _ => False) := by
  refine Met.ofW (cc := cX8_read) (maxL := 2) (ret := (some .int)) (by decide) rfl ?_
  intro p e s m args below meth c s₁ B hml hv
  obtain ⟨rfl, hP, hK⟩ := hv
  have hx := B.exec; have hb := B.bytes; have hr := B.returns
  have hts := atoms_spec (ws := wl yX8_read cX8_read 2 (some .int)) B.pre
  have htb : ∀ w ∈ tb, w.before _ s = true := fun w h => hts w (List.mem_cons_of_mem _ h)
  have hown : s.vm.findClass RX8 = some m.cls := findClass_of_methodNamed B.named
  have hlocks := B.notSynchronized
  have hP : va_P D vwCl [(xh, .inr (8, G8 xa xtrialRule xdropRule xtoday)), ((xa 1), .inl (E 0, 16, .inl xf1)), ((xa 2), .inl (E 0, 16, .inl xf2))] s.heap := hP
  have hl := lv_entry ([.ref xh, .int p0]) (n := 2) (Nat.le_of_ble_eq_true rfl)
  rw [lg_entry_eq]
  generalize (lg_sl ([.ref xh, .int p0]) ++ List.replicate (2 - (lg_sl ([.ref xh, .int p0])).length) Slot.unset).toArray = ls at hl ⊢
  have hl : lv_has ls 2 [(0, .ref xh), (1, .int p0)] := hl
  have lo_p0 := i_lo p0; have hi_p0 := i_hi p0
  refine lv_iload_n hx hb dX8_read_0 rfl (lv_at hl 1 rfl) ?_
  refine callRS (rest := []) (As := [.int p0]) hx hb hml hown htb hK (g_X8_isPlace l D E p0 ) ok_X8_isPlace k_333 k_334 k_1 k_335 ⟨(Nat.le_of_ble_eq_true rfl), (Nat.le_of_ble_eq_true rfl)⟩ ⟨(Nat.le_of_ble_eq_true rfl), (Nat.le_of_ble_eq_true rfl)⟩ hl.1 (Nat.le_of_ble_eq_true rfl) rfl rfl dX8_read_1 (hP.sub (ws' := ([] : va_W)) [] rfl) (fun r_1 hw_2 => ?_)
  rcases hw_2 with ⟨hr_1, hw_2⟩ | ⟨hr_1, hw_2⟩
  ·
    refine W_top (y := .int 1) (by rw [hr_1]) ?_
    refine lv_if_eq (tgt := 27) hx hb dX8_read_4 (by decide) (fun c_4 => absurd c_4 (by decide)) (fun c_4 => ?_)
    refine lv_aload_n hx hb dX8_read_7 rfl (lv_at hl 0 rfl) ?_
    refine va_get (D := D) (ci := 8) (v := .ref (xa 1)) (C := RX8) (T := TX8) (N := 14) hx hb htb iX8 hown hK.1 hP 0 rfl rfl 1 (by decide) (htb _ k_273) (fun _ h9 => h9) rfl dX8_read_8 ?_
    refine lv_iload_n hx hb dX8_read_11 rfl (lv_at hl 1 rfl) ?_
    refine va_iald hx hb hK.1 hP 1 0 rfl rfl (g_in rfl (by omega) (by omega)) dX8_read_12 ?_
    refine lv_topi (fun z_5 ez_5 => ?_)
    have kz_5 := congrArg Int32.toInt ez_5
    refine lv_iconst (v := 1) hx hb dX8_read_13 (by decide) ?_
    refine lv_icmp_eq (tgt := 30) hx hb dX8_read_14 (by decide) (fun c_6 => ?_) (fun c_6 => ?_)
    ·
      have ic_6 : z_5.toInt = 1 := (g_eq rfl t_1).mp c_6
      clear c_6
      refine lv_aload_n hx hb dX8_read_30 rfl (lv_at hl 0 rfl) ?_
      refine va_get (D := D) (ci := 8) (v := .ref (xa 2)) (C := RX8) (T := TX8) (N := 14) hx hb htb iX8 hown hK.1 hP 0 rfl rfl 2 (by decide) (htb _ k_274) (fun _ h9 => h9) rfl dX8_read_31 ?_
      refine lv_iload_n hx hb dX8_read_34 rfl (lv_at hl 1 rfl) ?_
      refine va_iald hx hb hK.1 hP 2 0 rfl rfl (g_in rfl (by omega) (by omega)) dX8_read_35 ?_
      refine lv_topi (fun z_7 ez_7 => ?_)
      have kz_7 := congrArg Int32.toInt ez_7
      exact W.iret (v := z_7) hx hb hr (fun t ht hW => ⟨z_7, rfl, (by (try dsimp only); first | exact Or.inl ⟨by omega, by subst_vars; rfl⟩ | exact Or.inr ⟨by omega, by omega⟩), ht⟩) (fun q h => by cases h) dX8_read_36
    ·
      have ic_6 : z_5.toInt ≠ 1 := mt (g_eq rfl t_1).mpr c_6
      clear c_6
      refine lv_aload_n hx hb dX8_read_17 rfl (lv_at hl 0 rfl) ?_
      refine va_get (D := D) (ci := 8) (v := .ref (xa 1)) (C := RX8) (T := TX8) (N := 14) hx hb htb iX8 hown hK.1 hP 0 rfl rfl 1 (by decide) (htb _ k_273) (fun _ h9 => h9) rfl dX8_read_18 ?_
      refine lv_iload_n hx hb dX8_read_21 rfl (lv_at hl 1 rfl) ?_
      refine va_iald hx hb hK.1 hP 1 0 rfl rfl (g_in rfl (by omega) (by omega)) dX8_read_22 ?_
      refine lv_topi (fun z_8 ez_8 => ?_)
      have kz_8 := congrArg Int32.toInt ez_8
      refine lv_iconst (v := 2) hx hb dX8_read_23 (by decide) ?_
      refine lv_icmp_eq (tgt := 30) hx hb dX8_read_24 (by decide) (fun c_9 => ?_) (fun c_9 => ?_)
      ·
        have ic_9 : z_8.toInt = 2 := (g_eq rfl t_2).mp c_9
        clear c_9
        refine lv_aload_n hx hb dX8_read_30 rfl (lv_at hl 0 rfl) ?_
        refine va_get (D := D) (ci := 8) (v := .ref (xa 2)) (C := RX8) (T := TX8) (N := 14) hx hb htb iX8 hown hK.1 hP 0 rfl rfl 2 (by decide) (htb _ k_274) (fun _ h9 => h9) rfl dX8_read_31 ?_
        refine lv_iload_n hx hb dX8_read_34 rfl (lv_at hl 1 rfl) ?_
        refine va_iald hx hb hK.1 hP 2 0 rfl rfl (g_in rfl (by omega) (by omega)) dX8_read_35 ?_
        refine lv_topi (fun z_10 ez_10 => ?_)
        have kz_10 := congrArg Int32.toInt ez_10
        exact W.iret (v := z_10) hx hb hr (fun t ht hW => ⟨z_10, rfl, (by (try dsimp only); first | exact Or.inl ⟨by omega, by subst_vars; rfl⟩ | exact Or.inr ⟨by omega, by omega⟩), ht⟩) (fun q h => by cases h) dX8_read_36
      ·
        have ic_9 : z_8.toInt ≠ 2 := mt (g_eq rfl t_2).mpr c_9
        clear c_9
        refine lv_ldc hx hb hown (htb _ k_386) dX8_read_27 ?_
        exact W.iret (v := (-2000000000)) hx hb hr (fun t ht hW => ⟨(-2000000000), rfl, (by have hl0 := t_m2000000000; (try dsimp only); first | exact Or.inl ⟨by omega, by subst_vars; rfl⟩ | exact Or.inr ⟨by omega, by omega⟩), ht⟩) (fun q h => by cases h) dX8_read_29
  ·
    refine W_top (y := .int 0) (by rw [hr_1]) ?_
    refine lv_if_eq (tgt := 27) hx hb dX8_read_4 (by decide) (fun c_11 => ?_) (fun c_11 => absurd (by decide) c_11)
    refine lv_ldc hx hb hown (htb _ k_386) dX8_read_27 ?_
    exact W.iret (v := (-2000000000)) hx hb hr (fun t ht hW => ⟨(-2000000000), rfl, (by have hl0 := t_m2000000000; (try dsimp only); first | exact Or.inl ⟨by omega, by subst_vars; rfl⟩ | exact Or.inr ⟨by omega, by omega⟩), ht⟩) (fun q h => by cases h) dX8_read_29
set_option maxHeartbeats 4000000 in
set_option maxRecDepth 100000 in
theorem g_X8_off (l : Launch) (D : va_G) (E : Nat → Nat) (xh : Nat) (xa : Nat → Nat) (xtrialRule : Nat) (xdropRule : Nat) (xtoday : Int32) (oa : Nat → Nat) (osize : Int32) (of0 : Nat → Int32) (of1 : Nat → Int32) (of2 : Nat → Int32) (of3 : Nat → Int32) (of4 : Nat → Int32) (p0 : Int32) (p1 : Int32) (p2 : Int32) (p3 : Int32) (sz : Nat) (hi_x : (0 ≤ xtoday.toInt ∧ xtoday.toInt ≤ 399)) (hi_o : (0 ≤ osize.toInt ∧ osize.toInt ≤ 60)) : Met l yX8_off (wl yX8_off cX8_off 5 (some .int)) (RM 1 0 0) (mu_P D E [.ref xh, .int p0, .int p1, .int p2, .int p3] [(xh, .inr (8, G8 xa xtrialRule xdropRule xtoday)), ((xa 6), .inr (2, G2 oa osize)), ((oa 0), .inl (E 0, 60, .inl of0)), ((oa 1), .inl (E 0, 60, .inl of1)), ((oa 2), .inl (E 0, 60, .inl of2)), ((oa 3), .inl (E 0, 60, .inl of3)), ((oa 4), .inl (E 0, 60, .inl of4))] sz) (va_Qi (fun (r : Int32) (u : (Nat → Int32) × (Nat → Int32) × (Nat → Int32) × (Nat → Int32) × (Nat → Int32) × (Int32)) => (0 ≤ u.2.2.2.2.2.toInt ∧ u.2.2.2.2.2.toInt ≤ 60) ∧ ((¬ ((1 ≤ p0.toInt ∧ p0.toInt ≤ 5) ∧ (0 ≤ p1.toInt ∧ p1.toInt ≤ 399) ∧ (0 ≤ p2.toInt ∧ p2.toInt ≤ 399) ∧ p1.toInt ≤ p2.toInt ∧ (-10000 ≤ p3.toInt ∧ p3.toInt ≤ 10000)) ∧ r.toInt = -1 ∧ u.2.2.2.2.2.toInt = osize.toInt ∧ u.1 = of0 ∧ u.2.1 = of1 ∧ u.2.2.1 = of2 ∧ u.2.2.2.1 = of3 ∧ u.2.2.2.2.1 = of4) ∨ (((1 ≤ p0.toInt ∧ p0.toInt ≤ 5) ∧ (0 ≤ p1.toInt ∧ p1.toInt ≤ 399) ∧ (0 ≤ p2.toInt ∧ p2.toInt ≤ 399) ∧ p1.toInt ≤ p2.toInt ∧ (-10000 ≤ p3.toInt ∧ p3.toInt ≤ 10000)) ∧ osize.toInt = 60 ∧ r.toInt = -5 ∧ u.2.2.2.2.2.toInt = osize.toInt ∧ u.1 = of0 ∧ u.2.1 = of1 ∧ u.2.2.1 = of2 ∧ u.2.2.2.1 = of3 ∧ u.2.2.2.2.1 = of4) ∨ (((1 ≤ p0.toInt ∧ p0.toInt ≤ 5) ∧ (0 ≤ p1.toInt ∧ p1.toInt ≤ 399) ∧ (0 ≤ p2.toInt ∧ p2.toInt ≤ 399) ∧ p1.toInt ≤ p2.toInt ∧ (-10000 ≤ p3.toInt ∧ p3.toInt ≤ 10000)) ∧ osize.toInt < 60 ∧ r.toInt = osize.toInt + 1 ∧ u.2.2.2.2.2.toInt = r.toInt ∧ u.1 = upd of0 (osize).toNatClampNeg p0 ∧ u.2.1 = upd of1 (osize).toNatClampNeg p1 ∧ u.2.2.1 = upd of2 (osize).toNatClampNeg p2 ∧ u.2.2.2.1 = upd of3 (osize).toNatClampNeg p3 ∧ u.2.2.2.2.1 = upd of4 (osize).toNatClampNeg xtoday))) (mu_B D (va_A [(xh, .inr (8, G8 xa xtrialRule xdropRule xtoday)), ((xa 6), .inr (2, G2 oa osize)), ((oa 0), .inl (E 0, 60, .inl of0)), ((oa 1), .inl (E 0, 60, .inl of1)), ((oa 2), .inl (E 0, 60, .inl of2)), ((oa 3), .inl (E 0, 60, .inl of3)), ((oa 4), .inl (E 0, 60, .inl of4))] sz) (fun (u : (Nat → Int32) × (Nat → Int32) × (Nat → Int32) × (Nat → Int32) × (Nat → Int32) × (Int32)) => [(xh, .inr (8, G8 xa xtrialRule xdropRule xtoday)), ((xa 6), .inr (2, G2 oa u.2.2.2.2.2)), ((oa 0), .inl (E 0, 60, .inl u.1)), ((oa 1), .inl (E 0, 60, .inl u.2.1)), ((oa 2), .inl (E 0, 60, .inl u.2.2.1)), ((oa 3), .inl (E 0, 60, .inl u.2.2.2.1)), ((oa 4), .inl (E 0, 60, .inl u.2.2.2.2.1))])) (va_A [(xh, .inr (8, G8 xa xtrialRule xdropRule xtoday)), ((xa 6), .inr (2, G2 oa osize)), ((oa 0), .inl (E 0, 60, .inl of0)), ((oa 1), .inl (E 0, 60, .inl of1)), ((oa 2), .inl (E 0, 60, .inl of2)), ((oa 3), .inl (E 0, 60, .inl of3)), ((oa 4), .inl (E 0, 60, .inl of4))] sz)) 0 0 (va_A [(xh, .inr (8, G8 xa xtrialRule xdropRule xtoday)), ((xa 6), .inr (2, G2 oa osize)), ((oa 0), .inl (E 0, 60, .inl of0)), ((oa 1), .inl (E 0, 60, .inl of1)), ((oa 2), .inl (E 0, 60, .inl of2)), ((oa 3), .inl (E 0, 60, .inl of3)), ((oa 4), .inl (E 0, 60, .inl of4))] sz) := by
  refine Met.ofW (cc := cX8_off) (maxL := 5) (ret := (some .int)) (by decide) rfl ?_
  intro p e s m args below meth c s₁ B hml hv
  obtain ⟨rfl, hsz, hP, hK, hD0⟩ := hv
  have hx := B.exec; have hb := B.bytes; have hr := B.returns
  have hts := atoms_spec (ws := wl yX8_off cX8_off 5 (some .int)) B.pre
  have htb : ∀ w ∈ tb, w.before _ s = true := fun w h => hts w (List.mem_cons_of_mem _ h)
  have hown : s.vm.findClass RX8 = some m.cls := findClass_of_methodNamed B.named
  have hlocks := B.notSynchronized
  subst hsz
  have hD := hD0.self (sz := s.heap.size)
  generalize hAe : va_A [(xh, .inr (8, G8 xa xtrialRule xdropRule xtoday)), ((xa 6), .inr (2, G2 oa osize)), ((oa 0), .inl (E 0, 60, .inl of0)), ((oa 1), .inl (E 0, 60, .inl of1)), ((oa 2), .inl (E 0, 60, .inl of2)), ((oa 3), .inl (E 0, 60, .inl of3)), ((oa 4), .inl (E 0, 60, .inl of4))] s.heap.size = A at hD ⊢
  have hA : ∀ q : Nat, s.heap.size ≤ q → A q := fun q h => by rw [← hAe]; exact Or.inr h
  have hS : va_S A s.heap s.heap [] := va_S.rf
  have hP : va_P D vwCl [(xh, .inr (8, G8 xa xtrialRule xdropRule xtoday)), ((xa 6), .inr (2, G2 oa osize)), ((oa 0), .inl (E 0, 60, .inl of0)), ((oa 1), .inl (E 0, 60, .inl of1)), ((oa 2), .inl (E 0, 60, .inl of2)), ((oa 3), .inl (E 0, 60, .inl of3)), ((oa 4), .inl (E 0, 60, .inl of4))] s.heap := hP
  have hl := lv_entry ([.ref xh, .int p0, .int p1, .int p2, .int p3]) (n := 5) (Nat.le_of_ble_eq_true rfl)
  rw [lg_entry_eq]
  generalize (lg_sl ([.ref xh, .int p0, .int p1, .int p2, .int p3]) ++ List.replicate (5 - (lg_sl ([.ref xh, .int p0, .int p1, .int p2, .int p3])).length) Slot.unset).toArray = ls at hl ⊢
  have hl : lv_has ls 5 [(0, .ref xh), (1, .int p0), (2, .int p1), (3, .int p2), (4, .int p3)] := hl
  have lo_p0 := i_lo p0; have hi_p0 := i_hi p0
  have lo_p1 := i_lo p1; have hi_p1 := i_hi p1
  have lo_p2 := i_lo p2; have hi_p2 := i_hi p2
  have lo_p3 := i_lo p3; have hi_p3 := i_hi p3
  refine lv_iload_n hx hb dX8_off_0 rfl (lv_at hl 1 rfl) ?_
  refine lv_iconst (v := 1) hx hb dX8_off_1 (by decide) ?_
  refine lv_icmp_lt (tgt := 41) hx hb dX8_off_2 (by decide) (fun c_1 => ?_) (fun c_1 => ?_)
  ·
    have ic_1 : p0.toInt < 1 := by first | exact (g_lt rfl t_1).mp c_1 | (have h := mt (g_le t_1 rfl).mpr c_1; omega)
    clear c_1
    refine lv_iconst (v := (-1)) hx hb dX8_off_41 (by decide) ?_
    have hP9 := hP.sub (ws' := [(xh, .inr (8, G8 xa xtrialRule xdropRule xtoday)), ((xa 6), .inr (2, G2 oa osize)), ((oa 0), .inl (E 0, 60, .inl of0)), ((oa 1), .inl (E 0, 60, .inl of1)), ((oa 2), .inl (E 0, 60, .inl of2)), ((oa 3), .inl (E 0, 60, .inl of3)), ((oa 4), .inl (E 0, 60, .inl of4))]) [0, 1, 2, 3, 4, 5, 6] rfl
    have hD9 := hD.sub (ws' := [(xh, .inr (8, G8 xa xtrialRule xdropRule xtoday)), ((xa 6), .inr (2, G2 oa osize)), ((oa 0), .inl (E 0, 60, .inl of0)), ((oa 1), .inl (E 0, 60, .inl of1)), ((oa 2), .inl (E 0, 60, .inl of2)), ((oa 3), .inl (E 0, 60, .inl of3)), ((oa 4), .inl (E 0, 60, .inl of4))]) [0, 1, 2, 3, 4, 5, 6] (by decide) rfl
    exact W.iret (v := (-1)) hx hb hr (fun t ht hW => ⟨⟨(-1), (of0, of1, of2, of3, of4, osize), rfl, ⟨(by (try dsimp only); omega), (by have hl0 := t_m1; (try dsimp only); first | exact Or.inl ⟨by omega, by omega, by omega, rfl, rfl, rfl, rfl, rfl⟩ | exact Or.inr (Or.inr ⟨by omega, by omega, by omega, by omega, by assumption, by assumption, by assumption, by assumption, by assumption⟩))⟩, by rw [ht]; exact hP9, hD9⟩, hS.F ht⟩) hS.2.2 dX8_off_42
  ·
    have ic_1 : 1 ≤ p0.toInt := by first | exact (g_le t_1 rfl).mp c_1 | (have h := mt (g_lt rfl t_1).mpr c_1; omega)
    clear c_1
    refine lv_iload_n hx hb dX8_off_5 rfl (lv_at hl 1 rfl) ?_
    refine lv_bipush (v := 6) hx hb dX8_off_6 (by decide) ?_
    refine lv_icmp_ge (tgt := 41) hx hb dX8_off_8 (by decide) (fun c_2 => ?_) (fun c_2 => ?_)
    ·
      have ic_2 : 6 ≤ p0.toInt := by first | exact (g_le t_6 rfl).mp c_2 | (have h := mt (g_lt rfl t_6).mpr c_2; omega)
      clear c_2
      refine lv_iconst (v := (-1)) hx hb dX8_off_41 (by decide) ?_
      have hP9 := hP.sub (ws' := [(xh, .inr (8, G8 xa xtrialRule xdropRule xtoday)), ((xa 6), .inr (2, G2 oa osize)), ((oa 0), .inl (E 0, 60, .inl of0)), ((oa 1), .inl (E 0, 60, .inl of1)), ((oa 2), .inl (E 0, 60, .inl of2)), ((oa 3), .inl (E 0, 60, .inl of3)), ((oa 4), .inl (E 0, 60, .inl of4))]) [0, 1, 2, 3, 4, 5, 6] rfl
      have hD9 := hD.sub (ws' := [(xh, .inr (8, G8 xa xtrialRule xdropRule xtoday)), ((xa 6), .inr (2, G2 oa osize)), ((oa 0), .inl (E 0, 60, .inl of0)), ((oa 1), .inl (E 0, 60, .inl of1)), ((oa 2), .inl (E 0, 60, .inl of2)), ((oa 3), .inl (E 0, 60, .inl of3)), ((oa 4), .inl (E 0, 60, .inl of4))]) [0, 1, 2, 3, 4, 5, 6] (by decide) rfl
      exact W.iret (v := (-1)) hx hb hr (fun t ht hW => ⟨⟨(-1), (of0, of1, of2, of3, of4, osize), rfl, ⟨(by (try dsimp only); omega), (by have hl0 := t_m1; (try dsimp only); first | exact Or.inl ⟨by omega, by omega, by omega, rfl, rfl, rfl, rfl, rfl⟩ | exact Or.inr (Or.inr ⟨by omega, by omega, by omega, by omega, by assumption, by assumption, by assumption, by assumption, by assumption⟩))⟩, by rw [ht]; exact hP9, hD9⟩, hS.F ht⟩) hS.2.2 dX8_off_42
    ·
      have ic_2 : p0.toInt < 6 := by first | exact (g_lt rfl t_6).mp c_2 | (have h := mt (g_le t_6 rfl).mpr c_2; omega)
      clear c_2
      refine lv_iload_n hx hb dX8_off_11 rfl (lv_at hl 2 rfl) ?_
      refine callRS (rest := []) (As := [.int p1]) hx hb hml hown htb hK (g_X8_isDay l D E p1 ) ok_X8_isDay k_323 k_324 k_1 k_325 ⟨(Nat.le_of_ble_eq_true rfl), (Nat.le_of_ble_eq_true rfl)⟩ ⟨(Nat.le_of_ble_eq_true rfl), (Nat.le_of_ble_eq_true rfl)⟩ hl.1 (Nat.le_of_ble_eq_true rfl) rfl rfl dX8_off_12 (hP.sub (ws' := ([] : va_W)) [] rfl) (fun r_3 hw_4 => ?_)
      rcases hw_4 with ⟨hr_3, hw_4⟩ | ⟨hr_3, hw_4⟩
      ·
        refine W_top (y := .int 1) (by rw [hr_3]) ?_
        refine lv_if_eq (tgt := 41) hx hb dX8_off_15 (by decide) (fun c_6 => absurd c_6 (by decide)) (fun c_6 => ?_)
        refine lv_iload_n hx hb dX8_off_18 rfl (lv_at hl 3 rfl) ?_
        refine callRS (rest := []) (As := [.int p2]) hx hb hml hown htb hK (g_X8_isDay l D E p2 ) ok_X8_isDay k_323 k_324 k_1 k_325 ⟨(Nat.le_of_ble_eq_true rfl), (Nat.le_of_ble_eq_true rfl)⟩ ⟨(Nat.le_of_ble_eq_true rfl), (Nat.le_of_ble_eq_true rfl)⟩ hl.1 (Nat.le_of_ble_eq_true rfl) rfl rfl dX8_off_19 (hP.sub (ws' := ([] : va_W)) [] rfl) (fun r_7 hw_8 => ?_)
        rcases hw_8 with ⟨hr_7, hw_8⟩ | ⟨hr_7, hw_8⟩
        ·
          refine W_top (y := .int 1) (by rw [hr_7]) ?_
          refine lv_if_eq (tgt := 41) hx hb dX8_off_22 (by decide) (fun c_10 => absurd c_10 (by decide)) (fun c_10 => ?_)
          refine lv_iload_n hx hb dX8_off_25 rfl (lv_at hl 2 rfl) ?_
          refine lv_iload_n hx hb dX8_off_26 rfl (lv_at hl 3 rfl) ?_
          refine lv_icmp_gt (tgt := 41) hx hb dX8_off_27 (by decide) (fun c_11 => ?_) (fun c_11 => ?_)
          ·
            have ic_11 : p2.toInt < p1.toInt := by first | exact (g_lt rfl rfl).mp c_11 | (have h := mt (g_le rfl rfl).mpr c_11; omega)
            clear c_11
            refine lv_iconst (v := (-1)) hx hb dX8_off_41 (by decide) ?_
            have hP9 := hP.sub (ws' := [(xh, .inr (8, G8 xa xtrialRule xdropRule xtoday)), ((xa 6), .inr (2, G2 oa osize)), ((oa 0), .inl (E 0, 60, .inl of0)), ((oa 1), .inl (E 0, 60, .inl of1)), ((oa 2), .inl (E 0, 60, .inl of2)), ((oa 3), .inl (E 0, 60, .inl of3)), ((oa 4), .inl (E 0, 60, .inl of4))]) [0, 1, 2, 3, 4, 5, 6] rfl
            have hD9 := hD.sub (ws' := [(xh, .inr (8, G8 xa xtrialRule xdropRule xtoday)), ((xa 6), .inr (2, G2 oa osize)), ((oa 0), .inl (E 0, 60, .inl of0)), ((oa 1), .inl (E 0, 60, .inl of1)), ((oa 2), .inl (E 0, 60, .inl of2)), ((oa 3), .inl (E 0, 60, .inl of3)), ((oa 4), .inl (E 0, 60, .inl of4))]) [0, 1, 2, 3, 4, 5, 6] (by decide) rfl
            exact W.iret (v := (-1)) hx hb hr (fun t ht hW => ⟨⟨(-1), (of0, of1, of2, of3, of4, osize), rfl, ⟨(by (try dsimp only); omega), (by have hl0 := t_m1; (try dsimp only); first | exact Or.inl ⟨by omega, by omega, by omega, rfl, rfl, rfl, rfl, rfl⟩ | exact Or.inr (Or.inr ⟨by omega, by omega, by omega, by omega, by assumption, by assumption, by assumption, by assumption, by assumption⟩))⟩, by rw [ht]; exact hP9, hD9⟩, hS.F ht⟩) hS.2.2 dX8_off_42
          ·
            have ic_11 : p1.toInt ≤ p2.toInt := by first | exact (g_le rfl rfl).mp c_11 | (have h := mt (g_lt rfl rfl).mpr c_11; omega)
            clear c_11
            refine lv_iload hx hb dX8_off_30 (lv_at hl 4 rfl) ?_
            refine lv_sipush (v := 10000) hx hb dX8_off_32 (by decide) ?_
            refine callRS (rest := []) (As := [.int p3, .int 10000]) hx hb hml hown htb hK (g_X8_isWithin l D E p3 10000 (by decide)) ok_X8_isWithin k_326 k_327 k_1 k_328 ⟨(Nat.le_of_ble_eq_true rfl), (Nat.le_of_ble_eq_true rfl)⟩ ⟨(Nat.le_of_ble_eq_true rfl), (Nat.le_of_ble_eq_true rfl)⟩ hl.1 (Nat.le_of_ble_eq_true rfl) rfl rfl dX8_off_35 (hP.sub (ws' := ([] : va_W)) [] rfl) (fun r_12 hw_13 => ?_)
            try simp only [t_10000] at hw_13
            rcases hw_13 with ⟨hr_12, hw_13⟩ | ⟨hr_12, hw_13⟩
            ·
              try simp only [t_10000] at hw_13
              refine W_top (y := .int 1) (by rw [hr_12]) ?_
              refine lv_if_ne (tgt := 43) hx hb dX8_off_38 (by decide) (fun c_15 => ?_) (fun c_15 => absurd c_15 (by decide))
              refine lv_aload_n hx hb dX8_off_43 rfl (lv_at hl 0 rfl) ?_
              refine va_get (D := D) (ci := 8) (v := .ref (xa 6)) (C := RX8) (T := TX8) (N := 14) hx hb htb iX8 hown hK.1 hP 0 rfl rfl 6 (by decide) (htb _ k_278) (fun _ h9 => h9) rfl dX8_off_44 ?_
              refine va_getN (D := D) (ci := 2) (v := .int osize) (C := RX2) (T := TX2) (N := 6) hx hb htb iX2 hown hK.1 hP 1 rfl rfl 5 (by decide) (va_Nw.use rfl (hK.2.1 (Cond.fieldLinkNest RX8 142 "SeaWatches$Offs" "size" "I" "SeaWatches") (by decide +kernel))) (fun _ h9 => h9) rfl dX8_off_47 ?_
              refine lv_bipush (v := 60) hx hb dX8_off_50 (by decide) ?_
              refine lv_icmp_lt (tgt := 58) hx hb dX8_off_52 (by decide) (fun c_16 => ?_) (fun c_16 => ?_)
              ·
                have ic_16 : osize.toInt < 60 := by first | exact (g_lt rfl t_60).mp c_16 | (have h := mt (g_le t_60 rfl).mpr c_16; omega)
                clear c_16
                refine lv_aload_n hx hb dX8_off_58 rfl (lv_at hl 0 rfl) ?_
                refine va_get (D := D) (ci := 8) (v := .ref (xa 6)) (C := RX8) (T := TX8) (N := 14) hx hb htb iX8 hown hK.1 hP 0 rfl rfl 6 (by decide) (htb _ k_278) (fun _ h9 => h9) rfl dX8_off_59 ?_
                refine lv_iload_n hx hb dX8_off_62 rfl (lv_at hl 1 rfl) ?_
                refine lv_iload_n hx hb dX8_off_63 rfl (lv_at hl 2 rfl) ?_
                refine lv_iload_n hx hb dX8_off_64 rfl (lv_at hl 3 rfl) ?_
                refine lv_iload hx hb dX8_off_65 (lv_at hl 4 rfl) ?_
                refine lv_aload_n hx hb dX8_off_67 rfl (lv_at hl 0 rfl) ?_
                refine va_get (D := D) (ci := 8) (v := .int xtoday) (C := RX8) (T := TX8) (N := 14) hx hb htb iX8 hown hK.1 hP 0 rfl rfl 13 (by decide) (htb _ k_285) (fun _ h9 => h9) rfl dX8_off_68 ?_
                have hPc := hP.sub (ws' := [((xa 6), .inr (2, G2 oa osize)), ((oa 0), .inl (E 0, 60, .inl of0)), ((oa 1), .inl (E 0, 60, .inl of1)), ((oa 2), .inl (E 0, 60, .inl of2)), ((oa 3), .inl (E 0, 60, .inl of3)), ((oa 4), .inl (E 0, 60, .inl of4))]) [1, 2, 3, 4, 5, 6] rfl
                have hDc := hD.sub (ws' := [((xa 6), .inr (2, G2 oa osize)), ((oa 0), .inl (E 0, 60, .inl of0)), ((oa 1), .inl (E 0, 60, .inl of1)), ((oa 2), .inl (E 0, 60, .inl of2)), ((oa 3), .inl (E 0, 60, .inl of3)), ((oa 4), .inl (E 0, 60, .inl of4))]) [1, 2, 3, 4, 5, 6] (by decide) rfl
                refine aft_v (runMV (rest := []) (As := [.int p0, .int p1, .int p2, .int p3, .int xtoday]) hx hb hml hown htb hK (g_X2_add l D E (xa 6) oa osize of0 of1 of2 of3 of4 p0 p1 p2 p3 xtoday _ (by (try dsimp only); omega)) ok_X2_add k_471 k_472 k_473 k_2 k_474 ⟨(Nat.le_of_ble_eq_true rfl), (Nat.le_of_ble_eq_true rfl)⟩ ⟨(Nat.le_of_ble_eq_true rfl), (Nat.le_of_ble_eq_true rfl)⟩ hl.1 (Nat.le_of_ble_eq_true rfl) rfl rfl dX8_off_71 hPc hDc rfl rfl 0 rfl) hP hD hS hA [1, 2, 3, 4, 5, 6] [0] (wr := [(xh, .inr (8, G8 xa xtrialRule xdropRule xtoday))]) rfl rfl (by decide) (by decide) (fun u_19 H locs hw_18 hP hD hS => ?_)
                clear hPc hDc
                obtain ⟨w_20, w_21, w_22, w_23, w_24, w_25⟩ := u_19
                try dsimp only at hw_18
                have hP : va_P D vwCl [(xh, .inr (8, G8 xa xtrialRule xdropRule xtoday)), ((xa 6), .inr (2, G2 oa w_25)), ((oa 0), .inl (E 0, 60, .inl w_20)), ((oa 1), .inl (E 0, 60, .inl w_21)), ((oa 2), .inl (E 0, 60, .inl w_22)), ((oa 3), .inl (E 0, 60, .inl w_23)), ((oa 4), .inl (E 0, 60, .inl w_24))] H := hP
                have hD := toW hP hD rfl
                obtain ⟨hw_18_0, hw_18_1⟩ := hw_18
                have hw_18_1O0 : w_20 = upd of0 (osize).toNatClampNeg p0 := by rcases hw_18_1 with h9 | h9 <;> first | exact h9.2.2.1 | (exfalso; omega)
                have hw_18_1O1 : w_21 = upd of1 (osize).toNatClampNeg p1 := by rcases hw_18_1 with h9 | h9 <;> first | exact h9.2.2.2.1 | (exfalso; omega)
                have hw_18_1O2 : w_22 = upd of2 (osize).toNatClampNeg p2 := by rcases hw_18_1 with h9 | h9 <;> first | exact h9.2.2.2.2.1 | (exfalso; omega)
                have hw_18_1O3 : w_23 = upd of3 (osize).toNatClampNeg p3 := by rcases hw_18_1 with h9 | h9 <;> first | exact h9.2.2.2.2.2.1 | (exfalso; omega)
                have hw_18_1O4 : w_24 = upd of4 (osize).toNatClampNeg xtoday := by rcases hw_18_1 with h9 | h9 <;> first | exact h9.2.2.2.2.2.2 | (exfalso; omega)
                have hw_18_1S : w_25.toInt = osize.toInt + 1 := by rcases hw_18_1 with h9 | h9 <;> first | exact h9.2.1 | (exfalso; omega)
                refine lv_aload_n hx hb dX8_off_74 rfl (lv_at hl 0 rfl) ?_
                refine va_get (D := D) (ci := 8) (v := .ref (xa 6)) (C := RX8) (T := TX8) (N := 14) hx hb htb iX8 hown hK.1 hP 0 rfl rfl 6 (by decide) (htb _ k_278) (fun _ h9 => h9) rfl dX8_off_75 ?_
                refine va_getN (D := D) (ci := 2) (v := .int w_25) (C := RX2) (T := TX2) (N := 6) hx hb htb iX2 hown hK.1 hP 1 rfl rfl 5 (by decide) (va_Nw.use rfl (hK.2.1 (Cond.fieldLinkNest RX8 142 "SeaWatches$Offs" "size" "I" "SeaWatches") (by decide +kernel))) (fun _ h9 => h9) rfl dX8_off_78 ?_
                have hP9 := hP.sub (ws' := [(xh, .inr (8, G8 xa xtrialRule xdropRule xtoday)), ((xa 6), .inr (2, G2 oa w_25)), ((oa 0), .inl (E 0, 60, .inl w_20)), ((oa 1), .inl (E 0, 60, .inl w_21)), ((oa 2), .inl (E 0, 60, .inl w_22)), ((oa 3), .inl (E 0, 60, .inl w_23)), ((oa 4), .inl (E 0, 60, .inl w_24))]) [0, 1, 2, 3, 4, 5, 6] rfl
                have hD9 := hD.sub (ws' := [(xh, .inr (8, G8 xa xtrialRule xdropRule xtoday)), ((xa 6), .inr (2, G2 oa w_25)), ((oa 0), .inl (E 0, 60, .inl w_20)), ((oa 1), .inl (E 0, 60, .inl w_21)), ((oa 2), .inl (E 0, 60, .inl w_22)), ((oa 3), .inl (E 0, 60, .inl w_23)), ((oa 4), .inl (E 0, 60, .inl w_24))]) [0, 1, 2, 3, 4, 5, 6] (by decide) rfl
                exact W.iret (v := w_25) hx hb hr (fun t ht hW => ⟨⟨w_25, (w_20, w_21, w_22, w_23, w_24, w_25), rfl, ⟨(by (try dsimp only); omega), (by (try dsimp only); first | exact Or.inr (Or.inr ⟨by omega, by omega, by omega, by omega, by assumption, by assumption, by assumption, by assumption, by assumption⟩) | exact Or.inl ⟨by omega, by omega, by omega, rfl, rfl, rfl, rfl, rfl⟩ | exact Or.inr (Or.inl ⟨by omega, by omega, by omega, by omega, rfl, rfl, rfl, rfl, rfl⟩))⟩, by rw [ht]; exact hP9, hD9⟩, hS.F ht⟩) hS.2.2 dX8_off_81
              ·
                have ic_16 : 60 ≤ osize.toInt := by first | exact (g_le t_60 rfl).mp c_16 | (have h := mt (g_lt rfl t_60).mpr c_16; omega)
                clear c_16
                refine lv_bipush (v := (-5)) hx hb dX8_off_55 (by decide) ?_
                have hP9 := hP.sub (ws' := [(xh, .inr (8, G8 xa xtrialRule xdropRule xtoday)), ((xa 6), .inr (2, G2 oa osize)), ((oa 0), .inl (E 0, 60, .inl of0)), ((oa 1), .inl (E 0, 60, .inl of1)), ((oa 2), .inl (E 0, 60, .inl of2)), ((oa 3), .inl (E 0, 60, .inl of3)), ((oa 4), .inl (E 0, 60, .inl of4))]) [0, 1, 2, 3, 4, 5, 6] rfl
                have hD9 := hD.sub (ws' := [(xh, .inr (8, G8 xa xtrialRule xdropRule xtoday)), ((xa 6), .inr (2, G2 oa osize)), ((oa 0), .inl (E 0, 60, .inl of0)), ((oa 1), .inl (E 0, 60, .inl of1)), ((oa 2), .inl (E 0, 60, .inl of2)), ((oa 3), .inl (E 0, 60, .inl of3)), ((oa 4), .inl (E 0, 60, .inl of4))]) [0, 1, 2, 3, 4, 5, 6] (by decide) rfl
                exact W.iret (v := (-5)) hx hb hr (fun t ht hW => ⟨⟨(-5), (of0, of1, of2, of3, of4, osize), rfl, ⟨(by (try dsimp only); omega), (by have hl0 := t_m5; (try dsimp only); first | exact Or.inr (Or.inl ⟨by omega, by omega, by omega, by omega, rfl, rfl, rfl, rfl, rfl⟩) | exact Or.inr (Or.inr ⟨by omega, by omega, by omega, by omega, by assumption, by assumption, by assumption, by assumption, by assumption⟩))⟩, by rw [ht]; exact hP9, hD9⟩, hS.F ht⟩) hS.2.2 dX8_off_57
            ·
              try simp only [t_10000] at hw_13
              refine W_top (y := .int 0) (by rw [hr_12]) ?_
              refine lv_if_ne (tgt := 43) hx hb dX8_off_38 (by decide) (fun c_26 => absurd (by decide) c_26) (fun c_26 => ?_)
              refine lv_iconst (v := (-1)) hx hb dX8_off_41 (by decide) ?_
              have hP9 := hP.sub (ws' := [(xh, .inr (8, G8 xa xtrialRule xdropRule xtoday)), ((xa 6), .inr (2, G2 oa osize)), ((oa 0), .inl (E 0, 60, .inl of0)), ((oa 1), .inl (E 0, 60, .inl of1)), ((oa 2), .inl (E 0, 60, .inl of2)), ((oa 3), .inl (E 0, 60, .inl of3)), ((oa 4), .inl (E 0, 60, .inl of4))]) [0, 1, 2, 3, 4, 5, 6] rfl
              have hD9 := hD.sub (ws' := [(xh, .inr (8, G8 xa xtrialRule xdropRule xtoday)), ((xa 6), .inr (2, G2 oa osize)), ((oa 0), .inl (E 0, 60, .inl of0)), ((oa 1), .inl (E 0, 60, .inl of1)), ((oa 2), .inl (E 0, 60, .inl of2)), ((oa 3), .inl (E 0, 60, .inl of3)), ((oa 4), .inl (E 0, 60, .inl of4))]) [0, 1, 2, 3, 4, 5, 6] (by decide) rfl
              exact W.iret (v := (-1)) hx hb hr (fun t ht hW => ⟨⟨(-1), (of0, of1, of2, of3, of4, osize), rfl, ⟨(by (try dsimp only); omega), (by have hl0 := t_m1; (try dsimp only); first | exact Or.inl ⟨by omega, by omega, by omega, rfl, rfl, rfl, rfl, rfl⟩ | exact Or.inr (Or.inr ⟨by omega, by omega, by omega, by omega, by assumption, by assumption, by assumption, by assumption, by assumption⟩))⟩, by rw [ht]; exact hP9, hD9⟩, hS.F ht⟩) hS.2.2 dX8_off_42
        ·
          refine W_top (y := .int 0) (by rw [hr_7]) ?_
          refine lv_if_eq (tgt := 41) hx hb dX8_off_22 (by decide) (fun c_27 => ?_) (fun c_27 => absurd (by decide) c_27)
          refine lv_iconst (v := (-1)) hx hb dX8_off_41 (by decide) ?_
          have hP9 := hP.sub (ws' := [(xh, .inr (8, G8 xa xtrialRule xdropRule xtoday)), ((xa 6), .inr (2, G2 oa osize)), ((oa 0), .inl (E 0, 60, .inl of0)), ((oa 1), .inl (E 0, 60, .inl of1)), ((oa 2), .inl (E 0, 60, .inl of2)), ((oa 3), .inl (E 0, 60, .inl of3)), ((oa 4), .inl (E 0, 60, .inl of4))]) [0, 1, 2, 3, 4, 5, 6] rfl
          have hD9 := hD.sub (ws' := [(xh, .inr (8, G8 xa xtrialRule xdropRule xtoday)), ((xa 6), .inr (2, G2 oa osize)), ((oa 0), .inl (E 0, 60, .inl of0)), ((oa 1), .inl (E 0, 60, .inl of1)), ((oa 2), .inl (E 0, 60, .inl of2)), ((oa 3), .inl (E 0, 60, .inl of3)), ((oa 4), .inl (E 0, 60, .inl of4))]) [0, 1, 2, 3, 4, 5, 6] (by decide) rfl
          exact W.iret (v := (-1)) hx hb hr (fun t ht hW => ⟨⟨(-1), (of0, of1, of2, of3, of4, osize), rfl, ⟨(by (try dsimp only); omega), (by have hl0 := t_m1; (try dsimp only); first | exact Or.inl ⟨by omega, by omega, by omega, rfl, rfl, rfl, rfl, rfl⟩ | exact Or.inr (Or.inr ⟨by omega, by omega, by omega, by omega, by assumption, by assumption, by assumption, by assumption, by assumption⟩))⟩, by rw [ht]; exact hP9, hD9⟩, hS.F ht⟩) hS.2.2 dX8_off_42
      ·
        refine W_top (y := .int 0) (by rw [hr_3]) ?_
        refine lv_if_eq (tgt := 41) hx hb dX8_off_15 (by decide) (fun c_28 => ?_) (fun c_28 => absurd (by decide) c_28)
        refine lv_iconst (v := (-1)) hx hb dX8_off_41 (by decide) ?_
        have hP9 := hP.sub (ws' := [(xh, .inr (8, G8 xa xtrialRule xdropRule xtoday)), ((xa 6), .inr (2, G2 oa osize)), ((oa 0), .inl (E 0, 60, .inl of0)), ((oa 1), .inl (E 0, 60, .inl of1)), ((oa 2), .inl (E 0, 60, .inl of2)), ((oa 3), .inl (E 0, 60, .inl of3)), ((oa 4), .inl (E 0, 60, .inl of4))]) [0, 1, 2, 3, 4, 5, 6] rfl
        have hD9 := hD.sub (ws' := [(xh, .inr (8, G8 xa xtrialRule xdropRule xtoday)), ((xa 6), .inr (2, G2 oa osize)), ((oa 0), .inl (E 0, 60, .inl of0)), ((oa 1), .inl (E 0, 60, .inl of1)), ((oa 2), .inl (E 0, 60, .inl of2)), ((oa 3), .inl (E 0, 60, .inl of3)), ((oa 4), .inl (E 0, 60, .inl of4))]) [0, 1, 2, 3, 4, 5, 6] (by decide) rfl
        exact W.iret (v := (-1)) hx hb hr (fun t ht hW => ⟨⟨(-1), (of0, of1, of2, of3, of4, osize), rfl, ⟨(by (try dsimp only); omega), (by have hl0 := t_m1; (try dsimp only); first | exact Or.inl ⟨by omega, by omega, by omega, rfl, rfl, rfl, rfl, rfl⟩ | exact Or.inr (Or.inr ⟨by omega, by omega, by omega, by omega, by assumption, by assumption, by assumption, by assumption, by assumption⟩))⟩, by rw [ht]; exact hP9, hD9⟩, hS.F ht⟩) hS.2.2 dX8_off_42
set_option maxHeartbeats 4000000 in
set_option maxRecDepth 100000 in
theorem g_X8_feed (l : Launch) (D : va_G) (E : Nat → Nat) (xh : Nat) (xa : Nat → Nat) (xtrialRule : Nat) (xdropRule : Nat) (xtoday : Int32) (ta : Nat → Nat) (tsize : Int32) (trule : Nat) (twords : Nat) (tat : Int32) (tword : Int32) (twordAt : Int32) (tvalue : Int32) (tf0 : Nat → Int32) (p0 : Int32) (p1 : Int32) (sz : Nat) (hi_x : (0 ≤ xtoday.toInt ∧ xtoday.toInt ≤ 399)) (hi_t : (0 ≤ tsize.toInt ∧ tsize.toInt ≤ 120)) : Met l yX8_feed (wl yX8_feed cX8_feed 4 (some .int)) (RM 1 0 0) (mu_P D E [.ref xh, .int p0, .int p1] [(xh, .inr (8, G8 xa xtrialRule xdropRule xtoday)), ((xa 9), .inr (6, G6 ta tsize trule twords tat tword twordAt tvalue)), ((ta 0), .inl (E 0, 120, .inl tf0))] sz) (va_Qi (fun (r : Int32) (u : (Nat → Int32) × (Int32)) => (0 ≤ u.2.toInt ∧ u.2.toInt ≤ 120) ∧ ((¬ (1 ≤ p0.toInt ∧ p0.toInt ≤ 4) ∧ r.toInt = -1 ∧ u.2.toInt = tsize.toInt ∧ u.1 = tf0) ∨ ((1 ≤ p0.toInt ∧ p0.toInt ≤ 4) ∧ 120 < tsize.toInt + p0.toInt ∧ r.toInt = -5 ∧ u.2.toInt = tsize.toInt ∧ u.1 = tf0) ∨ ((1 ≤ p0.toInt ∧ p0.toInt ≤ 4) ∧ tsize.toInt + p0.toInt ≤ 120 ∧ r.toInt = tsize.toInt + p0.toInt ∧ u.2.toInt = r.toInt ∧ FEDX tf0 u.1 (tsize).toNatClampNeg (p0).toNatClampNeg p1))) (mu_B D (va_A [(xh, .inr (8, G8 xa xtrialRule xdropRule xtoday)), ((xa 9), .inr (6, G6 ta tsize trule twords tat tword twordAt tvalue)), ((ta 0), .inl (E 0, 120, .inl tf0))] sz) (fun (u : (Nat → Int32) × (Int32)) => [(xh, .inr (8, G8 xa xtrialRule xdropRule xtoday)), ((xa 9), .inr (6, G6 ta u.2 trule twords tat tword twordAt tvalue)), ((ta 0), .inl (E 0, 120, .inl u.1))])) (va_A [(xh, .inr (8, G8 xa xtrialRule xdropRule xtoday)), ((xa 9), .inr (6, G6 ta tsize trule twords tat tword twordAt tvalue)), ((ta 0), .inl (E 0, 120, .inl tf0))] sz)) 0 0 (va_A [(xh, .inr (8, G8 xa xtrialRule xdropRule xtoday)), ((xa 9), .inr (6, G6 ta tsize trule twords tat tword twordAt tvalue)), ((ta 0), .inl (E 0, 120, .inl tf0))] sz) := by
  refine Met.ofW (cc := cX8_feed) (maxL := 4) (ret := (some .int)) (by decide) rfl ?_
  intro p e s m args below meth c s₁ B hml hv
  obtain ⟨rfl, hsz, hP, hK, hD0⟩ := hv
  have hx := B.exec; have hb := B.bytes; have hr := B.returns
  have hts := atoms_spec (ws := wl yX8_feed cX8_feed 4 (some .int)) B.pre
  have htb : ∀ w ∈ tb, w.before _ s = true := fun w h => hts w (List.mem_cons_of_mem _ h)
  have hown : s.vm.findClass RX8 = some m.cls := findClass_of_methodNamed B.named
  have hlocks := B.notSynchronized
  subst hsz
  have hD := hD0.self (sz := s.heap.size)
  generalize hAe : va_A [(xh, .inr (8, G8 xa xtrialRule xdropRule xtoday)), ((xa 9), .inr (6, G6 ta tsize trule twords tat tword twordAt tvalue)), ((ta 0), .inl (E 0, 120, .inl tf0))] s.heap.size = A at hD ⊢
  have hA : ∀ q : Nat, s.heap.size ≤ q → A q := fun q h => by rw [← hAe]; exact Or.inr h
  have hS : va_S A s.heap s.heap [] := va_S.rf
  have hP : va_P D vwCl [(xh, .inr (8, G8 xa xtrialRule xdropRule xtoday)), ((xa 9), .inr (6, G6 ta tsize trule twords tat tword twordAt tvalue)), ((ta 0), .inl (E 0, 120, .inl tf0))] s.heap := hP
  have hl := lv_entry ([.ref xh, .int p0, .int p1]) (n := 4) (Nat.le_of_ble_eq_true rfl)
  rw [lg_entry_eq]
  generalize (lg_sl ([.ref xh, .int p0, .int p1]) ++ List.replicate (4 - (lg_sl ([.ref xh, .int p0, .int p1])).length) Slot.unset).toArray = ls at hl ⊢
  have hl : lv_has ls 4 [(0, .ref xh), (1, .int p0), (2, .int p1)] := hl
  have lo_p0 := i_lo p0; have hi_p0 := i_hi p0
  have lo_p1 := i_lo p1; have hi_p1 := i_hi p1
  refine lv_iload_n hx hb dX8_feed_0 rfl (lv_at hl 1 rfl) ?_
  refine lv_iconst (v := 1) hx hb dX8_feed_1 (by decide) ?_
  refine lv_icmp_lt (tgt := 10) hx hb dX8_feed_2 (by decide) (fun c_1 => ?_) (fun c_1 => ?_)
  ·
    have ic_1 : p0.toInt < 1 := by first | exact (g_lt rfl t_1).mp c_1 | (have h := mt (g_le t_1 rfl).mpr c_1; omega)
    clear c_1
    refine lv_iconst (v := (-1)) hx hb dX8_feed_10 (by decide) ?_
    have hP9 := hP.sub (ws' := [(xh, .inr (8, G8 xa xtrialRule xdropRule xtoday)), ((xa 9), .inr (6, G6 ta tsize trule twords tat tword twordAt tvalue)), ((ta 0), .inl (E 0, 120, .inl tf0))]) [0, 1, 2] rfl
    have hD9 := hD.sub (ws' := [(xh, .inr (8, G8 xa xtrialRule xdropRule xtoday)), ((xa 9), .inr (6, G6 ta tsize trule twords tat tword twordAt tvalue)), ((ta 0), .inl (E 0, 120, .inl tf0))]) [0, 1, 2] (by decide) rfl
    exact W.iret (v := (-1)) hx hb hr (fun t ht hW => ⟨⟨(-1), (tf0, tsize), rfl, ⟨(by (try dsimp only); omega), (by have hl := t_m1; (try dsimp only); first | exact Or.inl ⟨by omega, by omega, by omega, rfl⟩ | exact Or.inr (Or.inl ⟨by omega, by omega, by omega, by omega, rfl⟩) | exact Or.inr (Or.inr ⟨by omega, by omega, by omega, by omega, by rw [show (p0).toNatClampNeg = (L3_31).toNatClampNeg by have c0 := i_clamp0 (x := p0) (by omega); have c1 := i_clamp0 (x := L3_31) (by omega); omega]; exact v2_31⟩))⟩, by rw [ht]; exact hP9, hD9⟩, hS.F ht⟩) hS.2.2 dX8_feed_11
  ·
    have ic_1 : 1 ≤ p0.toInt := by first | exact (g_le t_1 rfl).mp c_1 | (have h := mt (g_lt rfl t_1).mpr c_1; omega)
    clear c_1
    refine lv_iload_n hx hb dX8_feed_5 rfl (lv_at hl 1 rfl) ?_
    refine lv_iconst (v := 4) hx hb dX8_feed_6 (by decide) ?_
    refine lv_icmp_le (tgt := 12) hx hb dX8_feed_7 (by decide) (fun c_2 => ?_) (fun c_2 => ?_)
    ·
      have ic_2 : p0.toInt ≤ 4 := by first | exact (g_le rfl t_4).mp c_2 | (have h := mt (g_lt t_4 rfl).mpr c_2; omega)
      clear c_2
      refine lv_aload_n hx hb dX8_feed_12 rfl (lv_at hl 0 rfl) ?_
      refine va_get (D := D) (ci := 8) (v := .ref (xa 9)) (C := RX8) (T := TX8) (N := 14) hx hb htb iX8 hown hK.1 hP 0 rfl rfl 9 (by decide) (htb _ k_281) (fun _ h9 => h9) rfl dX8_feed_13 ?_
      refine va_getN (D := D) (ci := 6) (v := .int tsize) (C := RX6) (T := TX6) (N := 8) hx hb htb iX6 hown hK.1 hP 1 rfl rfl 1 (by decide) (va_Nw.use rfl (hK.2.1 (Cond.fieldLinkNest RX8 179 "SeaWatches$Tape" "size" "I" "SeaWatches") (by decide +kernel))) (fun _ h9 => h9) rfl dX8_feed_16 ?_
      refine lv_iload_n hx hb dX8_feed_19 rfl (lv_at hl 1 rfl) ?_
      refine lv_iadd hx hb dX8_feed_20 ?_
      refine lv_topi (fun z_3 ez_3 => ?_)
      have jz_3 : z_3.toInt = tsize.toInt + p0.toInt := by rw [ez_3]; exact g_add rfl rfl (by omega) (by omega)
      refine lv_bipush (v := 120) hx hb dX8_feed_21 (by decide) ?_
      refine lv_icmp_le (tgt := 29) hx hb dX8_feed_23 (by decide) (fun c_4 => ?_) (fun c_4 => ?_)
      ·
        have ic_4 : z_3.toInt ≤ 120 := by first | exact (g_le rfl t_120).mp c_4 | (have h := mt (g_lt t_120 rfl).mpr c_4; omega)
        clear c_4
        refine lv_iconst (v := 0) hx hb dX8_feed_29 (by decide) ?_
        refine lv_istore_n (lv' := [(3, .int 0), (0, .ref xh), (1, .int p0), (2, .int p1)]) hx hb dX8_feed_30 rfl hl (by decide) rfl (fun ls hl => ?_)
        have loop_5 : ∀ (N_7 : Nat) (L3_31 : Int32) (tsize_31 : Int32) (tf0_31 : Nat → Int32) (H : Heap) (locs : List Loc) (ls : Array Slot), p0.toInt - L3_31.toInt < (N_7 : Int) → (0 ≤ tsize_31.toInt ∧ tsize_31.toInt ≤ 120) → (0 ≤ L3_31.toInt ∧ L3_31.toInt ≤ p0.toInt) → (tsize_31.toInt = tsize.toInt + L3_31.toInt) → (FEDX tf0 tf0_31 (tsize).toNatClampNeg (L3_31).toNatClampNeg p1) → va_P D vwCl [(xh, .inr (8, G8 xa xtrialRule xdropRule xtoday)), ((xa 9), .inr (6, G6 ta tsize_31 trule twords tat tword twordAt tvalue)), ((ta 0), .inl (E 0, 120, .inl tf0_31))] H → va_D A [(xh, .inr (8, G8 xa xtrialRule xdropRule xtoday)), ((xa 9), .inr (6, G6 ta tsize_31 trule twords tat tword twordAt tvalue)), ((ta 0), .inl (E 0, 120, .inl tf0_31))] → va_S A s.heap H locs → lv_has ls 4 [(3, .int L3_31), (0, .ref xh), (1, .int p0), (2, .int p1)] → W p l e (headSpec (wl yX8_feed cX8_feed 4 (some .int)) (RM 1 0 0)).room s m [Value.ref xh, .int p0, .int p1].toArray below meth c H locs 0 0 (MQ below (va_Qi (fun (r : Int32) (u : (Nat → Int32) × (Int32)) => (0 ≤ u.2.toInt ∧ u.2.toInt ≤ 120) ∧ ((¬ (1 ≤ p0.toInt ∧ p0.toInt ≤ 4) ∧ r.toInt = -1 ∧ u.2.toInt = tsize.toInt ∧ u.1 = tf0) ∨ ((1 ≤ p0.toInt ∧ p0.toInt ≤ 4) ∧ 120 < tsize.toInt + p0.toInt ∧ r.toInt = -5 ∧ u.2.toInt = tsize.toInt ∧ u.1 = tf0) ∨ ((1 ≤ p0.toInt ∧ p0.toInt ≤ 4) ∧ tsize.toInt + p0.toInt ≤ 120 ∧ r.toInt = tsize.toInt + p0.toInt ∧ u.2.toInt = r.toInt ∧ FEDX tf0 u.1 (tsize).toNatClampNeg (p0).toNatClampNeg p1))) (mu_B D A (fun (u : (Nat → Int32) × (Int32)) => [(xh, .inr (8, G8 xa xtrialRule xdropRule xtoday)), ((xa 9), .inr (6, G6 ta u.2 trule twords tat tword twordAt tvalue)), ((ta 0), .inl (E 0, 120, .inl u.1))])) A) [Value.ref xh, .int p0, .int p1].toArray s 0 0 A) (F0 m 31 ls []) := by
          intro N_7
          induction N_7 with
          | zero => intro L3_31 tsize_31 tf0_31 H locs ls hm v_tsize_31 v0_31 v1_31 v2_31 _ _ _ _; exfalso; omega
          | succ N_7 ih_6 =>
            intro L3_31 tsize_31 tf0_31 H locs ls hm v_tsize_31 v0_31 v1_31 v2_31 hP hD hS hl
            have lo_L3_31 := i_lo L3_31; have hi_L3_31 := i_hi L3_31
            have lo_tsize_31 := i_lo tsize_31; have hi_tsize_31 := i_hi tsize_31
            refine lv_iload_n hx hb dX8_feed_31 rfl (lv_at hl 0 rfl) ?_
            refine lv_iload_n hx hb dX8_feed_32 rfl (lv_at hl 2 rfl) ?_
            refine lv_icmp_ge (tgt := 59) hx hb dX8_feed_33 (by decide) (fun c_8 => ?_) (fun c_8 => ?_)
            ·
              have ic_8 : p0.toInt ≤ L3_31.toInt := by first | exact (g_le rfl rfl).mp c_8 | (have h := mt (g_lt rfl rfl).mpr c_8; omega)
              clear c_8
              refine lv_aload_n hx hb dX8_feed_59 rfl (lv_at hl 1 rfl) ?_
              refine va_get (D := D) (ci := 8) (v := .ref (xa 9)) (C := RX8) (T := TX8) (N := 14) hx hb htb iX8 hown hK.1 hP 0 rfl rfl 9 (by decide) (htb _ k_281) (fun _ h9 => h9) rfl dX8_feed_60 ?_
              refine va_getN (D := D) (ci := 6) (v := .int tsize_31) (C := RX6) (T := TX6) (N := 8) hx hb htb iX6 hown hK.1 hP 1 rfl rfl 1 (by decide) (va_Nw.use rfl (hK.2.1 (Cond.fieldLinkNest RX8 179 "SeaWatches$Tape" "size" "I" "SeaWatches") (by decide +kernel))) (fun _ h9 => h9) rfl dX8_feed_63 ?_
              have hP9 := hP.sub (ws' := [(xh, .inr (8, G8 xa xtrialRule xdropRule xtoday)), ((xa 9), .inr (6, G6 ta tsize_31 trule twords tat tword twordAt tvalue)), ((ta 0), .inl (E 0, 120, .inl tf0_31))]) [0, 1, 2] rfl
              have hD9 := hD.sub (ws' := [(xh, .inr (8, G8 xa xtrialRule xdropRule xtoday)), ((xa 9), .inr (6, G6 ta tsize_31 trule twords tat tword twordAt tvalue)), ((ta 0), .inl (E 0, 120, .inl tf0_31))]) [0, 1, 2] (by decide) rfl
              exact W.iret (v := tsize_31) hx hb hr (fun t ht hW => ⟨⟨tsize_31, (tf0_31, tsize_31), rfl, ⟨(by (try dsimp only); omega), (by (try dsimp only); first | exact Or.inl ⟨by omega, by omega, by omega, rfl⟩ | exact Or.inr (Or.inl ⟨by omega, by omega, by omega, by omega, rfl⟩) | exact Or.inr (Or.inr ⟨by omega, by omega, by omega, by omega, by rw [show (p0).toNatClampNeg = (L3_31).toNatClampNeg by have c0 := i_clamp0 (x := p0) (by omega); have c1 := i_clamp0 (x := L3_31) (by omega); omega]; exact v2_31⟩))⟩, by rw [ht]; exact hP9, hD9⟩, hS.F ht⟩) hS.2.2 dX8_feed_66
            ·
              have ic_8 : L3_31.toInt < p0.toInt := by first | exact (g_lt rfl rfl).mp c_8 | (have h := mt (g_le rfl rfl).mpr c_8; omega)
              clear c_8
              refine lv_aload_n hx hb dX8_feed_36 rfl (lv_at hl 1 rfl) ?_
              refine va_get (D := D) (ci := 8) (v := .ref (xa 9)) (C := RX8) (T := TX8) (N := 14) hx hb htb iX8 hown hK.1 hP 0 rfl rfl 9 (by decide) (htb _ k_281) (fun _ h9 => h9) rfl dX8_feed_37 ?_
              refine lv_iload_n hx hb dX8_feed_40 rfl (lv_at hl 3 rfl) ?_
              refine lv_bipush (v := 8) hx hb dX8_feed_41 (by decide) ?_
              refine lv_iload_n hx hb dX8_feed_43 rfl (lv_at hl 0 rfl) ?_
              refine lv_imul hx hb dX8_feed_44 ?_
              refine lv_topi (fun z_9 ez_9 => ?_)
              have jz_9 : z_9.toInt = 8 * L3_31.toInt := by rw [ez_9]; exact g_mul t_8 rfl (by omega) (by omega)
              refine lv_ishr hx hb dX8_feed_45 ?_
              refine lv_topi (fun z_10 ez_10 => ?_)
              refine lv_sipush (v := 255) hx hb dX8_feed_46 (by decide) ?_
              refine lv_iand hx hb dX8_feed_49 ?_
              refine lv_topi (fun z_11 ez_11 => ?_)
              have hPc := hP.sub (ws' := [((xa 9), .inr (6, G6 ta tsize_31 trule twords tat tword twordAt tvalue)), ((ta 0), .inl (E 0, 120, .inl tf0_31))]) [1, 2] rfl
              have hDc := hD.sub (ws' := [((xa 9), .inr (6, G6 ta tsize_31 trule twords tat tword twordAt tvalue)), ((ta 0), .inl (E 0, 120, .inl tf0_31))]) [1, 2] (by decide) rfl
              refine aft_v (runMV (rest := []) (As := [.int z_11]) hx hb hml hown htb hK (g_X6_add l D E (xa 9) ta tsize_31 trule twords tat tword twordAt tvalue tf0_31 z_11 _ (by (try dsimp only); omega)) ok_X6_add k_577 k_578 k_579 k_5 k_580 ⟨(Nat.le_of_ble_eq_true rfl), (Nat.le_of_ble_eq_true rfl)⟩ ⟨(Nat.le_of_ble_eq_true rfl), (Nat.le_of_ble_eq_true rfl)⟩ hl.1 (Nat.le_of_ble_eq_true rfl) rfl rfl dX8_feed_50 hPc hDc rfl rfl 0 rfl) hP hD hS hA [1, 2] [0] (wr := [(xh, .inr (8, G8 xa xtrialRule xdropRule xtoday))]) rfl rfl (by decide) (by decide) (fun u_14 H locs hw_13 hP hD hS => ?_)
              clear hPc hDc
              obtain ⟨w_15, w_16⟩ := u_14
              try dsimp only at hw_13
              have hP : va_P D vwCl [(xh, .inr (8, G8 xa xtrialRule xdropRule xtoday)), ((xa 9), .inr (6, G6 ta w_16 trule twords tat tword twordAt tvalue)), ((ta 0), .inl (E 0, 120, .inl w_15))] H := hP
              have hD := toW hP hD rfl
              obtain ⟨hw_13_0, hw_13_1⟩ := hw_13
              have hw_13_1A : w_16.toInt = tsize_31.toInt + 1 := by rcases hw_13_1 with h9 | h9 <;> omega
              have hw_13_1B : w_15 = upd tf0_31 (tsize_31).toNatClampNeg z_11 := by rcases hw_13_1 with h9 | h9 <;> first | exact h9.2.2 | (exfalso; omega)
              clear hw_13_1
              obtain ⟨z_17, ez_17⟩ : ∃ y : Int32, y = L3_31 + 1 := ⟨_, rfl⟩
              have jz_17 : z_17.toInt = L3_31.toInt + 1 := by rw [ez_17]; exact g_add rfl t_1 (by omega) (by omega)
              refine lv_iinc (v := z_17) (lv' := [(3, .int z_17), (0, .ref xh), (1, .int p0), (2, .int p1)]) hx hb dX8_feed_53 hl (k := 0) rfl (by rw [ez_17]; rfl) (by decide) rfl (fun ls hl => ?_)
              refine lv_goto (tgt := 31) hx hb dX8_feed_56 (by decide) ?_
              exact ih_6 z_17 w_16 w_15 _ _ _ (by (try dsimp only); omega) (by (try dsimp only); omega) (by (try dsimp only); omega) (by (try dsimp only); omega) (by have c0 := i_clamp0 (x := tsize) (by omega); have c1 := i_clamp0 (x := L3_31) (by omega); have c2 := i_clamp0 (x := tsize_31) (by omega); rw [clampS (by omega) jz_17]; exact FEDX_s v2_31 (s := z_9) (z := z_11) (by omega) (by rw [ez_11, ez_10]) (by rw [hw_13_1B, show (tsize_31).toNatClampNeg = (tsize).toNatClampNeg + (L3_31).toNatClampNeg by omega])) hP hD hS (lv_sub hl [0, 1, 2, 3] rfl)
        exact loop_5 5 0 tsize tf0 _ _ _ (by have h0 := t_0; (try dsimp only); omega) (by (try dsimp only); omega) (by have h0 := t_0; (try dsimp only); omega) (by have h0 := t_0; (try dsimp only); omega) (FEDX_0 clamp_0) hP hD hS (lv_sub hl [0, 1, 2, 3] rfl)
      ·
        have ic_4 : 120 < z_3.toInt := by first | exact (g_lt t_120 rfl).mp c_4 | (have h := mt (g_le rfl t_120).mpr c_4; omega)
        clear c_4
        refine lv_bipush (v := (-5)) hx hb dX8_feed_26 (by decide) ?_
        have hP9 := hP.sub (ws' := [(xh, .inr (8, G8 xa xtrialRule xdropRule xtoday)), ((xa 9), .inr (6, G6 ta tsize trule twords tat tword twordAt tvalue)), ((ta 0), .inl (E 0, 120, .inl tf0))]) [0, 1, 2] rfl
        have hD9 := hD.sub (ws' := [(xh, .inr (8, G8 xa xtrialRule xdropRule xtoday)), ((xa 9), .inr (6, G6 ta tsize trule twords tat tword twordAt tvalue)), ((ta 0), .inl (E 0, 120, .inl tf0))]) [0, 1, 2] (by decide) rfl
        exact W.iret (v := (-5)) hx hb hr (fun t ht hW => ⟨⟨(-5), (tf0, tsize), rfl, ⟨(by (try dsimp only); omega), (by have hl := t_m5; (try dsimp only); first | exact Or.inl ⟨by omega, by omega, by omega, rfl⟩ | exact Or.inr (Or.inl ⟨by omega, by omega, by omega, by omega, rfl⟩) | exact Or.inr (Or.inr ⟨by omega, by omega, by omega, by omega, by rw [show (p0).toNatClampNeg = (L3_31).toNatClampNeg by have c0 := i_clamp0 (x := p0) (by omega); have c1 := i_clamp0 (x := L3_31) (by omega); omega]; exact v2_31⟩))⟩, by rw [ht]; exact hP9, hD9⟩, hS.F ht⟩) hS.2.2 dX8_feed_28
    ·
      have ic_2 : 4 < p0.toInt := by first | exact (g_lt t_4 rfl).mp c_2 | (have h := mt (g_le rfl t_4).mpr c_2; omega)
      clear c_2
      refine lv_iconst (v := (-1)) hx hb dX8_feed_10 (by decide) ?_
      have hP9 := hP.sub (ws' := [(xh, .inr (8, G8 xa xtrialRule xdropRule xtoday)), ((xa 9), .inr (6, G6 ta tsize trule twords tat tword twordAt tvalue)), ((ta 0), .inl (E 0, 120, .inl tf0))]) [0, 1, 2] rfl
      have hD9 := hD.sub (ws' := [(xh, .inr (8, G8 xa xtrialRule xdropRule xtoday)), ((xa 9), .inr (6, G6 ta tsize trule twords tat tword twordAt tvalue)), ((ta 0), .inl (E 0, 120, .inl tf0))]) [0, 1, 2] (by decide) rfl
      exact W.iret (v := (-1)) hx hb hr (fun t ht hW => ⟨⟨(-1), (tf0, tsize), rfl, ⟨(by (try dsimp only); omega), (by have hl := t_m1; (try dsimp only); first | exact Or.inl ⟨by omega, by omega, by omega, rfl⟩ | exact Or.inr (Or.inl ⟨by omega, by omega, by omega, by omega, rfl⟩) | exact Or.inr (Or.inr ⟨by omega, by omega, by omega, by omega, by rw [show (p0).toNatClampNeg = (L3_31).toNatClampNeg by have c0 := i_clamp0 (x := p0) (by omega); have c1 := i_clamp0 (x := L3_31) (by omega); omega]; exact v2_31⟩))⟩, by rw [ht]; exact hP9, hD9⟩, hS.F ht⟩) hS.2.2 dX8_feed_11
set_option maxHeartbeats 4000000 in
set_option maxRecDepth 100000 in
theorem g_X8_doubt (l : Launch) (D : va_G) (E : Nat → Nat) (xh : Nat) (xa : Nat → Nat) (xtrialRule : Nat) (xdropRule : Nat) (xtoday : Int32) (da : Nat → Nat) (dlisted : Int32) (dshared : Int32) (dsailing : Int32) (dleastWorst : Int32) (df0 : Nat → Int32) (p0 : Int32) (sz : Nat) (hi_x : (0 ≤ xtoday.toInt ∧ xtoday.toInt ≤ 399)) (hi_d : (0 ≤ dlisted.toInt ∧ dlisted.toInt ≤ 9) ∧ (0 ≤ dshared.toInt ∧ dshared.toInt ≤ 9) ∧ (0 ≤ dsailing.toInt ∧ dsailing.toInt ≤ 3)) : Met l yX8_doubt (wl yX8_doubt cX8_doubt 2 (some .int)) (RM 1 0 0) (mu_P D E [.ref xh, .int p0] [(xh, .inr (8, G8 xa xtrialRule xdropRule xtoday)), ((xa 10), .inr (0, G0 da dlisted dshared dsailing dleastWorst)), ((da 0), .inl (E 0, 9, .inl df0))] sz) (va_Qi (fun (r : Int32) (u : (Nat → Int32) × (Int32)) => (0 ≤ u.2.toInt ∧ u.2.toInt ≤ 9) ∧ ((¬ (1 ≤ p0.toInt ∧ p0.toInt ≤ 9999) ∧ r.toInt = -1 ∧ u.2.toInt = dlisted.toInt ∧ u.1 = df0) ∨ ((1 ≤ p0.toInt ∧ p0.toInt ≤ 9999) ∧ dlisted.toInt = 9 ∧ r.toInt = -5 ∧ u.2.toInt = dlisted.toInt ∧ u.1 = df0) ∨ ((1 ≤ p0.toInt ∧ p0.toInt ≤ 9999) ∧ dlisted.toInt < 9 ∧ r.toInt = dlisted.toInt + 1 ∧ u.2.toInt = r.toInt ∧ u.1 = upd df0 (dlisted).toNatClampNeg p0))) (mu_B D (va_A [(xh, .inr (8, G8 xa xtrialRule xdropRule xtoday)), ((xa 10), .inr (0, G0 da dlisted dshared dsailing dleastWorst)), ((da 0), .inl (E 0, 9, .inl df0))] sz) (fun (u : (Nat → Int32) × (Int32)) => [(xh, .inr (8, G8 xa xtrialRule xdropRule xtoday)), ((xa 10), .inr (0, G0 da u.2 dshared dsailing dleastWorst)), ((da 0), .inl (E 0, 9, .inl u.1))])) (va_A [(xh, .inr (8, G8 xa xtrialRule xdropRule xtoday)), ((xa 10), .inr (0, G0 da dlisted dshared dsailing dleastWorst)), ((da 0), .inl (E 0, 9, .inl df0))] sz)) 0 0 (va_A [(xh, .inr (8, G8 xa xtrialRule xdropRule xtoday)), ((xa 10), .inr (0, G0 da dlisted dshared dsailing dleastWorst)), ((da 0), .inl (E 0, 9, .inl df0))] sz) := by
  refine Met.ofW (cc := cX8_doubt) (maxL := 2) (ret := (some .int)) (by decide) rfl ?_
  intro p e s m args below meth c s₁ B hml hv
  obtain ⟨rfl, hsz, hP, hK, hD0⟩ := hv
  have hx := B.exec; have hb := B.bytes; have hr := B.returns
  have hts := atoms_spec (ws := wl yX8_doubt cX8_doubt 2 (some .int)) B.pre
  have htb : ∀ w ∈ tb, w.before _ s = true := fun w h => hts w (List.mem_cons_of_mem _ h)
  have hown : s.vm.findClass RX8 = some m.cls := findClass_of_methodNamed B.named
  have hlocks := B.notSynchronized
  subst hsz
  have hD := hD0.self (sz := s.heap.size)
  generalize hAe : va_A [(xh, .inr (8, G8 xa xtrialRule xdropRule xtoday)), ((xa 10), .inr (0, G0 da dlisted dshared dsailing dleastWorst)), ((da 0), .inl (E 0, 9, .inl df0))] s.heap.size = A at hD ⊢
  have hA : ∀ q : Nat, s.heap.size ≤ q → A q := fun q h => by rw [← hAe]; exact Or.inr h
  have hS : va_S A s.heap s.heap [] := va_S.rf
  have hP : va_P D vwCl [(xh, .inr (8, G8 xa xtrialRule xdropRule xtoday)), ((xa 10), .inr (0, G0 da dlisted dshared dsailing dleastWorst)), ((da 0), .inl (E 0, 9, .inl df0))] s.heap := hP
  have hl := lv_entry ([.ref xh, .int p0]) (n := 2) (Nat.le_of_ble_eq_true rfl)
  rw [lg_entry_eq]
  generalize (lg_sl ([.ref xh, .int p0]) ++ List.replicate (2 - (lg_sl ([.ref xh, .int p0])).length) Slot.unset).toArray = ls at hl ⊢
  have hl : lv_has ls 2 [(0, .ref xh), (1, .int p0)] := hl
  have lo_p0 := i_lo p0; have hi_p0 := i_hi p0
  refine lv_iload_n hx hb dX8_doubt_0 rfl (lv_at hl 1 rfl) ?_
  refine lv_iconst (v := 1) hx hb dX8_doubt_1 (by decide) ?_
  refine lv_icmp_lt (tgt := 12) hx hb dX8_doubt_2 (by decide) (fun c_1 => ?_) (fun c_1 => ?_)
  ·
    have ic_1 : p0.toInt < 1 := by first | exact (g_lt rfl t_1).mp c_1 | (have h := mt (g_le t_1 rfl).mpr c_1; omega)
    clear c_1
    refine lv_iconst (v := (-1)) hx hb dX8_doubt_12 (by decide) ?_
    have hP9 := hP.sub (ws' := [(xh, .inr (8, G8 xa xtrialRule xdropRule xtoday)), ((xa 10), .inr (0, G0 da dlisted dshared dsailing dleastWorst)), ((da 0), .inl (E 0, 9, .inl df0))]) [0, 1, 2] rfl
    have hD9 := hD.sub (ws' := [(xh, .inr (8, G8 xa xtrialRule xdropRule xtoday)), ((xa 10), .inr (0, G0 da dlisted dshared dsailing dleastWorst)), ((da 0), .inl (E 0, 9, .inl df0))]) [0, 1, 2] (by decide) rfl
    exact W.iret (v := (-1)) hx hb hr (fun t ht hW => ⟨⟨(-1), (df0, dlisted), rfl, ⟨(by (try dsimp only); omega), (by have hl0 := t_m1; (try dsimp only); first | exact Or.inl ⟨by omega, by omega, by omega, rfl⟩ | exact Or.inr (Or.inr ⟨by omega, by omega, by omega, by omega, (by first | rfl | assumption)⟩))⟩, by rw [ht]; exact hP9, hD9⟩, hS.F ht⟩) hS.2.2 dX8_doubt_13
  ·
    have ic_1 : 1 ≤ p0.toInt := by first | exact (g_le t_1 rfl).mp c_1 | (have h := mt (g_lt rfl t_1).mpr c_1; omega)
    clear c_1
    refine lv_iload_n hx hb dX8_doubt_5 rfl (lv_at hl 1 rfl) ?_
    refine lv_sipush (v := 9999) hx hb dX8_doubt_6 (by decide) ?_
    refine lv_icmp_le (tgt := 14) hx hb dX8_doubt_9 (by decide) (fun c_2 => ?_) (fun c_2 => ?_)
    ·
      have ic_2 : p0.toInt ≤ 9999 := by first | exact (g_le rfl t_9999).mp c_2 | (have h := mt (g_lt t_9999 rfl).mpr c_2; omega)
      clear c_2
      refine lv_aload_n hx hb dX8_doubt_14 rfl (lv_at hl 0 rfl) ?_
      refine va_get (D := D) (ci := 8) (v := .ref (xa 10)) (C := RX8) (T := TX8) (N := 14) hx hb htb iX8 hown hK.1 hP 0 rfl rfl 10 (by decide) (htb _ k_282) (fun _ h9 => h9) rfl dX8_doubt_15 ?_
      refine va_getN (D := D) (ci := 0) (v := .int dlisted) (C := RX0) (T := TX0) (N := 9) hx hb htb iX0 hown hK.1 hP 1 rfl rfl 5 (by decide) (va_Nw.use rfl (hK.2.1 (Cond.fieldLinkNest RX8 275 "SeaWatches$Dealing" "listed" "I" "SeaWatches") (by decide +kernel))) (fun _ h9 => h9) rfl dX8_doubt_18 ?_
      refine lv_bipush (v := 9) hx hb dX8_doubt_21 (by decide) ?_
      refine lv_icmp_lt (tgt := 29) hx hb dX8_doubt_23 (by decide) (fun c_3 => ?_) (fun c_3 => ?_)
      ·
        have ic_3 : dlisted.toInt < 9 := by first | exact (g_lt rfl t_9).mp c_3 | (have h := mt (g_le t_9 rfl).mpr c_3; omega)
        clear c_3
        refine lv_aload_n hx hb dX8_doubt_29 rfl (lv_at hl 0 rfl) ?_
        refine va_get (D := D) (ci := 8) (v := .ref (xa 10)) (C := RX8) (T := TX8) (N := 14) hx hb htb iX8 hown hK.1 hP 0 rfl rfl 10 (by decide) (htb _ k_282) (fun _ h9 => h9) rfl dX8_doubt_30 ?_
        refine lv_iload_n hx hb dX8_doubt_33 rfl (lv_at hl 1 rfl) ?_
        have hPc := hP.sub (ws' := [((xa 10), .inr (0, G0 da dlisted dshared dsailing dleastWorst)), ((da 0), .inl (E 0, 9, .inl df0))]) [1, 2] rfl
        have hDc := hD.sub (ws' := [((xa 10), .inr (0, G0 da dlisted dshared dsailing dleastWorst)), ((da 0), .inl (E 0, 9, .inl df0))]) [1, 2] (by decide) rfl
        refine aft_v (runMV (rest := []) (As := [.int p0]) hx hb hml hown htb hK (g_X0_add l D E (xa 10) da dlisted dshared dsailing dleastWorst df0 p0 _ (by (try dsimp only); omega)) ok_X0_add k_890 k_891 k_892 k_7 k_893 ⟨(Nat.le_of_ble_eq_true rfl), (Nat.le_of_ble_eq_true rfl)⟩ ⟨(Nat.le_of_ble_eq_true rfl), (Nat.le_of_ble_eq_true rfl)⟩ hl.1 (Nat.le_of_ble_eq_true rfl) rfl rfl dX8_doubt_34 hPc hDc rfl rfl 0 rfl) hP hD hS hA [1, 2] [0] (wr := [(xh, .inr (8, G8 xa xtrialRule xdropRule xtoday))]) rfl rfl (by decide) (by decide) (fun u_6 H locs hw_5 hP hD hS => ?_)
        clear hPc hDc
        obtain ⟨w_7, w_8⟩ := u_6
        try dsimp only at hw_5
        have hP : va_P D vwCl [(xh, .inr (8, G8 xa xtrialRule xdropRule xtoday)), ((xa 10), .inr (0, G0 da w_8 dshared dsailing dleastWorst)), ((da 0), .inl (E 0, 9, .inl w_7))] H := hP
        have hD := toW hP hD rfl
        obtain ⟨hw_5_0, hw_5_1⟩ := hw_5
        have hw_5_1O : w_7 = upd df0 (dlisted).toNatClampNeg p0 := by rcases hw_5_1 with h9 | h9 <;> first | exact h9.2.2 | (exfalso; omega)
        have hw_5_1S : w_8.toInt = dlisted.toInt + 1 := by rcases hw_5_1 with h9 | h9 <;> first | exact h9.2.1 | (exfalso; omega)
        refine lv_aload_n hx hb dX8_doubt_37 rfl (lv_at hl 0 rfl) ?_
        refine va_get (D := D) (ci := 8) (v := .ref (xa 10)) (C := RX8) (T := TX8) (N := 14) hx hb htb iX8 hown hK.1 hP 0 rfl rfl 10 (by decide) (htb _ k_282) (fun _ h9 => h9) rfl dX8_doubt_38 ?_
        refine va_getN (D := D) (ci := 0) (v := .int w_8) (C := RX0) (T := TX0) (N := 9) hx hb htb iX0 hown hK.1 hP 1 rfl rfl 5 (by decide) (va_Nw.use rfl (hK.2.1 (Cond.fieldLinkNest RX8 275 "SeaWatches$Dealing" "listed" "I" "SeaWatches") (by decide +kernel))) (fun _ h9 => h9) rfl dX8_doubt_41 ?_
        have hP9 := hP.sub (ws' := [(xh, .inr (8, G8 xa xtrialRule xdropRule xtoday)), ((xa 10), .inr (0, G0 da w_8 dshared dsailing dleastWorst)), ((da 0), .inl (E 0, 9, .inl w_7))]) [0, 1, 2] rfl
        have hD9 := hD.sub (ws' := [(xh, .inr (8, G8 xa xtrialRule xdropRule xtoday)), ((xa 10), .inr (0, G0 da w_8 dshared dsailing dleastWorst)), ((da 0), .inl (E 0, 9, .inl w_7))]) [0, 1, 2] (by decide) rfl
        exact W.iret (v := w_8) hx hb hr (fun t ht hW => ⟨⟨w_8, (w_7, w_8), rfl, ⟨(by (try dsimp only); omega), (by (try dsimp only); first | exact Or.inr (Or.inr ⟨by omega, by omega, by omega, by omega, (by first | rfl | assumption)⟩) | exact Or.inl ⟨by omega, by omega, by omega, rfl⟩ | exact Or.inr (Or.inl ⟨by omega, by omega, by omega, by omega, rfl⟩))⟩, by rw [ht]; exact hP9, hD9⟩, hS.F ht⟩) hS.2.2 dX8_doubt_44
      ·
        have ic_3 : 9 ≤ dlisted.toInt := by first | exact (g_le t_9 rfl).mp c_3 | (have h := mt (g_lt rfl t_9).mpr c_3; omega)
        clear c_3
        refine lv_bipush (v := (-5)) hx hb dX8_doubt_26 (by decide) ?_
        have hP9 := hP.sub (ws' := [(xh, .inr (8, G8 xa xtrialRule xdropRule xtoday)), ((xa 10), .inr (0, G0 da dlisted dshared dsailing dleastWorst)), ((da 0), .inl (E 0, 9, .inl df0))]) [0, 1, 2] rfl
        have hD9 := hD.sub (ws' := [(xh, .inr (8, G8 xa xtrialRule xdropRule xtoday)), ((xa 10), .inr (0, G0 da dlisted dshared dsailing dleastWorst)), ((da 0), .inl (E 0, 9, .inl df0))]) [0, 1, 2] (by decide) rfl
        exact W.iret (v := (-5)) hx hb hr (fun t ht hW => ⟨⟨(-5), (df0, dlisted), rfl, ⟨(by (try dsimp only); omega), (by have hl0 := t_m5; (try dsimp only); first | exact Or.inr (Or.inl ⟨by omega, by omega, by omega, by omega, rfl⟩) | exact Or.inr (Or.inr ⟨by omega, by omega, by omega, by omega, (by first | rfl | assumption)⟩))⟩, by rw [ht]; exact hP9, hD9⟩, hS.F ht⟩) hS.2.2 dX8_doubt_28
    ·
      have ic_2 : 9999 < p0.toInt := by first | exact (g_lt t_9999 rfl).mp c_2 | (have h := mt (g_le rfl t_9999).mpr c_2; omega)
      clear c_2
      refine lv_iconst (v := (-1)) hx hb dX8_doubt_12 (by decide) ?_
      have hP9 := hP.sub (ws' := [(xh, .inr (8, G8 xa xtrialRule xdropRule xtoday)), ((xa 10), .inr (0, G0 da dlisted dshared dsailing dleastWorst)), ((da 0), .inl (E 0, 9, .inl df0))]) [0, 1, 2] rfl
      have hD9 := hD.sub (ws' := [(xh, .inr (8, G8 xa xtrialRule xdropRule xtoday)), ((xa 10), .inr (0, G0 da dlisted dshared dsailing dleastWorst)), ((da 0), .inl (E 0, 9, .inl df0))]) [0, 1, 2] (by decide) rfl
      exact W.iret (v := (-1)) hx hb hr (fun t ht hW => ⟨⟨(-1), (df0, dlisted), rfl, ⟨(by (try dsimp only); omega), (by have hl0 := t_m1; (try dsimp only); first | exact Or.inl ⟨by omega, by omega, by omega, rfl⟩ | exact Or.inr (Or.inr ⟨by omega, by omega, by omega, by omega, (by first | rfl | assumption)⟩))⟩, by rw [ht]; exact hP9, hD9⟩, hS.F ht⟩) hS.2.2 dX8_doubt_13
set_option maxHeartbeats 4000000 in
set_option maxRecDepth 100000 in
theorem g_X8_deal (l : Launch) (D : va_G) (E : Nat → Nat) (xh : Nat) (xa : Nat → Nat) (xtrialRule : Nat) (xdropRule : Nat) (xtoday : Int32) (da : Nat → Nat) (dlisted : Int32) (dshared : Int32) (dsailing : Int32) (dleastWorst : Int32) (df0 : Nat → Int32) (df1 : Nat → Int32) (df2 : Nat → Int32) (df3 : Nat → Int32) (df4 : Nat → Int32) (p0 : Int32) (p1 : Int32) (p2 : Int32) (sz : Nat) (hi_x : (0 ≤ xtoday.toInt ∧ xtoday.toInt ≤ 399)) (hi_d : (0 ≤ dlisted.toInt ∧ dlisted.toInt ≤ 9) ∧ (0 ≤ dshared.toInt ∧ dshared.toInt ≤ 9) ∧ (0 ≤ dsailing.toInt ∧ dsailing.toInt ≤ 3)) : Met l yX8_deal (wl yX8_deal cX8_deal 5 (some .int)) (RM 14 0 0) (mu_P D E [.ref xh, .int p0, .int p1, .int p2] [(xh, .inr (8, G8 xa xtrialRule xdropRule xtoday)), ((xa 10), .inr (0, G0 da dlisted dshared dsailing dleastWorst)), ((da 0), .inl (E 0, 9, .inl df0)), ((da 1), .inl (E 0, 9, .inl df1)), ((da 2), .inl (E 0, 9, .inl df2)), ((da 3), .inl (E 0, 3, .inl df3)), ((da 4), .inl (E 0, 3, .inl df4))] sz) (va_Qi (fun (r : Int32) (u : (Nat → Int32) × (Nat → Int32) × (Nat → Int32) × (Nat → Int32) × (Int32) × (Int32) × (Int32) × (Int32)) => (0 ≤ u.2.2.2.2.2.1.toInt ∧ u.2.2.2.2.2.1.toInt ≤ 9) ∧ (0 ≤ u.2.2.2.2.2.2.1.toInt ∧ u.2.2.2.2.2.2.1.toInt ≤ 3) ∧ (0 ≤ u.2.2.2.2.2.2.2.toInt ∧ u.2.2.2.2.2.2.2.toInt ≤ 9) ∧ ((¬ ((1 ≤ p0.toInt ∧ p0.toInt ≤ 400) ∧ (0 ≤ p1.toInt ∧ p1.toInt ≤ 400) ∧ (0 ≤ p2.toInt ∧ p2.toInt ≤ 400) ∧ ¬ (p1.toInt = 0 ∧ p2.toInt ≠ 0)) ∧ r.toInt = -1 ∧ u.2.2.2.2.2.1.toInt = dlisted.toInt ∧ u.2.1 = df2 ∧ u.2.2.2.2.2.2.2 = dshared) ∨ (((1 ≤ p0.toInt ∧ p0.toInt ≤ 400) ∧ (0 ≤ p1.toInt ∧ p1.toInt ≤ 400) ∧ (0 ≤ p2.toInt ∧ p2.toInt ≤ 400) ∧ ¬ (p1.toInt = 0 ∧ p2.toInt ≠ 0)) ∧ ((p1.toInt = 0 ∧ dlisted.toInt < 3) ∨ (p1.toInt ≠ 0 ∧ p2.toInt = 0 ∧ dlisted.toInt < 6) ∨ (p1.toInt ≠ 0 ∧ p2.toInt ≠ 0 ∧ dlisted.toInt < 9)) ∧ r.toInt = -4 ∧ u.2.2.2.2.2.1.toInt = dlisted.toInt ∧ u.2.1 = df2 ∧ u.2.2.2.2.2.2.2 = dshared) ∨ (((1 ≤ p0.toInt ∧ p0.toInt ≤ 400) ∧ (0 ≤ p1.toInt ∧ p1.toInt ≤ 400) ∧ (0 ≤ p2.toInt ∧ p2.toInt ≤ 400) ∧ ¬ (p1.toInt = 0 ∧ p2.toInt ≠ 0)) ∧ ¬ ((p1.toInt = 0 ∧ dlisted.toInt < 3) ∨ (p1.toInt ≠ 0 ∧ p2.toInt = 0 ∧ dlisted.toInt < 6) ∨ (p1.toInt ≠ 0 ∧ p2.toInt ≠ 0 ∧ dlisted.toInt < 9)) ∧ u.2.2.2.2.2.1.toInt = 0 ∧ u.2.2.2.2.2.2.2.toInt = dlisted.toInt ∧ SHX df0 (upd (upd (upd df3 0 p0) 1 p1) 2 p2) df1 df2 dlisted (shI p1 p2) r u.2.1))) (mu_B D (va_A [(xh, .inr (8, G8 xa xtrialRule xdropRule xtoday)), ((xa 10), .inr (0, G0 da dlisted dshared dsailing dleastWorst)), ((da 0), .inl (E 0, 9, .inl df0)), ((da 1), .inl (E 0, 9, .inl df1)), ((da 2), .inl (E 0, 9, .inl df2)), ((da 3), .inl (E 0, 3, .inl df3)), ((da 4), .inl (E 0, 3, .inl df4))] sz) (fun (u : (Nat → Int32) × (Nat → Int32) × (Nat → Int32) × (Nat → Int32) × (Int32) × (Int32) × (Int32) × (Int32)) => [(xh, .inr (8, G8 xa xtrialRule xdropRule xtoday)), ((xa 10), .inr (0, G0 da u.2.2.2.2.2.1 u.2.2.2.2.2.2.2 u.2.2.2.2.2.2.1 u.2.2.2.2.1)), ((da 0), .inl (E 0, 9, .inl df0)), ((da 1), .inl (E 0, 9, .inl u.1)), ((da 2), .inl (E 0, 9, .inl u.2.1)), ((da 3), .inl (E 0, 3, .inl u.2.2.1)), ((da 4), .inl (E 0, 3, .inl u.2.2.2.1))])) (va_A [(xh, .inr (8, G8 xa xtrialRule xdropRule xtoday)), ((xa 10), .inr (0, G0 da dlisted dshared dsailing dleastWorst)), ((da 0), .inl (E 0, 9, .inl df0)), ((da 1), .inl (E 0, 9, .inl df1)), ((da 2), .inl (E 0, 9, .inl df2)), ((da 3), .inl (E 0, 3, .inl df3)), ((da 4), .inl (E 0, 3, .inl df4))] sz)) 0 0 (va_A [(xh, .inr (8, G8 xa xtrialRule xdropRule xtoday)), ((xa 10), .inr (0, G0 da dlisted dshared dsailing dleastWorst)), ((da 0), .inl (E 0, 9, .inl df0)), ((da 1), .inl (E 0, 9, .inl df1)), ((da 2), .inl (E 0, 9, .inl df2)), ((da 3), .inl (E 0, 3, .inl df3)), ((da 4), .inl (E 0, 3, .inl df4))] sz) := by
  refine Met.ofW (cc := cX8_deal) (maxL := 5) (ret := (some .int)) (by decide) rfl ?_
  intro p e s m args below meth c s₁ B hml hv
  obtain ⟨rfl, hsz, hP, hK, hD0⟩ := hv
  have hx := B.exec; have hb := B.bytes; have hr := B.returns
  have hts := atoms_spec (ws := wl yX8_deal cX8_deal 5 (some .int)) B.pre
  have htb : ∀ w ∈ tb, w.before _ s = true := fun w h => hts w (List.mem_cons_of_mem _ h)
  have hown : s.vm.findClass RX8 = some m.cls := findClass_of_methodNamed B.named
  have hlocks := B.notSynchronized
  subst hsz
  have hD := hD0.self (sz := s.heap.size)
  generalize hAe : va_A [(xh, .inr (8, G8 xa xtrialRule xdropRule xtoday)), ((xa 10), .inr (0, G0 da dlisted dshared dsailing dleastWorst)), ((da 0), .inl (E 0, 9, .inl df0)), ((da 1), .inl (E 0, 9, .inl df1)), ((da 2), .inl (E 0, 9, .inl df2)), ((da 3), .inl (E 0, 3, .inl df3)), ((da 4), .inl (E 0, 3, .inl df4))] s.heap.size = A at hD ⊢
  have hA : ∀ q : Nat, s.heap.size ≤ q → A q := fun q h => by rw [← hAe]; exact Or.inr h
  have hS : va_S A s.heap s.heap [] := va_S.rf
  have hP : va_P D vwCl [(xh, .inr (8, G8 xa xtrialRule xdropRule xtoday)), ((xa 10), .inr (0, G0 da dlisted dshared dsailing dleastWorst)), ((da 0), .inl (E 0, 9, .inl df0)), ((da 1), .inl (E 0, 9, .inl df1)), ((da 2), .inl (E 0, 9, .inl df2)), ((da 3), .inl (E 0, 3, .inl df3)), ((da 4), .inl (E 0, 3, .inl df4))] s.heap := hP
  have hl := lv_entry ([.ref xh, .int p0, .int p1, .int p2]) (n := 5) (Nat.le_of_ble_eq_true rfl)
  rw [lg_entry_eq]
  generalize (lg_sl ([.ref xh, .int p0, .int p1, .int p2]) ++ List.replicate (5 - (lg_sl ([.ref xh, .int p0, .int p1, .int p2])).length) Slot.unset).toArray = ls at hl ⊢
  have hl : lv_has ls 5 [(0, .ref xh), (1, .int p0), (2, .int p1), (3, .int p2)] := hl
  have lo_p0 := i_lo p0; have hi_p0 := i_hi p0
  have lo_p1 := i_lo p1; have hi_p1 := i_hi p1
  have lo_p2 := i_lo p2; have hi_p2 := i_hi p2
  refine lv_iload_n hx hb dX8_deal_0 rfl (lv_at hl 1 rfl) ?_
  refine lv_iconst (v := 1) hx hb dX8_deal_1 (by decide) ?_
  refine lv_icmp_lt (tgt := 42) hx hb dX8_deal_2 (by decide) (fun c_1 => ?_) (fun c_1 => ?_)
  ·
    have ic_1 : p0.toInt < 1 := by first | exact (g_lt rfl t_1).mp c_1 | (have h := mt (g_le t_1 rfl).mpr c_1; omega)
    clear c_1
    refine lv_iconst (v := (-1)) hx hb dX8_deal_42 (by decide) ?_
    have hP9 := hP.sub (ws' := [(xh, .inr (8, G8 xa xtrialRule xdropRule xtoday)), ((xa 10), .inr (0, G0 da dlisted dshared dsailing dleastWorst)), ((da 0), .inl (E 0, 9, .inl df0)), ((da 1), .inl (E 0, 9, .inl df1)), ((da 2), .inl (E 0, 9, .inl df2)), ((da 3), .inl (E 0, 3, .inl df3)), ((da 4), .inl (E 0, 3, .inl df4))]) [0, 1, 2, 3, 4, 5, 6] rfl
    have hD9 := hD.sub (ws' := [(xh, .inr (8, G8 xa xtrialRule xdropRule xtoday)), ((xa 10), .inr (0, G0 da dlisted dshared dsailing dleastWorst)), ((da 0), .inl (E 0, 9, .inl df0)), ((da 1), .inl (E 0, 9, .inl df1)), ((da 2), .inl (E 0, 9, .inl df2)), ((da 3), .inl (E 0, 3, .inl df3)), ((da 4), .inl (E 0, 3, .inl df4))]) [0, 1, 2, 3, 4, 5, 6] (by decide) rfl
    exact W.iret (v := (-1)) hx hb hr (fun t ht hW => ⟨⟨(-1), (df1, df2, df3, df4, dleastWorst, dlisted, dsailing, dshared), rfl, ⟨(by (try dsimp only); omega), (by (try dsimp only); omega), (by (try dsimp only); omega), (by have hl0 := t_m4; have hl1 := t_m1; have hl2 := t_0; have hl3 := t_3; have hl4 := t_6; have hl5 := t_9; (try dsimp only); first | exact Or.inl ⟨by omega, by omega, rfl, rfl, rfl⟩ | exact Or.inr (Or.inl ⟨by omega, by omega, by omega, rfl, rfl, rfl⟩))⟩, by rw [ht]; exact hP9, hD9⟩, hS.F ht⟩) hS.2.2 dX8_deal_43
  ·
    have ic_1 : 1 ≤ p0.toInt := by first | exact (g_le t_1 rfl).mp c_1 | (have h := mt (g_lt rfl t_1).mpr c_1; omega)
    clear c_1
    refine lv_iload_n hx hb dX8_deal_5 rfl (lv_at hl 1 rfl) ?_
    refine lv_sipush (v := 400) hx hb dX8_deal_6 (by decide) ?_
    refine lv_icmp_gt (tgt := 42) hx hb dX8_deal_9 (by decide) (fun c_2 => ?_) (fun c_2 => ?_)
    ·
      have ic_2 : 400 < p0.toInt := by first | exact (g_lt t_400 rfl).mp c_2 | (have h := mt (g_le rfl t_400).mpr c_2; omega)
      clear c_2
      refine lv_iconst (v := (-1)) hx hb dX8_deal_42 (by decide) ?_
      have hP9 := hP.sub (ws' := [(xh, .inr (8, G8 xa xtrialRule xdropRule xtoday)), ((xa 10), .inr (0, G0 da dlisted dshared dsailing dleastWorst)), ((da 0), .inl (E 0, 9, .inl df0)), ((da 1), .inl (E 0, 9, .inl df1)), ((da 2), .inl (E 0, 9, .inl df2)), ((da 3), .inl (E 0, 3, .inl df3)), ((da 4), .inl (E 0, 3, .inl df4))]) [0, 1, 2, 3, 4, 5, 6] rfl
      have hD9 := hD.sub (ws' := [(xh, .inr (8, G8 xa xtrialRule xdropRule xtoday)), ((xa 10), .inr (0, G0 da dlisted dshared dsailing dleastWorst)), ((da 0), .inl (E 0, 9, .inl df0)), ((da 1), .inl (E 0, 9, .inl df1)), ((da 2), .inl (E 0, 9, .inl df2)), ((da 3), .inl (E 0, 3, .inl df3)), ((da 4), .inl (E 0, 3, .inl df4))]) [0, 1, 2, 3, 4, 5, 6] (by decide) rfl
      exact W.iret (v := (-1)) hx hb hr (fun t ht hW => ⟨⟨(-1), (df1, df2, df3, df4, dleastWorst, dlisted, dsailing, dshared), rfl, ⟨(by (try dsimp only); omega), (by (try dsimp only); omega), (by (try dsimp only); omega), (by have hl0 := t_m4; have hl1 := t_m1; have hl2 := t_0; have hl3 := t_3; have hl4 := t_6; have hl5 := t_9; (try dsimp only); first | exact Or.inl ⟨by omega, by omega, rfl, rfl, rfl⟩ | exact Or.inr (Or.inl ⟨by omega, by omega, by omega, rfl, rfl, rfl⟩))⟩, by rw [ht]; exact hP9, hD9⟩, hS.F ht⟩) hS.2.2 dX8_deal_43
    ·
      have ic_2 : p0.toInt ≤ 400 := by first | exact (g_le rfl t_400).mp c_2 | (have h := mt (g_lt t_400 rfl).mpr c_2; omega)
      clear c_2
      refine lv_iload_n hx hb dX8_deal_12 rfl (lv_at hl 2 rfl) ?_
      refine lv_if_lt (tgt := 42) hx hb dX8_deal_13 (by decide) (fun c_3 => ?_) (fun c_3 => ?_)
      ·
        have ic_3 : p1.toInt < 0 := by first | exact (g_lt rfl t_0).mp c_3 | (have h := mt (g_le t_0 rfl).mpr c_3; omega)
        clear c_3
        refine lv_iconst (v := (-1)) hx hb dX8_deal_42 (by decide) ?_
        have hP9 := hP.sub (ws' := [(xh, .inr (8, G8 xa xtrialRule xdropRule xtoday)), ((xa 10), .inr (0, G0 da dlisted dshared dsailing dleastWorst)), ((da 0), .inl (E 0, 9, .inl df0)), ((da 1), .inl (E 0, 9, .inl df1)), ((da 2), .inl (E 0, 9, .inl df2)), ((da 3), .inl (E 0, 3, .inl df3)), ((da 4), .inl (E 0, 3, .inl df4))]) [0, 1, 2, 3, 4, 5, 6] rfl
        have hD9 := hD.sub (ws' := [(xh, .inr (8, G8 xa xtrialRule xdropRule xtoday)), ((xa 10), .inr (0, G0 da dlisted dshared dsailing dleastWorst)), ((da 0), .inl (E 0, 9, .inl df0)), ((da 1), .inl (E 0, 9, .inl df1)), ((da 2), .inl (E 0, 9, .inl df2)), ((da 3), .inl (E 0, 3, .inl df3)), ((da 4), .inl (E 0, 3, .inl df4))]) [0, 1, 2, 3, 4, 5, 6] (by decide) rfl
        exact W.iret (v := (-1)) hx hb hr (fun t ht hW => ⟨⟨(-1), (df1, df2, df3, df4, dleastWorst, dlisted, dsailing, dshared), rfl, ⟨(by (try dsimp only); omega), (by (try dsimp only); omega), (by (try dsimp only); omega), (by have hl0 := t_m4; have hl1 := t_m1; have hl2 := t_0; have hl3 := t_3; have hl4 := t_6; have hl5 := t_9; (try dsimp only); first | exact Or.inl ⟨by omega, by omega, rfl, rfl, rfl⟩ | exact Or.inr (Or.inl ⟨by omega, by omega, by omega, rfl, rfl, rfl⟩))⟩, by rw [ht]; exact hP9, hD9⟩, hS.F ht⟩) hS.2.2 dX8_deal_43
      ·
        have ic_3 : 0 ≤ p1.toInt := by first | exact (g_le t_0 rfl).mp c_3 | (have h := mt (g_lt rfl t_0).mpr c_3; omega)
        clear c_3
        refine lv_iload_n hx hb dX8_deal_16 rfl (lv_at hl 2 rfl) ?_
        refine lv_sipush (v := 400) hx hb dX8_deal_17 (by decide) ?_
        refine lv_icmp_gt (tgt := 42) hx hb dX8_deal_20 (by decide) (fun c_4 => ?_) (fun c_4 => ?_)
        ·
          have ic_4 : 400 < p1.toInt := by first | exact (g_lt t_400 rfl).mp c_4 | (have h := mt (g_le rfl t_400).mpr c_4; omega)
          clear c_4
          refine lv_iconst (v := (-1)) hx hb dX8_deal_42 (by decide) ?_
          have hP9 := hP.sub (ws' := [(xh, .inr (8, G8 xa xtrialRule xdropRule xtoday)), ((xa 10), .inr (0, G0 da dlisted dshared dsailing dleastWorst)), ((da 0), .inl (E 0, 9, .inl df0)), ((da 1), .inl (E 0, 9, .inl df1)), ((da 2), .inl (E 0, 9, .inl df2)), ((da 3), .inl (E 0, 3, .inl df3)), ((da 4), .inl (E 0, 3, .inl df4))]) [0, 1, 2, 3, 4, 5, 6] rfl
          have hD9 := hD.sub (ws' := [(xh, .inr (8, G8 xa xtrialRule xdropRule xtoday)), ((xa 10), .inr (0, G0 da dlisted dshared dsailing dleastWorst)), ((da 0), .inl (E 0, 9, .inl df0)), ((da 1), .inl (E 0, 9, .inl df1)), ((da 2), .inl (E 0, 9, .inl df2)), ((da 3), .inl (E 0, 3, .inl df3)), ((da 4), .inl (E 0, 3, .inl df4))]) [0, 1, 2, 3, 4, 5, 6] (by decide) rfl
          exact W.iret (v := (-1)) hx hb hr (fun t ht hW => ⟨⟨(-1), (df1, df2, df3, df4, dleastWorst, dlisted, dsailing, dshared), rfl, ⟨(by (try dsimp only); omega), (by (try dsimp only); omega), (by (try dsimp only); omega), (by have hl0 := t_m4; have hl1 := t_m1; have hl2 := t_0; have hl3 := t_3; have hl4 := t_6; have hl5 := t_9; (try dsimp only); first | exact Or.inl ⟨by omega, by omega, rfl, rfl, rfl⟩ | exact Or.inr (Or.inl ⟨by omega, by omega, by omega, rfl, rfl, rfl⟩))⟩, by rw [ht]; exact hP9, hD9⟩, hS.F ht⟩) hS.2.2 dX8_deal_43
        ·
          have ic_4 : p1.toInt ≤ 400 := by first | exact (g_le rfl t_400).mp c_4 | (have h := mt (g_lt t_400 rfl).mpr c_4; omega)
          clear c_4
          refine lv_iload_n hx hb dX8_deal_23 rfl (lv_at hl 3 rfl) ?_
          refine lv_if_lt (tgt := 42) hx hb dX8_deal_24 (by decide) (fun c_5 => ?_) (fun c_5 => ?_)
          ·
            have ic_5 : p2.toInt < 0 := by first | exact (g_lt rfl t_0).mp c_5 | (have h := mt (g_le t_0 rfl).mpr c_5; omega)
            clear c_5
            refine lv_iconst (v := (-1)) hx hb dX8_deal_42 (by decide) ?_
            have hP9 := hP.sub (ws' := [(xh, .inr (8, G8 xa xtrialRule xdropRule xtoday)), ((xa 10), .inr (0, G0 da dlisted dshared dsailing dleastWorst)), ((da 0), .inl (E 0, 9, .inl df0)), ((da 1), .inl (E 0, 9, .inl df1)), ((da 2), .inl (E 0, 9, .inl df2)), ((da 3), .inl (E 0, 3, .inl df3)), ((da 4), .inl (E 0, 3, .inl df4))]) [0, 1, 2, 3, 4, 5, 6] rfl
            have hD9 := hD.sub (ws' := [(xh, .inr (8, G8 xa xtrialRule xdropRule xtoday)), ((xa 10), .inr (0, G0 da dlisted dshared dsailing dleastWorst)), ((da 0), .inl (E 0, 9, .inl df0)), ((da 1), .inl (E 0, 9, .inl df1)), ((da 2), .inl (E 0, 9, .inl df2)), ((da 3), .inl (E 0, 3, .inl df3)), ((da 4), .inl (E 0, 3, .inl df4))]) [0, 1, 2, 3, 4, 5, 6] (by decide) rfl
            exact W.iret (v := (-1)) hx hb hr (fun t ht hW => ⟨⟨(-1), (df1, df2, df3, df4, dleastWorst, dlisted, dsailing, dshared), rfl, ⟨(by (try dsimp only); omega), (by (try dsimp only); omega), (by (try dsimp only); omega), (by have hl0 := t_m4; have hl1 := t_m1; have hl2 := t_0; have hl3 := t_3; have hl4 := t_6; have hl5 := t_9; (try dsimp only); first | exact Or.inl ⟨by omega, by omega, rfl, rfl, rfl⟩ | exact Or.inr (Or.inl ⟨by omega, by omega, by omega, rfl, rfl, rfl⟩))⟩, by rw [ht]; exact hP9, hD9⟩, hS.F ht⟩) hS.2.2 dX8_deal_43
          ·
            have ic_5 : 0 ≤ p2.toInt := by first | exact (g_le t_0 rfl).mp c_5 | (have h := mt (g_lt rfl t_0).mpr c_5; omega)
            clear c_5
            refine lv_iload_n hx hb dX8_deal_27 rfl (lv_at hl 3 rfl) ?_
            refine lv_sipush (v := 400) hx hb dX8_deal_28 (by decide) ?_
            refine lv_icmp_gt (tgt := 42) hx hb dX8_deal_31 (by decide) (fun c_6 => ?_) (fun c_6 => ?_)
            ·
              have ic_6 : 400 < p2.toInt := by first | exact (g_lt t_400 rfl).mp c_6 | (have h := mt (g_le rfl t_400).mpr c_6; omega)
              clear c_6
              refine lv_iconst (v := (-1)) hx hb dX8_deal_42 (by decide) ?_
              have hP9 := hP.sub (ws' := [(xh, .inr (8, G8 xa xtrialRule xdropRule xtoday)), ((xa 10), .inr (0, G0 da dlisted dshared dsailing dleastWorst)), ((da 0), .inl (E 0, 9, .inl df0)), ((da 1), .inl (E 0, 9, .inl df1)), ((da 2), .inl (E 0, 9, .inl df2)), ((da 3), .inl (E 0, 3, .inl df3)), ((da 4), .inl (E 0, 3, .inl df4))]) [0, 1, 2, 3, 4, 5, 6] rfl
              have hD9 := hD.sub (ws' := [(xh, .inr (8, G8 xa xtrialRule xdropRule xtoday)), ((xa 10), .inr (0, G0 da dlisted dshared dsailing dleastWorst)), ((da 0), .inl (E 0, 9, .inl df0)), ((da 1), .inl (E 0, 9, .inl df1)), ((da 2), .inl (E 0, 9, .inl df2)), ((da 3), .inl (E 0, 3, .inl df3)), ((da 4), .inl (E 0, 3, .inl df4))]) [0, 1, 2, 3, 4, 5, 6] (by decide) rfl
              exact W.iret (v := (-1)) hx hb hr (fun t ht hW => ⟨⟨(-1), (df1, df2, df3, df4, dleastWorst, dlisted, dsailing, dshared), rfl, ⟨(by (try dsimp only); omega), (by (try dsimp only); omega), (by (try dsimp only); omega), (by have hl0 := t_m4; have hl1 := t_m1; have hl2 := t_0; have hl3 := t_3; have hl4 := t_6; have hl5 := t_9; (try dsimp only); first | exact Or.inl ⟨by omega, by omega, rfl, rfl, rfl⟩ | exact Or.inr (Or.inl ⟨by omega, by omega, by omega, rfl, rfl, rfl⟩))⟩, by rw [ht]; exact hP9, hD9⟩, hS.F ht⟩) hS.2.2 dX8_deal_43
            ·
              have ic_6 : p2.toInt ≤ 400 := by first | exact (g_le rfl t_400).mp c_6 | (have h := mt (g_lt t_400 rfl).mpr c_6; omega)
              clear c_6
              refine lv_iload_n hx hb dX8_deal_34 rfl (lv_at hl 2 rfl) ?_
              refine lv_if_ne (tgt := 44) hx hb dX8_deal_35 (by decide) (fun c_7 => ?_) (fun c_7 => ?_)
              ·
                have ic_7 : p1.toInt ≠ 0 := mt (g_eq rfl t_0).mpr c_7
                clear c_7
                refine lv_iload_n hx hb dX8_deal_44 rfl (lv_at hl 2 rfl) ?_
                refine lv_if_ne (tgt := 52) hx hb dX8_deal_45 (by decide) (fun c_8 => ?_) (fun c_8 => absurd c_8 (by rw [g_eq rfl t_0]; omega))
                refine lv_iload_n hx hb dX8_deal_52 rfl (lv_at hl 3 rfl) ?_
                refine lv_if_ne (tgt := 60) hx hb dX8_deal_53 (by decide) (fun c_9 => ?_) (fun c_9 => ?_)
                ·
                  have ic_9 : p2.toInt ≠ 0 := mt (g_eq rfl t_0).mpr c_9
                  clear c_9
                  refine lv_iconst (v := 3) hx hb dX8_deal_60 (by decide) ?_
                  refine lv_istore (lv' := [(4, .int 3), (0, .ref xh), (1, .int p0), (2, .int p1), (3, .int p2)]) hx hb dX8_deal_61 hl (by decide) rfl (fun ls hl => ?_)
                  refine lv_aload_n hx hb dX8_deal_63 rfl (lv_at hl 1 rfl) ?_
                  refine va_get (D := D) (ci := 8) (v := .ref (xa 10)) (C := RX8) (T := TX8) (N := 14) hx hb htb iX8 hown hK.1 hP 0 rfl rfl 10 (by decide) (htb _ k_282) (fun _ h9 => h9) rfl dX8_deal_64 ?_
                  refine va_getN (D := D) (ci := 0) (v := .int dlisted) (C := RX0) (T := TX0) (N := 9) hx hb htb iX0 hown hK.1 hP 1 rfl rfl 5 (by decide) (va_Nw.use rfl (hK.2.1 (Cond.fieldLinkNest RX8 275 "SeaWatches$Dealing" "listed" "I" "SeaWatches") (by decide +kernel))) (fun _ h9 => h9) rfl dX8_deal_67 ?_
                  refine lv_iconst (v := 3) hx hb dX8_deal_70 (by decide) ?_
                  refine lv_iload hx hb dX8_deal_71 (lv_at hl 0 rfl) ?_
                  refine lv_imul hx hb dX8_deal_73 ?_
                  refine W_top (y := .int 9) (by decide) ?_
                  refine lv_icmp_ge (tgt := 80) hx hb dX8_deal_74 (by decide) (fun c_10 => ?_) (fun c_10 => ?_)
                  ·
                    have ic_10 : 9 ≤ dlisted.toInt := by first | exact (g_le t_9 rfl).mp c_10 | (have h := mt (g_lt rfl t_9).mpr c_10; omega)
                    clear c_10
                    refine lv_aload_n hx hb dX8_deal_80 rfl (lv_at hl 1 rfl) ?_
                    refine va_get (D := D) (ci := 8) (v := .ref (xa 10)) (C := RX8) (T := TX8) (N := 14) hx hb htb iX8 hown hK.1 hP 0 rfl rfl 10 (by decide) (htb _ k_282) (fun _ h9 => h9) rfl dX8_deal_81 ?_
                    refine lv_iload hx hb dX8_deal_84 (lv_at hl 0 rfl) ?_
                    refine lv_iload_n hx hb dX8_deal_86 rfl (lv_at hl 2 rfl) ?_
                    refine lv_iload_n hx hb dX8_deal_87 rfl (lv_at hl 3 rfl) ?_
                    refine lv_iload_n hx hb dX8_deal_88 rfl (lv_at hl 4 rfl) ?_
                    have hPc := hP.sub (ws' := [((xa 10), .inr (0, G0 da dlisted dshared dsailing dleastWorst)), ((da 0), .inl (E 0, 9, .inl df0)), ((da 1), .inl (E 0, 9, .inl df1)), ((da 2), .inl (E 0, 9, .inl df2)), ((da 3), .inl (E 0, 3, .inl df3)), ((da 4), .inl (E 0, 3, .inl df4))]) [1, 2, 3, 4, 5, 6] rfl
                    have hDc := hD.sub (ws' := [((xa 10), .inr (0, G0 da dlisted dshared dsailing dleastWorst)), ((da 0), .inl (E 0, 9, .inl df0)), ((da 1), .inl (E 0, 9, .inl df1)), ((da 2), .inl (E 0, 9, .inl df2)), ((da 3), .inl (E 0, 3, .inl df3)), ((da 4), .inl (E 0, 3, .inl df4))]) [1, 2, 3, 4, 5, 6] (by decide) rfl
                    refine aft_i (runMV (rest := []) (As := [.int 3, .int p0, .int p1, .int p2]) hx hb hml hown htb hK (g_X0_shareOut l D E (xa 10) da dlisted dshared dsailing dleastWorst df0 df1 df2 df3 df4 3 p0 p1 p2 _ (by (try dsimp only); omega) (by have h0 := t_3; (try dsimp only); omega)) ok_X0_shareOut k_898 k_899 k_900 k_7 k_901 ⟨(Nat.le_of_ble_eq_true rfl), (Nat.le_of_ble_eq_true rfl)⟩ ⟨(Nat.le_of_ble_eq_true rfl), (Nat.le_of_ble_eq_true rfl)⟩ hl.1 (Nat.le_of_ble_eq_true rfl) rfl rfl dX8_deal_89 hPc hDc rfl rfl 0 rfl) hP hD hS hA [1, 2, 3, 4, 5, 6] [0] (wr := [(xh, .inr (8, G8 xa xtrialRule xdropRule xtoday))]) rfl rfl (by decide) (by decide) (fun r_11 u_13 H locs hw_12 hP hD hS => ?_)
                    clear hPc hDc
                    obtain ⟨w_14, w_15, w_16, w_17, w_18, w_19, w_20, w_21⟩ := u_13
                    try dsimp only at hw_12
                    have hP : va_P D vwCl [(xh, .inr (8, G8 xa xtrialRule xdropRule xtoday)), ((xa 10), .inr (0, G0 da w_19 w_21 w_20 w_18)), ((da 0), .inl (E 0, 9, .inl df0)), ((da 1), .inl (E 0, 9, .inl w_14)), ((da 2), .inl (E 0, 9, .inl w_15)), ((da 3), .inl (E 0, 3, .inl w_16)), ((da 4), .inl (E 0, 3, .inl w_17))] H := hP
                    have hD := toW hP hD rfl
                    obtain ⟨hw_12_0, hw_12_1, hw_12_2, hw_12_3⟩ := hw_12
                    try simp only [t_3] at hw_12_0
                    try simp only [t_3] at hw_12_1
                    try simp only [t_3] at hw_12_2
                    try simp only [t_3] at hw_12_3
                    have hP9 := hP.sub (ws' := [(xh, .inr (8, G8 xa xtrialRule xdropRule xtoday)), ((xa 10), .inr (0, G0 da w_19 w_21 w_20 w_18)), ((da 0), .inl (E 0, 9, .inl df0)), ((da 1), .inl (E 0, 9, .inl w_14)), ((da 2), .inl (E 0, 9, .inl w_15)), ((da 3), .inl (E 0, 3, .inl w_16)), ((da 4), .inl (E 0, 3, .inl w_17))]) [0, 1, 2, 3, 4, 5, 6] rfl
                    have hD9 := hD.sub (ws' := [(xh, .inr (8, G8 xa xtrialRule xdropRule xtoday)), ((xa 10), .inr (0, G0 da w_19 w_21 w_20 w_18)), ((da 0), .inl (E 0, 9, .inl df0)), ((da 1), .inl (E 0, 9, .inl w_14)), ((da 2), .inl (E 0, 9, .inl w_15)), ((da 3), .inl (E 0, 3, .inl w_16)), ((da 4), .inl (E 0, 3, .inl w_17))]) [0, 1, 2, 3, 4, 5, 6] (by decide) rfl
                    exact W.iret (v := r_11) hx hb hr (fun t ht hW => ⟨⟨r_11, (w_14, w_15, w_16, w_17, w_18, w_19, w_20, w_21), rfl, ⟨(by (try dsimp only); omega), (by (try dsimp only); omega), (by (try dsimp only); omega), (by have hl0 := t_m4; have hl1 := t_m1; have hl2 := t_0; have hl3 := t_3; have hl4 := t_6; have hl5 := t_9; (try dsimp only); refine Or.inr (Or.inr ⟨by omega, by omega, by omega, by omega, ?_⟩); unfold shI; rw [if_neg (by omega), if_neg (by omega)]; exact hw_12_3.2.2)⟩, by rw [ht]; exact hP9, hD9⟩, hS.F ht⟩) hS.2.2 dX8_deal_92
                  ·
                    have ic_10 : dlisted.toInt < 9 := by first | exact (g_lt rfl t_9).mp c_10 | (have h := mt (g_le t_9 rfl).mpr c_10; omega)
                    clear c_10
                    refine lv_bipush (v := (-4)) hx hb dX8_deal_77 (by decide) ?_
                    have hP9 := hP.sub (ws' := [(xh, .inr (8, G8 xa xtrialRule xdropRule xtoday)), ((xa 10), .inr (0, G0 da dlisted dshared dsailing dleastWorst)), ((da 0), .inl (E 0, 9, .inl df0)), ((da 1), .inl (E 0, 9, .inl df1)), ((da 2), .inl (E 0, 9, .inl df2)), ((da 3), .inl (E 0, 3, .inl df3)), ((da 4), .inl (E 0, 3, .inl df4))]) [0, 1, 2, 3, 4, 5, 6] rfl
                    have hD9 := hD.sub (ws' := [(xh, .inr (8, G8 xa xtrialRule xdropRule xtoday)), ((xa 10), .inr (0, G0 da dlisted dshared dsailing dleastWorst)), ((da 0), .inl (E 0, 9, .inl df0)), ((da 1), .inl (E 0, 9, .inl df1)), ((da 2), .inl (E 0, 9, .inl df2)), ((da 3), .inl (E 0, 3, .inl df3)), ((da 4), .inl (E 0, 3, .inl df4))]) [0, 1, 2, 3, 4, 5, 6] (by decide) rfl
                    exact W.iret (v := (-4)) hx hb hr (fun t ht hW => ⟨⟨(-4), (df1, df2, df3, df4, dleastWorst, dlisted, dsailing, dshared), rfl, ⟨(by (try dsimp only); omega), (by (try dsimp only); omega), (by (try dsimp only); omega), (by have hl0 := t_m4; have hl1 := t_m1; have hl2 := t_0; have hl3 := t_3; have hl4 := t_6; have hl5 := t_9; (try dsimp only); first | exact Or.inl ⟨by omega, by omega, rfl, rfl, rfl⟩ | exact Or.inr (Or.inl ⟨by omega, by omega, by omega, rfl, rfl, rfl⟩))⟩, by rw [ht]; exact hP9, hD9⟩, hS.F ht⟩) hS.2.2 dX8_deal_79
                ·
                  have ic_9 : p2.toInt = 0 := (g_eq rfl t_0).mp c_9
                  clear c_9
                  refine lv_iconst (v := 2) hx hb dX8_deal_56 (by decide) ?_
                  refine lv_goto (tgt := 61) hx hb dX8_deal_57 (by decide) ?_
                  refine lv_istore (lv' := [(4, .int 2), (0, .ref xh), (1, .int p0), (2, .int p1), (3, .int p2)]) hx hb dX8_deal_61 hl (by decide) rfl (fun ls hl => ?_)
                  refine lv_aload_n hx hb dX8_deal_63 rfl (lv_at hl 1 rfl) ?_
                  refine va_get (D := D) (ci := 8) (v := .ref (xa 10)) (C := RX8) (T := TX8) (N := 14) hx hb htb iX8 hown hK.1 hP 0 rfl rfl 10 (by decide) (htb _ k_282) (fun _ h9 => h9) rfl dX8_deal_64 ?_
                  refine va_getN (D := D) (ci := 0) (v := .int dlisted) (C := RX0) (T := TX0) (N := 9) hx hb htb iX0 hown hK.1 hP 1 rfl rfl 5 (by decide) (va_Nw.use rfl (hK.2.1 (Cond.fieldLinkNest RX8 275 "SeaWatches$Dealing" "listed" "I" "SeaWatches") (by decide +kernel))) (fun _ h9 => h9) rfl dX8_deal_67 ?_
                  refine lv_iconst (v := 3) hx hb dX8_deal_70 (by decide) ?_
                  refine lv_iload hx hb dX8_deal_71 (lv_at hl 0 rfl) ?_
                  refine lv_imul hx hb dX8_deal_73 ?_
                  refine W_top (y := .int 6) (by decide) ?_
                  refine lv_icmp_ge (tgt := 80) hx hb dX8_deal_74 (by decide) (fun c_22 => ?_) (fun c_22 => ?_)
                  ·
                    have ic_22 : 6 ≤ dlisted.toInt := by first | exact (g_le t_6 rfl).mp c_22 | (have h := mt (g_lt rfl t_6).mpr c_22; omega)
                    clear c_22
                    refine lv_aload_n hx hb dX8_deal_80 rfl (lv_at hl 1 rfl) ?_
                    refine va_get (D := D) (ci := 8) (v := .ref (xa 10)) (C := RX8) (T := TX8) (N := 14) hx hb htb iX8 hown hK.1 hP 0 rfl rfl 10 (by decide) (htb _ k_282) (fun _ h9 => h9) rfl dX8_deal_81 ?_
                    refine lv_iload hx hb dX8_deal_84 (lv_at hl 0 rfl) ?_
                    refine lv_iload_n hx hb dX8_deal_86 rfl (lv_at hl 2 rfl) ?_
                    refine lv_iload_n hx hb dX8_deal_87 rfl (lv_at hl 3 rfl) ?_
                    refine lv_iload_n hx hb dX8_deal_88 rfl (lv_at hl 4 rfl) ?_
                    have hPc := hP.sub (ws' := [((xa 10), .inr (0, G0 da dlisted dshared dsailing dleastWorst)), ((da 0), .inl (E 0, 9, .inl df0)), ((da 1), .inl (E 0, 9, .inl df1)), ((da 2), .inl (E 0, 9, .inl df2)), ((da 3), .inl (E 0, 3, .inl df3)), ((da 4), .inl (E 0, 3, .inl df4))]) [1, 2, 3, 4, 5, 6] rfl
                    have hDc := hD.sub (ws' := [((xa 10), .inr (0, G0 da dlisted dshared dsailing dleastWorst)), ((da 0), .inl (E 0, 9, .inl df0)), ((da 1), .inl (E 0, 9, .inl df1)), ((da 2), .inl (E 0, 9, .inl df2)), ((da 3), .inl (E 0, 3, .inl df3)), ((da 4), .inl (E 0, 3, .inl df4))]) [1, 2, 3, 4, 5, 6] (by decide) rfl
                    refine aft_i (runMV (rest := []) (As := [.int 2, .int p0, .int p1, .int p2]) hx hb hml hown htb hK (g_X0_shareOut l D E (xa 10) da dlisted dshared dsailing dleastWorst df0 df1 df2 df3 df4 2 p0 p1 p2 _ (by (try dsimp only); omega) (by have h0 := t_2; (try dsimp only); omega)) ok_X0_shareOut k_898 k_899 k_900 k_7 k_901 ⟨(Nat.le_of_ble_eq_true rfl), (Nat.le_of_ble_eq_true rfl)⟩ ⟨(Nat.le_of_ble_eq_true rfl), (Nat.le_of_ble_eq_true rfl)⟩ hl.1 (Nat.le_of_ble_eq_true rfl) rfl rfl dX8_deal_89 hPc hDc rfl rfl 0 rfl) hP hD hS hA [1, 2, 3, 4, 5, 6] [0] (wr := [(xh, .inr (8, G8 xa xtrialRule xdropRule xtoday))]) rfl rfl (by decide) (by decide) (fun r_23 u_25 H locs hw_24 hP hD hS => ?_)
                    clear hPc hDc
                    obtain ⟨w_26, w_27, w_28, w_29, w_30, w_31, w_32, w_33⟩ := u_25
                    try dsimp only at hw_24
                    have hP : va_P D vwCl [(xh, .inr (8, G8 xa xtrialRule xdropRule xtoday)), ((xa 10), .inr (0, G0 da w_31 w_33 w_32 w_30)), ((da 0), .inl (E 0, 9, .inl df0)), ((da 1), .inl (E 0, 9, .inl w_26)), ((da 2), .inl (E 0, 9, .inl w_27)), ((da 3), .inl (E 0, 3, .inl w_28)), ((da 4), .inl (E 0, 3, .inl w_29))] H := hP
                    have hD := toW hP hD rfl
                    obtain ⟨hw_24_0, hw_24_1, hw_24_2, hw_24_3⟩ := hw_24
                    try simp only [t_2] at hw_24_0
                    try simp only [t_2] at hw_24_1
                    try simp only [t_2] at hw_24_2
                    try simp only [t_2] at hw_24_3
                    have hP9 := hP.sub (ws' := [(xh, .inr (8, G8 xa xtrialRule xdropRule xtoday)), ((xa 10), .inr (0, G0 da w_31 w_33 w_32 w_30)), ((da 0), .inl (E 0, 9, .inl df0)), ((da 1), .inl (E 0, 9, .inl w_26)), ((da 2), .inl (E 0, 9, .inl w_27)), ((da 3), .inl (E 0, 3, .inl w_28)), ((da 4), .inl (E 0, 3, .inl w_29))]) [0, 1, 2, 3, 4, 5, 6] rfl
                    have hD9 := hD.sub (ws' := [(xh, .inr (8, G8 xa xtrialRule xdropRule xtoday)), ((xa 10), .inr (0, G0 da w_31 w_33 w_32 w_30)), ((da 0), .inl (E 0, 9, .inl df0)), ((da 1), .inl (E 0, 9, .inl w_26)), ((da 2), .inl (E 0, 9, .inl w_27)), ((da 3), .inl (E 0, 3, .inl w_28)), ((da 4), .inl (E 0, 3, .inl w_29))]) [0, 1, 2, 3, 4, 5, 6] (by decide) rfl
                    exact W.iret (v := r_23) hx hb hr (fun t ht hW => ⟨⟨r_23, (w_26, w_27, w_28, w_29, w_30, w_31, w_32, w_33), rfl, ⟨(by (try dsimp only); omega), (by (try dsimp only); omega), (by (try dsimp only); omega), (by have hl0 := t_m4; have hl1 := t_m1; have hl2 := t_0; have hl3 := t_3; have hl4 := t_6; have hl5 := t_9; (try dsimp only); refine Or.inr (Or.inr ⟨by omega, by omega, by omega, by omega, ?_⟩); unfold shI; rw [if_neg (by omega), if_pos (by omega)]; exact hw_24_3.2.2)⟩, by rw [ht]; exact hP9, hD9⟩, hS.F ht⟩) hS.2.2 dX8_deal_92
                  ·
                    have ic_22 : dlisted.toInt < 6 := by first | exact (g_lt rfl t_6).mp c_22 | (have h := mt (g_le t_6 rfl).mpr c_22; omega)
                    clear c_22
                    refine lv_bipush (v := (-4)) hx hb dX8_deal_77 (by decide) ?_
                    have hP9 := hP.sub (ws' := [(xh, .inr (8, G8 xa xtrialRule xdropRule xtoday)), ((xa 10), .inr (0, G0 da dlisted dshared dsailing dleastWorst)), ((da 0), .inl (E 0, 9, .inl df0)), ((da 1), .inl (E 0, 9, .inl df1)), ((da 2), .inl (E 0, 9, .inl df2)), ((da 3), .inl (E 0, 3, .inl df3)), ((da 4), .inl (E 0, 3, .inl df4))]) [0, 1, 2, 3, 4, 5, 6] rfl
                    have hD9 := hD.sub (ws' := [(xh, .inr (8, G8 xa xtrialRule xdropRule xtoday)), ((xa 10), .inr (0, G0 da dlisted dshared dsailing dleastWorst)), ((da 0), .inl (E 0, 9, .inl df0)), ((da 1), .inl (E 0, 9, .inl df1)), ((da 2), .inl (E 0, 9, .inl df2)), ((da 3), .inl (E 0, 3, .inl df3)), ((da 4), .inl (E 0, 3, .inl df4))]) [0, 1, 2, 3, 4, 5, 6] (by decide) rfl
                    exact W.iret (v := (-4)) hx hb hr (fun t ht hW => ⟨⟨(-4), (df1, df2, df3, df4, dleastWorst, dlisted, dsailing, dshared), rfl, ⟨(by (try dsimp only); omega), (by (try dsimp only); omega), (by (try dsimp only); omega), (by have hl0 := t_m4; have hl1 := t_m1; have hl2 := t_0; have hl3 := t_3; have hl4 := t_6; have hl5 := t_9; (try dsimp only); first | exact Or.inl ⟨by omega, by omega, rfl, rfl, rfl⟩ | exact Or.inr (Or.inl ⟨by omega, by omega, by omega, rfl, rfl, rfl⟩))⟩, by rw [ht]; exact hP9, hD9⟩, hS.F ht⟩) hS.2.2 dX8_deal_79
              ·
                have ic_7 : p1.toInt = 0 := (g_eq rfl t_0).mp c_7
                clear c_7
                refine lv_iload_n hx hb dX8_deal_38 rfl (lv_at hl 3 rfl) ?_
                refine lv_if_eq (tgt := 44) hx hb dX8_deal_39 (by decide) (fun c_34 => ?_) (fun c_34 => ?_)
                ·
                  have ic_34 : p2.toInt = 0 := (g_eq rfl t_0).mp c_34
                  clear c_34
                  refine lv_iload_n hx hb dX8_deal_44 rfl (lv_at hl 2 rfl) ?_
                  refine lv_if_ne (tgt := 52) hx hb dX8_deal_45 (by decide) (fun c_35 => absurd (by rw [g_eq rfl t_0]; omega) c_35) (fun c_35 => ?_)
                  refine lv_iconst (v := 1) hx hb dX8_deal_48 (by decide) ?_
                  refine lv_goto (tgt := 61) hx hb dX8_deal_49 (by decide) ?_
                  refine lv_istore (lv' := [(4, .int 1), (0, .ref xh), (1, .int p0), (2, .int p1), (3, .int p2)]) hx hb dX8_deal_61 hl (by decide) rfl (fun ls hl => ?_)
                  refine lv_aload_n hx hb dX8_deal_63 rfl (lv_at hl 1 rfl) ?_
                  refine va_get (D := D) (ci := 8) (v := .ref (xa 10)) (C := RX8) (T := TX8) (N := 14) hx hb htb iX8 hown hK.1 hP 0 rfl rfl 10 (by decide) (htb _ k_282) (fun _ h9 => h9) rfl dX8_deal_64 ?_
                  refine va_getN (D := D) (ci := 0) (v := .int dlisted) (C := RX0) (T := TX0) (N := 9) hx hb htb iX0 hown hK.1 hP 1 rfl rfl 5 (by decide) (va_Nw.use rfl (hK.2.1 (Cond.fieldLinkNest RX8 275 "SeaWatches$Dealing" "listed" "I" "SeaWatches") (by decide +kernel))) (fun _ h9 => h9) rfl dX8_deal_67 ?_
                  refine lv_iconst (v := 3) hx hb dX8_deal_70 (by decide) ?_
                  refine lv_iload hx hb dX8_deal_71 (lv_at hl 0 rfl) ?_
                  refine lv_imul hx hb dX8_deal_73 ?_
                  refine W_top (y := .int 3) (by decide) ?_
                  refine lv_icmp_ge (tgt := 80) hx hb dX8_deal_74 (by decide) (fun c_36 => ?_) (fun c_36 => ?_)
                  ·
                    have ic_36 : 3 ≤ dlisted.toInt := by first | exact (g_le t_3 rfl).mp c_36 | (have h := mt (g_lt rfl t_3).mpr c_36; omega)
                    clear c_36
                    refine lv_aload_n hx hb dX8_deal_80 rfl (lv_at hl 1 rfl) ?_
                    refine va_get (D := D) (ci := 8) (v := .ref (xa 10)) (C := RX8) (T := TX8) (N := 14) hx hb htb iX8 hown hK.1 hP 0 rfl rfl 10 (by decide) (htb _ k_282) (fun _ h9 => h9) rfl dX8_deal_81 ?_
                    refine lv_iload hx hb dX8_deal_84 (lv_at hl 0 rfl) ?_
                    refine lv_iload_n hx hb dX8_deal_86 rfl (lv_at hl 2 rfl) ?_
                    refine lv_iload_n hx hb dX8_deal_87 rfl (lv_at hl 3 rfl) ?_
                    refine lv_iload_n hx hb dX8_deal_88 rfl (lv_at hl 4 rfl) ?_
                    have hPc := hP.sub (ws' := [((xa 10), .inr (0, G0 da dlisted dshared dsailing dleastWorst)), ((da 0), .inl (E 0, 9, .inl df0)), ((da 1), .inl (E 0, 9, .inl df1)), ((da 2), .inl (E 0, 9, .inl df2)), ((da 3), .inl (E 0, 3, .inl df3)), ((da 4), .inl (E 0, 3, .inl df4))]) [1, 2, 3, 4, 5, 6] rfl
                    have hDc := hD.sub (ws' := [((xa 10), .inr (0, G0 da dlisted dshared dsailing dleastWorst)), ((da 0), .inl (E 0, 9, .inl df0)), ((da 1), .inl (E 0, 9, .inl df1)), ((da 2), .inl (E 0, 9, .inl df2)), ((da 3), .inl (E 0, 3, .inl df3)), ((da 4), .inl (E 0, 3, .inl df4))]) [1, 2, 3, 4, 5, 6] (by decide) rfl
                    refine aft_i (runMV (rest := []) (As := [.int 1, .int p0, .int p1, .int p2]) hx hb hml hown htb hK (g_X0_shareOut l D E (xa 10) da dlisted dshared dsailing dleastWorst df0 df1 df2 df3 df4 1 p0 p1 p2 _ (by (try dsimp only); omega) (by have h0 := t_1; (try dsimp only); omega)) ok_X0_shareOut k_898 k_899 k_900 k_7 k_901 ⟨(Nat.le_of_ble_eq_true rfl), (Nat.le_of_ble_eq_true rfl)⟩ ⟨(Nat.le_of_ble_eq_true rfl), (Nat.le_of_ble_eq_true rfl)⟩ hl.1 (Nat.le_of_ble_eq_true rfl) rfl rfl dX8_deal_89 hPc hDc rfl rfl 0 rfl) hP hD hS hA [1, 2, 3, 4, 5, 6] [0] (wr := [(xh, .inr (8, G8 xa xtrialRule xdropRule xtoday))]) rfl rfl (by decide) (by decide) (fun r_37 u_39 H locs hw_38 hP hD hS => ?_)
                    clear hPc hDc
                    obtain ⟨w_40, w_41, w_42, w_43, w_44, w_45, w_46, w_47⟩ := u_39
                    try dsimp only at hw_38
                    have hP : va_P D vwCl [(xh, .inr (8, G8 xa xtrialRule xdropRule xtoday)), ((xa 10), .inr (0, G0 da w_45 w_47 w_46 w_44)), ((da 0), .inl (E 0, 9, .inl df0)), ((da 1), .inl (E 0, 9, .inl w_40)), ((da 2), .inl (E 0, 9, .inl w_41)), ((da 3), .inl (E 0, 3, .inl w_42)), ((da 4), .inl (E 0, 3, .inl w_43))] H := hP
                    have hD := toW hP hD rfl
                    obtain ⟨hw_38_0, hw_38_1, hw_38_2, hw_38_3⟩ := hw_38
                    try simp only [t_1] at hw_38_0
                    try simp only [t_1] at hw_38_1
                    try simp only [t_1] at hw_38_2
                    try simp only [t_1] at hw_38_3
                    have hP9 := hP.sub (ws' := [(xh, .inr (8, G8 xa xtrialRule xdropRule xtoday)), ((xa 10), .inr (0, G0 da w_45 w_47 w_46 w_44)), ((da 0), .inl (E 0, 9, .inl df0)), ((da 1), .inl (E 0, 9, .inl w_40)), ((da 2), .inl (E 0, 9, .inl w_41)), ((da 3), .inl (E 0, 3, .inl w_42)), ((da 4), .inl (E 0, 3, .inl w_43))]) [0, 1, 2, 3, 4, 5, 6] rfl
                    have hD9 := hD.sub (ws' := [(xh, .inr (8, G8 xa xtrialRule xdropRule xtoday)), ((xa 10), .inr (0, G0 da w_45 w_47 w_46 w_44)), ((da 0), .inl (E 0, 9, .inl df0)), ((da 1), .inl (E 0, 9, .inl w_40)), ((da 2), .inl (E 0, 9, .inl w_41)), ((da 3), .inl (E 0, 3, .inl w_42)), ((da 4), .inl (E 0, 3, .inl w_43))]) [0, 1, 2, 3, 4, 5, 6] (by decide) rfl
                    exact W.iret (v := r_37) hx hb hr (fun t ht hW => ⟨⟨r_37, (w_40, w_41, w_42, w_43, w_44, w_45, w_46, w_47), rfl, ⟨(by (try dsimp only); omega), (by (try dsimp only); omega), (by (try dsimp only); omega), (by have hl0 := t_m4; have hl1 := t_m1; have hl2 := t_0; have hl3 := t_3; have hl4 := t_6; have hl5 := t_9; (try dsimp only); refine Or.inr (Or.inr ⟨by omega, by omega, by omega, by omega, ?_⟩); unfold shI; rw [if_pos (by omega)]; exact hw_38_3.2.2)⟩, by rw [ht]; exact hP9, hD9⟩, hS.F ht⟩) hS.2.2 dX8_deal_92
                  ·
                    have ic_36 : dlisted.toInt < 3 := by first | exact (g_lt rfl t_3).mp c_36 | (have h := mt (g_le t_3 rfl).mpr c_36; omega)
                    clear c_36
                    refine lv_bipush (v := (-4)) hx hb dX8_deal_77 (by decide) ?_
                    have hP9 := hP.sub (ws' := [(xh, .inr (8, G8 xa xtrialRule xdropRule xtoday)), ((xa 10), .inr (0, G0 da dlisted dshared dsailing dleastWorst)), ((da 0), .inl (E 0, 9, .inl df0)), ((da 1), .inl (E 0, 9, .inl df1)), ((da 2), .inl (E 0, 9, .inl df2)), ((da 3), .inl (E 0, 3, .inl df3)), ((da 4), .inl (E 0, 3, .inl df4))]) [0, 1, 2, 3, 4, 5, 6] rfl
                    have hD9 := hD.sub (ws' := [(xh, .inr (8, G8 xa xtrialRule xdropRule xtoday)), ((xa 10), .inr (0, G0 da dlisted dshared dsailing dleastWorst)), ((da 0), .inl (E 0, 9, .inl df0)), ((da 1), .inl (E 0, 9, .inl df1)), ((da 2), .inl (E 0, 9, .inl df2)), ((da 3), .inl (E 0, 3, .inl df3)), ((da 4), .inl (E 0, 3, .inl df4))]) [0, 1, 2, 3, 4, 5, 6] (by decide) rfl
                    exact W.iret (v := (-4)) hx hb hr (fun t ht hW => ⟨⟨(-4), (df1, df2, df3, df4, dleastWorst, dlisted, dsailing, dshared), rfl, ⟨(by (try dsimp only); omega), (by (try dsimp only); omega), (by (try dsimp only); omega), (by have hl0 := t_m4; have hl1 := t_m1; have hl2 := t_0; have hl3 := t_3; have hl4 := t_6; have hl5 := t_9; (try dsimp only); first | exact Or.inl ⟨by omega, by omega, rfl, rfl, rfl⟩ | exact Or.inr (Or.inl ⟨by omega, by omega, by omega, rfl, rfl, rfl⟩))⟩, by rw [ht]; exact hP9, hD9⟩, hS.F ht⟩) hS.2.2 dX8_deal_79
                ·
                  have ic_34 : p2.toInt ≠ 0 := mt (g_eq rfl t_0).mpr c_34
                  clear c_34
                  refine lv_iconst (v := (-1)) hx hb dX8_deal_42 (by decide) ?_
                  have hP9 := hP.sub (ws' := [(xh, .inr (8, G8 xa xtrialRule xdropRule xtoday)), ((xa 10), .inr (0, G0 da dlisted dshared dsailing dleastWorst)), ((da 0), .inl (E 0, 9, .inl df0)), ((da 1), .inl (E 0, 9, .inl df1)), ((da 2), .inl (E 0, 9, .inl df2)), ((da 3), .inl (E 0, 3, .inl df3)), ((da 4), .inl (E 0, 3, .inl df4))]) [0, 1, 2, 3, 4, 5, 6] rfl
                  have hD9 := hD.sub (ws' := [(xh, .inr (8, G8 xa xtrialRule xdropRule xtoday)), ((xa 10), .inr (0, G0 da dlisted dshared dsailing dleastWorst)), ((da 0), .inl (E 0, 9, .inl df0)), ((da 1), .inl (E 0, 9, .inl df1)), ((da 2), .inl (E 0, 9, .inl df2)), ((da 3), .inl (E 0, 3, .inl df3)), ((da 4), .inl (E 0, 3, .inl df4))]) [0, 1, 2, 3, 4, 5, 6] (by decide) rfl
                  exact W.iret (v := (-1)) hx hb hr (fun t ht hW => ⟨⟨(-1), (df1, df2, df3, df4, dleastWorst, dlisted, dsailing, dshared), rfl, ⟨(by (try dsimp only); omega), (by (try dsimp only); omega), (by (try dsimp only); omega), (by have hl0 := t_m4; have hl1 := t_m1; have hl2 := t_0; have hl3 := t_3; have hl4 := t_6; have hl5 := t_9; (try dsimp only); first | exact Or.inl ⟨by omega, by omega, rfl, rfl, rfl⟩ | exact Or.inr (Or.inl ⟨by omega, by omega, by omega, rfl, rfl, rfl⟩))⟩, by rw [ht]; exact hP9, hD9⟩, hS.F ht⟩) hS.2.2 dX8_deal_43
set_option maxHeartbeats 4000000 in
set_option maxRecDepth 100000 in
theorem g_X8_dealt (l : Launch) (D : va_G) (E : Nat → Nat) (xh : Nat) (xa : Nat → Nat) (xtrialRule : Nat) (xdropRule : Nat) (xtoday : Int32) (da : Nat → Nat) (dlisted : Int32) (dshared : Int32) (dsailing : Int32) (dleastWorst : Int32) (df2 : Nat → Int32) (p0 : Int32) (hi_x : (0 ≤ xtoday.toInt ∧ xtoday.toInt ≤ 399)) (hi_d : (0 ≤ dlisted.toInt ∧ dlisted.toInt ≤ 9) ∧ (0 ≤ dshared.toInt ∧ dshared.toInt ≤ 9) ∧ (0 ≤ dsailing.toInt ∧ dsailing.toInt ≤ 3)) : Met l yX8_dealt (wl yX8_dealt cX8_dealt 2 (some .int)) (RM 0 0 0) (rd_P D E [.ref xh, .int p0] [(xh, .inr (8, G8 xa xtrialRule xdropRule xtoday)), ((xa 10), .inr (0, G0 da dlisted dshared dsailing dleastWorst)), ((da 2), .inl (E 0, 9, .inl df2))]) (rd_Q (fun r => ((¬ (0 ≤ p0.toInt ∧ p0.toInt < dshared.toInt) ∧ r.toInt = -2000000000) ∨ ((0 ≤ p0.toInt ∧ p0.toInt < dshared.toInt) ∧ r = (df2 (p0).toNatClampNeg))))) 0 0 (fun _ => False) := by
  refine Met.ofW (cc := cX8_dealt) (maxL := 2) (ret := (some .int)) (by decide) rfl ?_
  intro p e s m args below meth c s₁ B hml hv
  obtain ⟨rfl, hP, hK⟩ := hv
  have hx := B.exec; have hb := B.bytes; have hr := B.returns
  have hts := atoms_spec (ws := wl yX8_dealt cX8_dealt 2 (some .int)) B.pre
  have htb : ∀ w ∈ tb, w.before _ s = true := fun w h => hts w (List.mem_cons_of_mem _ h)
  have hown : s.vm.findClass RX8 = some m.cls := findClass_of_methodNamed B.named
  have hlocks := B.notSynchronized
  have hP : va_P D vwCl [(xh, .inr (8, G8 xa xtrialRule xdropRule xtoday)), ((xa 10), .inr (0, G0 da dlisted dshared dsailing dleastWorst)), ((da 2), .inl (E 0, 9, .inl df2))] s.heap := hP
  have hl := lv_entry ([.ref xh, .int p0]) (n := 2) (Nat.le_of_ble_eq_true rfl)
  rw [lg_entry_eq]
  generalize (lg_sl ([.ref xh, .int p0]) ++ List.replicate (2 - (lg_sl ([.ref xh, .int p0])).length) Slot.unset).toArray = ls at hl ⊢
  have hl : lv_has ls 2 [(0, .ref xh), (1, .int p0)] := hl
  have lo_p0 := i_lo p0; have hi_p0 := i_hi p0
  refine lv_iload_n hx hb dX8_dealt_0 rfl (lv_at hl 1 rfl) ?_
  refine lv_if_lt (tgt := 15) hx hb dX8_dealt_1 (by decide) (fun c_1 => ?_) (fun c_1 => ?_)
  ·
    have ic_1 : p0.toInt < 0 := by first | exact (g_lt rfl t_0).mp c_1 | (have h := mt (g_le t_0 rfl).mpr c_1; omega)
    clear c_1
    refine lv_ldc hx hb hown (htb _ k_386) dX8_dealt_15 ?_
    refine lv_goto (tgt := 29) hx hb dX8_dealt_17 (by decide) ?_
    exact W.iret (v := (-2000000000)) hx hb hr (fun t ht hW => ⟨(-2000000000), rfl, (by have hl0 := t_m2000000000; (try dsimp only); first | exact Or.inl ⟨by omega, by omega⟩ | exact Or.inr ⟨by omega, by subst_vars; rfl⟩), ht⟩) (fun q h => by cases h) dX8_dealt_29
  ·
    have ic_1 : 0 ≤ p0.toInt := by first | exact (g_le t_0 rfl).mp c_1 | (have h := mt (g_lt rfl t_0).mpr c_1; omega)
    clear c_1
    refine lv_iload_n hx hb dX8_dealt_4 rfl (lv_at hl 1 rfl) ?_
    refine lv_aload_n hx hb dX8_dealt_5 rfl (lv_at hl 0 rfl) ?_
    refine va_get (D := D) (ci := 8) (v := .ref (xa 10)) (C := RX8) (T := TX8) (N := 14) hx hb htb iX8 hown hK.1 hP 0 rfl rfl 10 (by decide) (htb _ k_282) (fun _ h9 => h9) rfl dX8_dealt_6 ?_
    refine va_getN (D := D) (ci := 0) (v := .int dshared) (C := RX0) (T := TX0) (N := 9) hx hb htb iX0 hown hK.1 hP 1 rfl rfl 6 (by decide) (va_Nw.use rfl (hK.2.1 (Cond.fieldLinkNest RX8 282 "SeaWatches$Dealing" "shared" "I" "SeaWatches") (by decide +kernel))) (fun _ h9 => h9) rfl dX8_dealt_9 ?_
    refine lv_icmp_lt (tgt := 20) hx hb dX8_dealt_12 (by decide) (fun c_2 => ?_) (fun c_2 => ?_)
    ·
      have ic_2 : p0.toInt < dshared.toInt := by first | exact (g_lt rfl rfl).mp c_2 | (have h := mt (g_le rfl rfl).mpr c_2; omega)
      clear c_2
      refine lv_aload_n hx hb dX8_dealt_20 rfl (lv_at hl 0 rfl) ?_
      refine va_get (D := D) (ci := 8) (v := .ref (xa 10)) (C := RX8) (T := TX8) (N := 14) hx hb htb iX8 hown hK.1 hP 0 rfl rfl 10 (by decide) (htb _ k_282) (fun _ h9 => h9) rfl dX8_dealt_21 ?_
      refine va_getN (D := D) (ci := 0) (v := .ref (da 2)) (C := RX0) (T := TX0) (N := 9) hx hb htb iX0 hown hK.1 hP 1 rfl rfl 2 (by decide) (va_Nw.use rfl (hK.2.1 (Cond.fieldLinkNest RX8 285 "SeaWatches$Dealing" "best" "[I" "SeaWatches") (by decide +kernel))) (fun _ h9 => h9) rfl dX8_dealt_24 ?_
      refine lv_iload_n hx hb dX8_dealt_27 rfl (lv_at hl 1 rfl) ?_
      refine va_iald hx hb hK.1 hP 2 0 rfl rfl (g_in rfl (by omega) (by omega)) dX8_dealt_28 ?_
      refine lv_topi (fun z_3 ez_3 => ?_)
      have kz_3 := congrArg Int32.toInt ez_3
      exact W.iret (v := z_3) hx hb hr (fun t ht hW => ⟨z_3, rfl, (by (try dsimp only); first | exact Or.inr ⟨by omega, by subst_vars; rfl⟩ | exact Or.inl ⟨by omega, by omega⟩), ht⟩) (fun q h => by cases h) dX8_dealt_29
    ·
      have ic_2 : dshared.toInt ≤ p0.toInt := by first | exact (g_le rfl rfl).mp c_2 | (have h := mt (g_lt rfl rfl).mpr c_2; omega)
      clear c_2
      refine lv_ldc hx hb hown (htb _ k_386) dX8_dealt_15 ?_
      refine lv_goto (tgt := 29) hx hb dX8_dealt_17 (by decide) ?_
      exact W.iret (v := (-2000000000)) hx hb hr (fun t ht hW => ⟨(-2000000000), rfl, (by have hl0 := t_m2000000000; (try dsimp only); first | exact Or.inl ⟨by omega, by omega⟩ | exact Or.inr ⟨by omega, by subst_vars; rfl⟩), ht⟩) (fun q h => by cases h) dX8_dealt_29
set_option maxHeartbeats 4000000 in
set_option maxRecDepth 100000 in
theorem g_X8_count (l : Launch) (D : va_G) (E : Nat → Nat) (xh : Nat) (xa : Nat → Nat) (xtrialRule : Nat) (xdropRule : Nat) (xtoday : Int32) (xf1 : Nat → Int32) (xf4 : Nat → Option Nat) (y0h : Nat) (y0a : Nat → Nat) (y0sights : Int32) (y0stage : Int32) (y0sailed : Int32) (y0voyage : Int32) (y1h : Nat) (y1a : Nat → Nat) (y1sights : Int32) (y1stage : Int32) (y1sailed : Int32) (y1voyage : Int32) (y2h : Nat) (y2a : Nat → Nat) (y2sights : Int32) (y2stage : Int32) (y2sailed : Int32) (y2voyage : Int32) (y3h : Nat) (y3a : Nat → Nat) (y3sights : Int32) (y3stage : Int32) (y3sailed : Int32) (y3voyage : Int32) (y4h : Nat) (y4a : Nat → Nat) (y4sights : Int32) (y4stage : Int32) (y4sailed : Int32) (y4voyage : Int32) (oa : Nat → Nat) (osize : Int32) (ta : Nat → Nat) (tsize : Int32) (trule : Nat) (twords : Nat) (tat : Int32) (tword : Int32) (twordAt : Int32) (tvalue : Int32) (da : Nat → Nat) (dlisted : Int32) (dshared : Int32) (dsailing : Int32) (dleastWorst : Int32) (p0 : Int32) (hi_x : (0 ≤ xtoday.toInt ∧ xtoday.toInt ≤ 399)) (hi_y0 : (0 ≤ y0sights.toInt ∧ y0sights.toInt ≤ 40)) (hi_y1 : (0 ≤ y1sights.toInt ∧ y1sights.toInt ≤ 40)) (hi_y2 : (0 ≤ y2sights.toInt ∧ y2sights.toInt ≤ 40)) (hi_y3 : (0 ≤ y3sights.toInt ∧ y3sights.toInt ≤ 40)) (hi_y4 : (0 ≤ y4sights.toInt ∧ y4sights.toInt ≤ 40)) (hi_o : (0 ≤ osize.toInt ∧ osize.toInt ≤ 60)) (hi_t : (0 ≤ tsize.toInt ∧ tsize.toInt ≤ 120)) (hi_d : (0 ≤ dlisted.toInt ∧ dlisted.toInt ≤ 9) ∧ (0 ≤ dshared.toInt ∧ dshared.toInt ≤ 9) ∧ (0 ≤ dsailing.toInt ∧ dsailing.toInt ≤ 3)) (hq0 : xf4 (0 : Int32).toNatClampNeg = some y0h) (hq1 : xf4 (1 : Int32).toNatClampNeg = some y1h) (hq2 : xf4 (2 : Int32).toNatClampNeg = some y2h) (hq3 : xf4 (3 : Int32).toNatClampNeg = some y3h) (hq4 : xf4 (4 : Int32).toNatClampNeg = some y4h) : Met l yX8_count (wl yX8_count cX8_count 2 (some .int)) (RM 1 0 0) (rd_P D E [.ref xh, .int p0] [(xh, .inr (8, G8 xa xtrialRule xdropRule xtoday)), ((xa 1), .inl (E 0, 16, .inl xf1)), ((xa 4), .inl (E 4, 5, .inr (.inr (.inr (.inr xf4))))), (y0h, .inr (5, G5 y0a y0sights y0stage y0sailed y0voyage)), (y1h, .inr (5, G5 y1a y1sights y1stage y1sailed y1voyage)), (y2h, .inr (5, G5 y2a y2sights y2stage y2sailed y2voyage)), (y3h, .inr (5, G5 y3a y3sights y3stage y3sailed y3voyage)), (y4h, .inr (5, G5 y4a y4sights y4stage y4sailed y4voyage)), ((xa 6), .inr (2, G2 oa osize)), ((xa 9), .inr (6, G6 ta tsize trule twords tat tword twordAt tvalue)), ((xa 10), .inr (0, G0 da dlisted dshared dsailing dleastWorst))]) (rd_Q (fun r => ((p0.toInt = 0 ∧ r.toInt = cnK xf1 0 16 + cnK xf1 1 16) ∨ (p0.toInt = 1 ∧ r.toInt = xtoday.toInt) ∨ (p0.toInt = 2 ∧ r.toInt = osize.toInt) ∨ (p0.toInt = 3 ∧ r.toInt = (if y0stage.toInt = 1 then 1 else 0) + (if y1stage.toInt = 1 then 1 else 0) + (if y2stage.toInt = 1 then 1 else 0) + (if y3stage.toInt = 1 then 1 else 0) + (if y4stage.toInt = 1 then 1 else 0)) ∨ (p0.toInt = 4 ∧ r.toInt = tsize.toInt) ∨ (p0.toInt = 5 ∧ r.toInt = cnK xf1 2 16) ∨ (p0.toInt = 6 ∧ r.toInt = dlisted.toInt) ∨ (¬ (0 ≤ p0.toInt ∧ p0.toInt ≤ 6) ∧ r.toInt = -1)))) 0 0 (fun _ => False) := by
  refine Met.ofW (cc := cX8_count) (maxL := 2) (ret := (some .int)) (by decide) rfl ?_
  intro p e s m args below meth c s₁ B hml hv
  obtain ⟨rfl, hP, hK⟩ := hv
  have hx := B.exec; have hb := B.bytes; have hr := B.returns
  have hts := atoms_spec (ws := wl yX8_count cX8_count 2 (some .int)) B.pre
  have htb : ∀ w ∈ tb, w.before _ s = true := fun w h => hts w (List.mem_cons_of_mem _ h)
  have hown : s.vm.findClass RX8 = some m.cls := findClass_of_methodNamed B.named
  have hlocks := B.notSynchronized
  have hP : va_P D vwCl [(xh, .inr (8, G8 xa xtrialRule xdropRule xtoday)), ((xa 1), .inl (E 0, 16, .inl xf1)), ((xa 4), .inl (E 4, 5, .inr (.inr (.inr (.inr xf4))))), (y0h, .inr (5, G5 y0a y0sights y0stage y0sailed y0voyage)), (y1h, .inr (5, G5 y1a y1sights y1stage y1sailed y1voyage)), (y2h, .inr (5, G5 y2a y2sights y2stage y2sailed y2voyage)), (y3h, .inr (5, G5 y3a y3sights y3stage y3sailed y3voyage)), (y4h, .inr (5, G5 y4a y4sights y4stage y4sailed y4voyage)), ((xa 6), .inr (2, G2 oa osize)), ((xa 9), .inr (6, G6 ta tsize trule twords tat tword twordAt tvalue)), ((xa 10), .inr (0, G0 da dlisted dshared dsailing dleastWorst))] s.heap := hP
  have hl := lv_entry ([.ref xh, .int p0]) (n := 2) (Nat.le_of_ble_eq_true rfl)
  rw [lg_entry_eq]
  generalize (lg_sl ([.ref xh, .int p0]) ++ List.replicate (2 - (lg_sl ([.ref xh, .int p0])).length) Slot.unset).toArray = ls at hl ⊢
  have hl : lv_has ls 2 [(0, .ref xh), (1, .int p0)] := hl
  have lo_p0 := i_lo p0; have hi_p0 := i_hi p0
  refine lv_iload_n hx hb dX8_count_0 rfl (lv_at hl 1 rfl) ?_
  by_cases h_1 : p0.toInt < 0 ∨ 6 < p0.toInt
  ·
    refine lv_tableOut (tgt := 96) hx hb dX8_count_1 h_1 (by decide) ?_
    refine lv_iconst (v := (-1)) hx hb dX8_count_96 (by decide) ?_
    exact W.iret (v := (-1)) hx hb hr (fun t ht hW => ⟨(-1), rfl, (by have hl0 := t_m1; (try dsimp only); first | exact Or.inl ⟨by omega, by omega⟩ | exact Or.inr (Or.inl ⟨by omega, by omega⟩) | exact Or.inr (Or.inr (Or.inl ⟨by omega, by omega⟩)) | exact Or.inr (Or.inr (Or.inr (Or.inl ⟨by omega, by assumption⟩))) | exact Or.inr (Or.inr (Or.inr (Or.inr (Or.inl ⟨by omega, by omega⟩)))) | exact Or.inr (Or.inr (Or.inr (Or.inr (Or.inr (Or.inl ⟨by omega, by omega⟩))))) | exact Or.inr (Or.inr (Or.inr (Or.inr (Or.inr (Or.inr (Or.inl ⟨by omega, by omega⟩)))))) | exact Or.inr (Or.inr (Or.inr (Or.inr (Or.inr (Or.inr (Or.inr ⟨by omega, by omega⟩))))))), ht⟩) (fun q h => by cases h) dX8_count_97
  ·
    have h_2 : p0.toInt = 0 ∨ p0.toInt = 1 ∨ p0.toInt = 2 ∨ p0.toInt = 3 ∨ p0.toInt = 4 ∨ p0.toInt = 5 ∨ p0.toInt = 6 := by omega
    rcases h_2 with h_2 | h_2 | h_2 | h_2 | h_2 | h_2 | h_2
    ·
      refine lv_tableIn (off := 43) (tgt := 44) hx hb dX8_count_1 (by omega) (by omega) (by rw [h_2]; decide) (by decide) ?_
      refine lv_aload_n hx hb dX8_count_44 rfl (lv_at hl 0 rfl) ?_
      refine lv_iconst (v := 0) hx hb dX8_count_45 (by decide) ?_
      refine callRV (rest := []) (As := [.int 0]) hx hb hml hown htb hK (g_X8_placesWith l D E xh xa xtrialRule xdropRule xtoday xf1 0 (by (try dsimp only); omega)) ok_X8_placesWith k_945 k_947 ks_37 k_1 k_948 ⟨(Nat.le_of_ble_eq_true rfl), (Nat.le_of_ble_eq_true rfl)⟩ ⟨(Nat.le_of_ble_eq_true rfl), (Nat.le_of_ble_eq_true rfl)⟩ hl.1 (Nat.le_of_ble_eq_true rfl) rfl rfl dX8_count_46 (hP.sub (ws' := [(xh, .inr (8, G8 xa xtrialRule xdropRule xtoday)), ((xa 1), .inl (E 0, 16, .inl xf1))]) [0, 1] rfl) rfl rfl 0 rfl (fun r_3 hw_4 => ?_)
      try simp only [t_0] at hw_4
      refine lv_aload_n hx hb dX8_count_49 rfl (lv_at hl 0 rfl) ?_
      refine lv_iconst (v := 1) hx hb dX8_count_50 (by decide) ?_
      refine callRV (rest := [.int r_3]) (As := [.int 1]) hx hb hml hown htb hK (g_X8_placesWith l D E xh xa xtrialRule xdropRule xtoday xf1 1 (by (try dsimp only); omega)) ok_X8_placesWith k_945 k_947 ks_37 k_1 k_948 ⟨(Nat.le_of_ble_eq_true rfl), (Nat.le_of_ble_eq_true rfl)⟩ ⟨(Nat.le_of_ble_eq_true rfl), (Nat.le_of_ble_eq_true rfl)⟩ hl.1 (Nat.le_of_ble_eq_true rfl) rfl rfl dX8_count_51 (hP.sub (ws' := [(xh, .inr (8, G8 xa xtrialRule xdropRule xtoday)), ((xa 1), .inl (E 0, 16, .inl xf1))]) [0, 1] rfl) rfl rfl 0 rfl (fun r_6 hw_7 => ?_)
      try simp only [t_1] at hw_7
      refine lv_iadd hx hb dX8_count_54 ?_
      refine lv_topi (fun z_9 ez_9 => ?_)
      have jz_9 : z_9.toInt = r_3.toInt + r_6.toInt := by rw [ez_9]; exact g_add rfl rfl (by omega) (by omega)
      exact W.iret (v := z_9) hx hb hr (fun t ht hW => ⟨z_9, rfl, (by (try dsimp only); first | exact Or.inl ⟨by omega, by omega⟩ | exact Or.inr (Or.inl ⟨by omega, by omega⟩) | exact Or.inr (Or.inr (Or.inl ⟨by omega, by omega⟩)) | exact Or.inr (Or.inr (Or.inr (Or.inl ⟨by omega, by assumption⟩))) | exact Or.inr (Or.inr (Or.inr (Or.inr (Or.inl ⟨by omega, by omega⟩)))) | exact Or.inr (Or.inr (Or.inr (Or.inr (Or.inr (Or.inl ⟨by omega, by omega⟩))))) | exact Or.inr (Or.inr (Or.inr (Or.inr (Or.inr (Or.inr (Or.inl ⟨by omega, by omega⟩)))))) | exact Or.inr (Or.inr (Or.inr (Or.inr (Or.inr (Or.inr (Or.inr ⟨by omega, by omega⟩))))))), ht⟩) (fun q h => by cases h) dX8_count_55
    ·
      refine lv_tableIn (off := 55) (tgt := 56) hx hb dX8_count_1 (by omega) (by omega) (by rw [h_2]; decide) (by decide) ?_
      refine lv_aload_n hx hb dX8_count_56 rfl (lv_at hl 0 rfl) ?_
      refine va_get (D := D) (ci := 8) (v := .int xtoday) (C := RX8) (T := TX8) (N := 14) hx hb htb iX8 hown hK.1 hP 0 rfl rfl 13 (by decide) (htb _ k_285) (fun _ h9 => h9) rfl dX8_count_57 ?_
      exact W.iret (v := xtoday) hx hb hr (fun t ht hW => ⟨xtoday, rfl, (by (try dsimp only); first | exact Or.inl ⟨by omega, by omega⟩ | exact Or.inr (Or.inl ⟨by omega, by omega⟩) | exact Or.inr (Or.inr (Or.inl ⟨by omega, by omega⟩)) | exact Or.inr (Or.inr (Or.inr (Or.inl ⟨by omega, by assumption⟩))) | exact Or.inr (Or.inr (Or.inr (Or.inr (Or.inl ⟨by omega, by omega⟩)))) | exact Or.inr (Or.inr (Or.inr (Or.inr (Or.inr (Or.inl ⟨by omega, by omega⟩))))) | exact Or.inr (Or.inr (Or.inr (Or.inr (Or.inr (Or.inr (Or.inl ⟨by omega, by omega⟩)))))) | exact Or.inr (Or.inr (Or.inr (Or.inr (Or.inr (Or.inr (Or.inr ⟨by omega, by omega⟩))))))), ht⟩) (fun q h => by cases h) dX8_count_60
    ·
      refine lv_tableIn (off := 60) (tgt := 61) hx hb dX8_count_1 (by omega) (by omega) (by rw [h_2]; decide) (by decide) ?_
      refine lv_aload_n hx hb dX8_count_61 rfl (lv_at hl 0 rfl) ?_
      refine va_get (D := D) (ci := 8) (v := .ref (xa 6)) (C := RX8) (T := TX8) (N := 14) hx hb htb iX8 hown hK.1 hP 0 rfl rfl 6 (by decide) (htb _ k_278) (fun _ h9 => h9) rfl dX8_count_62 ?_
      refine va_getN (D := D) (ci := 2) (v := .int osize) (C := RX2) (T := TX2) (N := 6) hx hb htb iX2 hown hK.1 hP 8 rfl rfl 5 (by decide) (va_Nw.use rfl (hK.2.1 (Cond.fieldLinkNest RX8 142 "SeaWatches$Offs" "size" "I" "SeaWatches") (by decide +kernel))) (fun _ h9 => h9) rfl dX8_count_65 ?_
      exact W.iret (v := osize) hx hb hr (fun t ht hW => ⟨osize, rfl, (by (try dsimp only); first | exact Or.inl ⟨by omega, by omega⟩ | exact Or.inr (Or.inl ⟨by omega, by omega⟩) | exact Or.inr (Or.inr (Or.inl ⟨by omega, by omega⟩)) | exact Or.inr (Or.inr (Or.inr (Or.inl ⟨by omega, by assumption⟩))) | exact Or.inr (Or.inr (Or.inr (Or.inr (Or.inl ⟨by omega, by omega⟩)))) | exact Or.inr (Or.inr (Or.inr (Or.inr (Or.inr (Or.inl ⟨by omega, by omega⟩))))) | exact Or.inr (Or.inr (Or.inr (Or.inr (Or.inr (Or.inr (Or.inl ⟨by omega, by omega⟩)))))) | exact Or.inr (Or.inr (Or.inr (Or.inr (Or.inr (Or.inr (Or.inr ⟨by omega, by omega⟩))))))), ht⟩) (fun q h => by cases h) dX8_count_68
    ·
      refine lv_tableIn (off := 68) (tgt := 69) hx hb dX8_count_1 (by omega) (by omega) (by rw [h_2]; decide) (by decide) ?_
      refine lv_aload_n hx hb dX8_count_69 rfl (lv_at hl 0 rfl) ?_
      refine callRV (rest := []) (As := []) hx hb hml hown htb hK (g_X8_shipsAtSea l D E xh xa xtrialRule xdropRule xtoday xf4 y0h y0a y0sights y0stage y0sailed y0voyage y1h y1a y1sights y1stage y1sailed y1voyage y2h y2a y2sights y2stage y2sailed y2voyage y3h y3a y3sights y3stage y3sailed y3voyage y4h y4a y4sights y4stage y4sailed y4voyage (by (try dsimp only); omega) (by (try dsimp only); omega) (by (try dsimp only); omega) (by (try dsimp only); omega) (by (try dsimp only); omega) (by (try dsimp only); omega) hq0 hq1 hq2 hq3 hq4) ok_X8_shipsAtSea k_949 k_951 ks_38 k_1 k_952 ⟨(Nat.le_of_ble_eq_true rfl), (Nat.le_of_ble_eq_true rfl)⟩ ⟨(Nat.le_of_ble_eq_true rfl), (Nat.le_of_ble_eq_true rfl)⟩ hl.1 (Nat.le_of_ble_eq_true rfl) rfl rfl dX8_count_70 (hP.sub (ws' := [(xh, .inr (8, G8 xa xtrialRule xdropRule xtoday)), ((xa 4), .inl (E 4, 5, .inr (.inr (.inr (.inr xf4))))), (y0h, .inr (5, G5 y0a y0sights y0stage y0sailed y0voyage)), (y1h, .inr (5, G5 y1a y1sights y1stage y1sailed y1voyage)), (y2h, .inr (5, G5 y2a y2sights y2stage y2sailed y2voyage)), (y3h, .inr (5, G5 y3a y3sights y3stage y3sailed y3voyage)), (y4h, .inr (5, G5 y4a y4sights y4stage y4sailed y4voyage))]) [0, 2, 3, 4, 5, 6, 7] rfl) rfl rfl 0 rfl (fun r_10 hw_11 => ?_)
      exact W.iret (v := r_10) hx hb hr (fun t ht hW => ⟨r_10, rfl, (by (try dsimp only); first | exact Or.inl ⟨by omega, by omega⟩ | exact Or.inr (Or.inl ⟨by omega, by omega⟩) | exact Or.inr (Or.inr (Or.inl ⟨by omega, by omega⟩)) | exact Or.inr (Or.inr (Or.inr (Or.inl ⟨by omega, by assumption⟩))) | exact Or.inr (Or.inr (Or.inr (Or.inr (Or.inl ⟨by omega, by omega⟩)))) | exact Or.inr (Or.inr (Or.inr (Or.inr (Or.inr (Or.inl ⟨by omega, by omega⟩))))) | exact Or.inr (Or.inr (Or.inr (Or.inr (Or.inr (Or.inr (Or.inl ⟨by omega, by omega⟩)))))) | exact Or.inr (Or.inr (Or.inr (Or.inr (Or.inr (Or.inr (Or.inr ⟨by omega, by omega⟩))))))), ht⟩) (fun q h => by cases h) dX8_count_73
    ·
      refine lv_tableIn (off := 73) (tgt := 74) hx hb dX8_count_1 (by omega) (by omega) (by rw [h_2]; decide) (by decide) ?_
      refine lv_aload_n hx hb dX8_count_74 rfl (lv_at hl 0 rfl) ?_
      refine va_get (D := D) (ci := 8) (v := .ref (xa 9)) (C := RX8) (T := TX8) (N := 14) hx hb htb iX8 hown hK.1 hP 0 rfl rfl 9 (by decide) (htb _ k_281) (fun _ h9 => h9) rfl dX8_count_75 ?_
      refine va_getN (D := D) (ci := 6) (v := .int tsize) (C := RX6) (T := TX6) (N := 8) hx hb htb iX6 hown hK.1 hP 9 rfl rfl 1 (by decide) (va_Nw.use rfl (hK.2.1 (Cond.fieldLinkNest RX8 179 "SeaWatches$Tape" "size" "I" "SeaWatches") (by decide +kernel))) (fun _ h9 => h9) rfl dX8_count_78 ?_
      exact W.iret (v := tsize) hx hb hr (fun t ht hW => ⟨tsize, rfl, (by (try dsimp only); first | exact Or.inl ⟨by omega, by omega⟩ | exact Or.inr (Or.inl ⟨by omega, by omega⟩) | exact Or.inr (Or.inr (Or.inl ⟨by omega, by omega⟩)) | exact Or.inr (Or.inr (Or.inr (Or.inl ⟨by omega, by assumption⟩))) | exact Or.inr (Or.inr (Or.inr (Or.inr (Or.inl ⟨by omega, by omega⟩)))) | exact Or.inr (Or.inr (Or.inr (Or.inr (Or.inr (Or.inl ⟨by omega, by omega⟩))))) | exact Or.inr (Or.inr (Or.inr (Or.inr (Or.inr (Or.inr (Or.inl ⟨by omega, by omega⟩)))))) | exact Or.inr (Or.inr (Or.inr (Or.inr (Or.inr (Or.inr (Or.inr ⟨by omega, by omega⟩))))))), ht⟩) (fun q h => by cases h) dX8_count_81
    ·
      refine lv_tableIn (off := 81) (tgt := 82) hx hb dX8_count_1 (by omega) (by omega) (by rw [h_2]; decide) (by decide) ?_
      refine lv_aload_n hx hb dX8_count_82 rfl (lv_at hl 0 rfl) ?_
      refine lv_iconst (v := 2) hx hb dX8_count_83 (by decide) ?_
      refine callRV (rest := []) (As := [.int 2]) hx hb hml hown htb hK (g_X8_placesWith l D E xh xa xtrialRule xdropRule xtoday xf1 2 (by (try dsimp only); omega)) ok_X8_placesWith k_945 k_947 ks_37 k_1 k_948 ⟨(Nat.le_of_ble_eq_true rfl), (Nat.le_of_ble_eq_true rfl)⟩ ⟨(Nat.le_of_ble_eq_true rfl), (Nat.le_of_ble_eq_true rfl)⟩ hl.1 (Nat.le_of_ble_eq_true rfl) rfl rfl dX8_count_84 (hP.sub (ws' := [(xh, .inr (8, G8 xa xtrialRule xdropRule xtoday)), ((xa 1), .inl (E 0, 16, .inl xf1))]) [0, 1] rfl) rfl rfl 0 rfl (fun r_13 hw_14 => ?_)
      try simp only [t_2] at hw_14
      exact W.iret (v := r_13) hx hb hr (fun t ht hW => ⟨r_13, rfl, (by (try dsimp only); first | exact Or.inl ⟨by omega, by omega⟩ | exact Or.inr (Or.inl ⟨by omega, by omega⟩) | exact Or.inr (Or.inr (Or.inl ⟨by omega, by omega⟩)) | exact Or.inr (Or.inr (Or.inr (Or.inl ⟨by omega, by assumption⟩))) | exact Or.inr (Or.inr (Or.inr (Or.inr (Or.inl ⟨by omega, by omega⟩)))) | exact Or.inr (Or.inr (Or.inr (Or.inr (Or.inr (Or.inl ⟨by omega, by omega⟩))))) | exact Or.inr (Or.inr (Or.inr (Or.inr (Or.inr (Or.inr (Or.inl ⟨by omega, by omega⟩)))))) | exact Or.inr (Or.inr (Or.inr (Or.inr (Or.inr (Or.inr (Or.inr ⟨by omega, by omega⟩))))))), ht⟩) (fun q h => by cases h) dX8_count_87
    ·
      refine lv_tableIn (off := 87) (tgt := 88) hx hb dX8_count_1 (by omega) (by omega) (by rw [h_2]; decide) (by decide) ?_
      refine lv_aload_n hx hb dX8_count_88 rfl (lv_at hl 0 rfl) ?_
      refine va_get (D := D) (ci := 8) (v := .ref (xa 10)) (C := RX8) (T := TX8) (N := 14) hx hb htb iX8 hown hK.1 hP 0 rfl rfl 10 (by decide) (htb _ k_282) (fun _ h9 => h9) rfl dX8_count_89 ?_
      refine va_getN (D := D) (ci := 0) (v := .int dlisted) (C := RX0) (T := TX0) (N := 9) hx hb htb iX0 hown hK.1 hP 10 rfl rfl 5 (by decide) (va_Nw.use rfl (hK.2.1 (Cond.fieldLinkNest RX8 275 "SeaWatches$Dealing" "listed" "I" "SeaWatches") (by decide +kernel))) (fun _ h9 => h9) rfl dX8_count_92 ?_
      exact W.iret (v := dlisted) hx hb hr (fun t ht hW => ⟨dlisted, rfl, (by (try dsimp only); first | exact Or.inl ⟨by omega, by omega⟩ | exact Or.inr (Or.inl ⟨by omega, by omega⟩) | exact Or.inr (Or.inr (Or.inl ⟨by omega, by omega⟩)) | exact Or.inr (Or.inr (Or.inr (Or.inl ⟨by omega, by assumption⟩))) | exact Or.inr (Or.inr (Or.inr (Or.inr (Or.inl ⟨by omega, by omega⟩)))) | exact Or.inr (Or.inr (Or.inr (Or.inr (Or.inr (Or.inl ⟨by omega, by omega⟩))))) | exact Or.inr (Or.inr (Or.inr (Or.inr (Or.inr (Or.inr (Or.inl ⟨by omega, by omega⟩)))))) | exact Or.inr (Or.inr (Or.inr (Or.inr (Or.inr (Or.inr (Or.inr ⟨by omega, by omega⟩))))))), ht⟩) (fun q h => by cases h) dX8_count_95
