set_option maxHeartbeats 4000000 in
set_option maxRecDepth 100000 in
theorem g_X5_leave (l : Launch) (D : va_G) (E : Nat → Nat) (yh : Nat) (ya : Nat → Nat) (ysights : Int32) (ystage : Int32) (ysailed : Int32) (yvoyage : Int32) (p0 : Int32) (sz : Nat) (hi_y : (0 ≤ ysights.toInt ∧ ysights.toInt ≤ 40)) : Met l yX5_leave (wl yX5_leave cX5_leave 2 none) (RM 0 0 0) (mu_P D E [.ref yh, .int p0] [(yh, .inr (5, G5 ya ysights ystage ysailed yvoyage))] sz) (va_Qv (fun (u : (Int32) × (Int32) × (Int32)) => (0 ≤ u.2.1.toInt ∧ u.2.1.toInt ≤ 40) ∧ (u.2.2.toInt = 1 ∧ u.1 = p0 ∧ u.2.1.toInt = 0)) (mu_B D (va_A [(yh, .inr (5, G5 ya ysights ystage ysailed yvoyage))] sz) (fun (u : (Int32) × (Int32) × (Int32)) => [(yh, .inr (5, G5 ya u.2.1 u.2.2 u.1 yvoyage))])) (va_A [(yh, .inr (5, G5 ya ysights ystage ysailed yvoyage))] sz)) 0 0 (va_A [(yh, .inr (5, G5 ya ysights ystage ysailed yvoyage))] sz) := by
  refine Met.ofW (cc := cX5_leave) (maxL := 2) (ret := none) (by decide) rfl ?_
  intro p e s m args below meth c s₁ B hml hv
  obtain ⟨rfl, hsz, hP, hK, hD0⟩ := hv
  have hx := B.exec; have hb := B.bytes; have hr := B.returns
  have hts := atoms_spec (ws := wl yX5_leave cX5_leave 2 none) B.pre
  have htb : ∀ w ∈ tb, w.before _ s = true := fun w h => hts w (List.mem_cons_of_mem _ h)
  have hown : s.vm.findClass RX5 = some m.cls := findClass_of_methodNamed B.named
  have hlocks := B.notSynchronized
  subst hsz
  have hD := hD0.self (sz := s.heap.size)
  generalize hAe : va_A [(yh, .inr (5, G5 ya ysights ystage ysailed yvoyage))] s.heap.size = A at hD ⊢
  have hA : ∀ q : Nat, s.heap.size ≤ q → A q := fun q h => by rw [← hAe]; exact Or.inr h
  have hS : va_S A s.heap s.heap [] := va_S.rf
  have hP : va_P D vwCl [(yh, .inr (5, G5 ya ysights ystage ysailed yvoyage))] s.heap := hP
  have hl := lv_entry ([.ref yh, .int p0]) (n := 2) (Nat.le_of_ble_eq_true rfl)
  rw [lg_entry_eq]
  generalize (lg_sl ([.ref yh, .int p0]) ++ List.replicate (2 - (lg_sl ([.ref yh, .int p0])).length) Slot.unset).toArray = ls at hl ⊢
  have hl : lv_has ls 2 [(0, .ref yh), (1, .int p0)] := hl
  have lo_p0 := i_lo p0; have hi_p0 := i_hi p0
  refine lv_aload_n hx hb dX5_leave_0 rfl (lv_at hl 0 rfl) ?_
  refine lv_iconst (v := 1) hx hb dX5_leave_1 (by decide) ?_
  refine va_put (D := D) (ci := 5) (v := .int 1) (ty := .int) (C := RX5) (T := TX5) (N := 11) hx hb htb iX5 tyX5 tyX5_ok nmX5 hown hK.1 hP hD hS 0 rfl rfl 8 (by decide) (htb _ k_243) (fun _ h9 => h9) rfl (by decide +kernel) rfl rfl (Nat.le_of_ble_eq_true rfl) dX5_leave_2 (fun H locs hP hD hS => ?_)
  have hP : va_P D vwCl [(yh, .inr (5, G5 ya ysights 1 ysailed yvoyage))] H := hP
  have hD := toW hP hD rfl
  refine lv_aload_n hx hb dX5_leave_5 rfl (lv_at hl 0 rfl) ?_
  refine lv_iload_n hx hb dX5_leave_6 rfl (lv_at hl 1 rfl) ?_
  refine va_put (D := D) (ci := 5) (v := .int p0) (ty := .int) (C := RX5) (T := TX5) (N := 11) hx hb htb iX5 tyX5 tyX5_ok nmX5 hown hK.1 hP hD hS 0 rfl rfl 9 (by decide) (htb _ k_245) (fun _ h9 => h9) rfl (by decide +kernel) rfl rfl (Nat.le_of_ble_eq_true rfl) dX5_leave_7 (fun H locs hP hD hS => ?_)
  have hP : va_P D vwCl [(yh, .inr (5, G5 ya ysights 1 p0 yvoyage))] H := hP
  have hD := toW hP hD rfl
  refine lv_aload_n hx hb dX5_leave_10 rfl (lv_at hl 0 rfl) ?_
  refine lv_iconst (v := 0) hx hb dX5_leave_11 (by decide) ?_
  refine va_put (D := D) (ci := 5) (v := .int 0) (ty := .int) (C := RX5) (T := TX5) (N := 11) hx hb htb iX5 tyX5 tyX5_ok nmX5 hown hK.1 hP hD hS 0 rfl rfl 7 (by decide) (htb _ k_241) (fun _ h9 => h9) rfl (by decide +kernel) rfl rfl (Nat.le_of_ble_eq_true rfl) dX5_leave_12 (fun H locs hP hD hS => ?_)
  have hP : va_P D vwCl [(yh, .inr (5, G5 ya 0 1 p0 yvoyage))] H := hP
  have hD := toW hP hD rfl
  have hP9 := hP.sub (ws' := [(yh, .inr (5, G5 ya 0 1 p0 yvoyage))]) [0] rfl
  have hD9 := hD.sub (ws' := [(yh, .inr (5, G5 ya 0 1 p0 yvoyage))]) [0] (by decide) rfl
  exact W.vret hx hb hr (fun t ht hW => ⟨⟨(p0, (0 : Int32), (1 : Int32)), rfl, ⟨(by have h0 := t_0; (try dsimp only); omega), (by have h0 := t_0; have h1 := t_1; (try dsimp only); exact ⟨by omega, rfl, by omega⟩)⟩, by rw [ht]; exact hP9, hD9⟩, hS.F ht⟩) hS.2.2 dX5_leave_15
set_option maxHeartbeats 4000000 in
set_option maxRecDepth 100000 in
theorem g_X5_carry (l : Launch) (D : va_G) (E : Nat → Nat) (yh : Nat) (ya : Nat → Nat) (ysights : Int32) (ystage : Int32) (ysailed : Int32) (yvoyage : Int32) (yf0 : Nat → Int32) (yf1 : Nat → Int32) (yf2 : Nat → Int32) (yf3 : Nat → Int32) (p0 : Int32) (p1 : Int32) (p2 : Int32) (p3 : Int32) (p4 : Int32) (sz : Nat) (hi_y : (0 ≤ ysights.toInt ∧ ysights.toInt ≤ 40)) : Met l yX5_carry (wl yX5_carry cX5_carry 6 none) (RM 0 0 0) (mu_P D E [.ref yh, .int p0, .int p1, .int p2, .int p3, .int p4] [(yh, .inr (5, G5 ya ysights ystage ysailed yvoyage)), ((ya 0), .inl (E 0, 3, .inl yf0)), ((ya 1), .inl (E 0, 3, .inl yf1)), ((ya 2), .inl (E 0, 3, .inl yf2)), ((ya 3), .inl (E 0, 3, .inl yf3))] sz) (va_Qv (fun (u : (Nat → Int32) × (Nat → Int32) × (Nat → Int32) × (Nat → Int32)) => (((0 ≤ p0.toInt ∧ p0.toInt ≤ 2) ∧ u.1 = upd yf0 (p0).toNatClampNeg p1 ∧ u.2.1 = upd yf1 (p0).toNatClampNeg p2 ∧ u.2.2.1 = upd yf2 (p0).toNatClampNeg p3 ∧ u.2.2.2 = upd yf3 (p0).toNatClampNeg p4) ∨ (¬ (0 ≤ p0.toInt ∧ p0.toInt ≤ 2) ∧ u.1 = yf0 ∧ u.2.1 = yf1 ∧ u.2.2.1 = yf2 ∧ u.2.2.2 = yf3))) (mu_B D (va_A [(yh, .inr (5, G5 ya ysights ystage ysailed yvoyage)), ((ya 0), .inl (E 0, 3, .inl yf0)), ((ya 1), .inl (E 0, 3, .inl yf1)), ((ya 2), .inl (E 0, 3, .inl yf2)), ((ya 3), .inl (E 0, 3, .inl yf3))] sz) (fun (u : (Nat → Int32) × (Nat → Int32) × (Nat → Int32) × (Nat → Int32)) => [(yh, .inr (5, G5 ya ysights ystage ysailed yvoyage)), ((ya 0), .inl (E 0, 3, .inl u.1)), ((ya 1), .inl (E 0, 3, .inl u.2.1)), ((ya 2), .inl (E 0, 3, .inl u.2.2.1)), ((ya 3), .inl (E 0, 3, .inl u.2.2.2))])) (va_A [(yh, .inr (5, G5 ya ysights ystage ysailed yvoyage)), ((ya 0), .inl (E 0, 3, .inl yf0)), ((ya 1), .inl (E 0, 3, .inl yf1)), ((ya 2), .inl (E 0, 3, .inl yf2)), ((ya 3), .inl (E 0, 3, .inl yf3))] sz)) 0 0 (va_A [(yh, .inr (5, G5 ya ysights ystage ysailed yvoyage)), ((ya 0), .inl (E 0, 3, .inl yf0)), ((ya 1), .inl (E 0, 3, .inl yf1)), ((ya 2), .inl (E 0, 3, .inl yf2)), ((ya 3), .inl (E 0, 3, .inl yf3))] sz) := by
  refine Met.ofW (cc := cX5_carry) (maxL := 6) (ret := none) (by decide) rfl ?_
  intro p e s m args below meth c s₁ B hml hv
  obtain ⟨rfl, hsz, hP, hK, hD0⟩ := hv
  have hx := B.exec; have hb := B.bytes; have hr := B.returns
  have hts := atoms_spec (ws := wl yX5_carry cX5_carry 6 none) B.pre
  have htb : ∀ w ∈ tb, w.before _ s = true := fun w h => hts w (List.mem_cons_of_mem _ h)
  have hown : s.vm.findClass RX5 = some m.cls := findClass_of_methodNamed B.named
  have hlocks := B.notSynchronized
  subst hsz
  have hD := hD0.self (sz := s.heap.size)
  generalize hAe : va_A [(yh, .inr (5, G5 ya ysights ystage ysailed yvoyage)), ((ya 0), .inl (E 0, 3, .inl yf0)), ((ya 1), .inl (E 0, 3, .inl yf1)), ((ya 2), .inl (E 0, 3, .inl yf2)), ((ya 3), .inl (E 0, 3, .inl yf3))] s.heap.size = A at hD ⊢
  have hA : ∀ q : Nat, s.heap.size ≤ q → A q := fun q h => by rw [← hAe]; exact Or.inr h
  have hS : va_S A s.heap s.heap [] := va_S.rf
  have hP : va_P D vwCl [(yh, .inr (5, G5 ya ysights ystage ysailed yvoyage)), ((ya 0), .inl (E 0, 3, .inl yf0)), ((ya 1), .inl (E 0, 3, .inl yf1)), ((ya 2), .inl (E 0, 3, .inl yf2)), ((ya 3), .inl (E 0, 3, .inl yf3))] s.heap := hP
  have hl := lv_entry ([.ref yh, .int p0, .int p1, .int p2, .int p3, .int p4]) (n := 6) (Nat.le_of_ble_eq_true rfl)
  rw [lg_entry_eq]
  generalize (lg_sl ([.ref yh, .int p0, .int p1, .int p2, .int p3, .int p4]) ++ List.replicate (6 - (lg_sl ([.ref yh, .int p0, .int p1, .int p2, .int p3, .int p4])).length) Slot.unset).toArray = ls at hl ⊢
  have hl : lv_has ls 6 [(0, .ref yh), (1, .int p0), (2, .int p1), (3, .int p2), (4, .int p3), (5, .int p4)] := hl
  have lo_p0 := i_lo p0; have hi_p0 := i_hi p0
  have lo_p1 := i_lo p1; have hi_p1 := i_hi p1
  have lo_p2 := i_lo p2; have hi_p2 := i_hi p2
  have lo_p3 := i_lo p3; have hi_p3 := i_hi p3
  have lo_p4 := i_lo p4; have hi_p4 := i_hi p4
  refine lv_iload_n hx hb dX5_carry_0 rfl (lv_at hl 1 rfl) ?_
  refine lv_if_lt (tgt := 9) hx hb dX5_carry_1 (by decide) (fun c_1 => ?_) (fun c_1 => ?_)
  ·
    have ic_1 : p0.toInt < 0 := by first | exact (g_lt rfl t_0).mp c_1 | (have h := mt (g_le t_0 rfl).mpr c_1; omega)
    clear c_1
    have hP9 := hP.sub (ws' := [(yh, .inr (5, G5 ya ysights ystage ysailed yvoyage)), ((ya 0), .inl (E 0, 3, .inl yf0)), ((ya 1), .inl (E 0, 3, .inl yf1)), ((ya 2), .inl (E 0, 3, .inl yf2)), ((ya 3), .inl (E 0, 3, .inl yf3))]) [0, 1, 2, 3, 4] rfl
    have hD9 := hD.sub (ws' := [(yh, .inr (5, G5 ya ysights ystage ysailed yvoyage)), ((ya 0), .inl (E 0, 3, .inl yf0)), ((ya 1), .inl (E 0, 3, .inl yf1)), ((ya 2), .inl (E 0, 3, .inl yf2)), ((ya 3), .inl (E 0, 3, .inl yf3))]) [0, 1, 2, 3, 4] (by decide) rfl
    exact W.vret hx hb hr (fun t ht hW => ⟨⟨(yf0, yf1, yf2, yf3), rfl, (by (try dsimp only); first | exact Or.inl ⟨by omega, rfl, rfl, rfl, rfl⟩ | exact Or.inr ⟨by omega, rfl, rfl, rfl, rfl⟩), by rw [ht]; exact hP9, hD9⟩, hS.F ht⟩) hS.2.2 dX5_carry_9
  ·
    have ic_1 : 0 ≤ p0.toInt := by first | exact (g_le t_0 rfl).mp c_1 | (have h := mt (g_lt rfl t_0).mpr c_1; omega)
    clear c_1
    refine lv_iload_n hx hb dX5_carry_4 rfl (lv_at hl 1 rfl) ?_
    refine lv_iconst (v := 3) hx hb dX5_carry_5 (by decide) ?_
    refine lv_icmp_lt (tgt := 10) hx hb dX5_carry_6 (by decide) (fun c_2 => ?_) (fun c_2 => ?_)
    ·
      have ic_2 : p0.toInt < 3 := by first | exact (g_lt rfl t_3).mp c_2 | (have h := mt (g_le t_3 rfl).mpr c_2; omega)
      clear c_2
      refine lv_aload_n hx hb dX5_carry_10 rfl (lv_at hl 0 rfl) ?_
      refine va_get (D := D) (ci := 5) (v := .ref (ya 0)) (C := RX5) (T := TX5) (N := 11) hx hb htb iX5 hown hK.1 hP 0 rfl rfl 0 (by decide) (htb _ k_228) (fun _ h9 => h9) rfl dX5_carry_11 ?_
      refine lv_iload_n hx hb dX5_carry_14 rfl (lv_at hl 1 rfl) ?_
      refine lv_iload_n hx hb dX5_carry_15 rfl (lv_at hl 2 rfl) ?_
      refine va_iast hx hb hK.1 hP hD hS 1 0 rfl rfl (g_in rfl (by omega) (by omega)) dX5_carry_16 (fun H locs hP hD hS => ?_)
      have hP : va_P D vwCl [(yh, .inr (5, G5 ya ysights ystage ysailed yvoyage)), ((ya 0), .inl (E 0, 3, .inl (upd yf0 (p0 : Int32).toNatClampNeg p1))), ((ya 1), .inl (E 0, 3, .inl yf1)), ((ya 2), .inl (E 0, 3, .inl yf2)), ((ya 3), .inl (E 0, 3, .inl yf3))] H := hP
      have hD := toW hP hD rfl
      refine lv_aload_n hx hb dX5_carry_17 rfl (lv_at hl 0 rfl) ?_
      refine va_get (D := D) (ci := 5) (v := .ref (ya 1)) (C := RX5) (T := TX5) (N := 11) hx hb htb iX5 hown hK.1 hP 0 rfl rfl 1 (by decide) (htb _ k_230) (fun _ h9 => h9) rfl dX5_carry_18 ?_
      refine lv_iload_n hx hb dX5_carry_21 rfl (lv_at hl 1 rfl) ?_
      refine lv_iload_n hx hb dX5_carry_22 rfl (lv_at hl 3 rfl) ?_
      refine va_iast hx hb hK.1 hP hD hS 2 0 rfl rfl (g_in rfl (by omega) (by omega)) dX5_carry_23 (fun H locs hP hD hS => ?_)
      have hP : va_P D vwCl [(yh, .inr (5, G5 ya ysights ystage ysailed yvoyage)), ((ya 0), .inl (E 0, 3, .inl (upd yf0 (p0 : Int32).toNatClampNeg p1))), ((ya 1), .inl (E 0, 3, .inl (upd yf1 (p0 : Int32).toNatClampNeg p2))), ((ya 2), .inl (E 0, 3, .inl yf2)), ((ya 3), .inl (E 0, 3, .inl yf3))] H := hP
      have hD := toW hP hD rfl
      refine lv_aload_n hx hb dX5_carry_24 rfl (lv_at hl 0 rfl) ?_
      refine va_get (D := D) (ci := 5) (v := .ref (ya 2)) (C := RX5) (T := TX5) (N := 11) hx hb htb iX5 hown hK.1 hP 0 rfl rfl 2 (by decide) (htb _ k_232) (fun _ h9 => h9) rfl dX5_carry_25 ?_
      refine lv_iload_n hx hb dX5_carry_28 rfl (lv_at hl 1 rfl) ?_
      refine lv_iload hx hb dX5_carry_29 (lv_at hl 4 rfl) ?_
      refine va_iast hx hb hK.1 hP hD hS 3 0 rfl rfl (g_in rfl (by omega) (by omega)) dX5_carry_31 (fun H locs hP hD hS => ?_)
      have hP : va_P D vwCl [(yh, .inr (5, G5 ya ysights ystage ysailed yvoyage)), ((ya 0), .inl (E 0, 3, .inl (upd yf0 (p0 : Int32).toNatClampNeg p1))), ((ya 1), .inl (E 0, 3, .inl (upd yf1 (p0 : Int32).toNatClampNeg p2))), ((ya 2), .inl (E 0, 3, .inl (upd yf2 (p0 : Int32).toNatClampNeg p3))), ((ya 3), .inl (E 0, 3, .inl yf3))] H := hP
      have hD := toW hP hD rfl
      refine lv_aload_n hx hb dX5_carry_32 rfl (lv_at hl 0 rfl) ?_
      refine va_get (D := D) (ci := 5) (v := .ref (ya 3)) (C := RX5) (T := TX5) (N := 11) hx hb htb iX5 hown hK.1 hP 0 rfl rfl 3 (by decide) (htb _ k_234) (fun _ h9 => h9) rfl dX5_carry_33 ?_
      refine lv_iload_n hx hb dX5_carry_36 rfl (lv_at hl 1 rfl) ?_
      refine lv_iload hx hb dX5_carry_37 (lv_at hl 5 rfl) ?_
      refine va_iast hx hb hK.1 hP hD hS 4 0 rfl rfl (g_in rfl (by omega) (by omega)) dX5_carry_39 (fun H locs hP hD hS => ?_)
      have hP : va_P D vwCl [(yh, .inr (5, G5 ya ysights ystage ysailed yvoyage)), ((ya 0), .inl (E 0, 3, .inl (upd yf0 (p0 : Int32).toNatClampNeg p1))), ((ya 1), .inl (E 0, 3, .inl (upd yf1 (p0 : Int32).toNatClampNeg p2))), ((ya 2), .inl (E 0, 3, .inl (upd yf2 (p0 : Int32).toNatClampNeg p3))), ((ya 3), .inl (E 0, 3, .inl (upd yf3 (p0 : Int32).toNatClampNeg p4)))] H := hP
      have hD := toW hP hD rfl
      have hP9 := hP.sub (ws' := [(yh, .inr (5, G5 ya ysights ystage ysailed yvoyage)), ((ya 0), .inl (E 0, 3, .inl (upd yf0 (p0 : Int32).toNatClampNeg p1))), ((ya 1), .inl (E 0, 3, .inl (upd yf1 (p0 : Int32).toNatClampNeg p2))), ((ya 2), .inl (E 0, 3, .inl (upd yf2 (p0 : Int32).toNatClampNeg p3))), ((ya 3), .inl (E 0, 3, .inl (upd yf3 (p0 : Int32).toNatClampNeg p4)))]) [0, 1, 2, 3, 4] rfl
      have hD9 := hD.sub (ws' := [(yh, .inr (5, G5 ya ysights ystage ysailed yvoyage)), ((ya 0), .inl (E 0, 3, .inl (upd yf0 (p0 : Int32).toNatClampNeg p1))), ((ya 1), .inl (E 0, 3, .inl (upd yf1 (p0 : Int32).toNatClampNeg p2))), ((ya 2), .inl (E 0, 3, .inl (upd yf2 (p0 : Int32).toNatClampNeg p3))), ((ya 3), .inl (E 0, 3, .inl (upd yf3 (p0 : Int32).toNatClampNeg p4)))]) [0, 1, 2, 3, 4] (by decide) rfl
      exact W.vret hx hb hr (fun t ht hW => ⟨⟨((upd yf0 (p0 : Int32).toNatClampNeg p1), (upd yf1 (p0 : Int32).toNatClampNeg p2), (upd yf2 (p0 : Int32).toNatClampNeg p3), (upd yf3 (p0 : Int32).toNatClampNeg p4)), rfl, (by (try dsimp only); first | exact Or.inl ⟨by omega, rfl, rfl, rfl, rfl⟩ | exact Or.inr ⟨by omega, rfl, rfl, rfl, rfl⟩), by rw [ht]; exact hP9, hD9⟩, hS.F ht⟩) hS.2.2 dX5_carry_40
    ·
      have ic_2 : 3 ≤ p0.toInt := by first | exact (g_le t_3 rfl).mp c_2 | (have h := mt (g_lt rfl t_3).mpr c_2; omega)
      clear c_2
      have hP9 := hP.sub (ws' := [(yh, .inr (5, G5 ya ysights ystage ysailed yvoyage)), ((ya 0), .inl (E 0, 3, .inl yf0)), ((ya 1), .inl (E 0, 3, .inl yf1)), ((ya 2), .inl (E 0, 3, .inl yf2)), ((ya 3), .inl (E 0, 3, .inl yf3))]) [0, 1, 2, 3, 4] rfl
      have hD9 := hD.sub (ws' := [(yh, .inr (5, G5 ya ysights ystage ysailed yvoyage)), ((ya 0), .inl (E 0, 3, .inl yf0)), ((ya 1), .inl (E 0, 3, .inl yf1)), ((ya 2), .inl (E 0, 3, .inl yf2)), ((ya 3), .inl (E 0, 3, .inl yf3))]) [0, 1, 2, 3, 4] (by decide) rfl
      exact W.vret hx hb hr (fun t ht hW => ⟨⟨(yf0, yf1, yf2, yf3), rfl, (by (try dsimp only); first | exact Or.inl ⟨by omega, rfl, rfl, rfl, rfl⟩ | exact Or.inr ⟨by omega, rfl, rfl, rfl, rfl⟩), by rw [ht]; exact hP9, hD9⟩, hS.F ht⟩) hS.2.2 dX5_carry_9
set_option maxHeartbeats 4000000 in
set_option maxRecDepth 100000 in
theorem g_X5_comeBack (l : Launch) (D : va_G) (E : Nat → Nat) (yh : Nat) (ya : Nat → Nat) (ysights : Int32) (ystage : Int32) (ysailed : Int32) (yvoyage : Int32) (p0 : Int32) (sz : Nat) (hi_y : (0 ≤ ysights.toInt ∧ ysights.toInt ≤ 40)) : Met l yX5_comeBack (wl yX5_comeBack cX5_comeBack 2 none) (RM 0 0 0) (mu_P D E [.ref yh, .int p0] [(yh, .inr (5, G5 ya ysights ystage ysailed yvoyage))] sz) (va_Qv (fun (u : (Int32) × (Int32)) => (u.1.toInt = 2 ∧ u.2 = p0 - ysailed)) (mu_B D (va_A [(yh, .inr (5, G5 ya ysights ystage ysailed yvoyage))] sz) (fun (u : (Int32) × (Int32)) => [(yh, .inr (5, G5 ya ysights u.1 ysailed u.2))])) (va_A [(yh, .inr (5, G5 ya ysights ystage ysailed yvoyage))] sz)) 0 0 (va_A [(yh, .inr (5, G5 ya ysights ystage ysailed yvoyage))] sz) := by
  refine Met.ofW (cc := cX5_comeBack) (maxL := 2) (ret := none) (by decide) rfl ?_
  intro p e s m args below meth c s₁ B hml hv
  obtain ⟨rfl, hsz, hP, hK, hD0⟩ := hv
  have hx := B.exec; have hb := B.bytes; have hr := B.returns
  have hts := atoms_spec (ws := wl yX5_comeBack cX5_comeBack 2 none) B.pre
  have htb : ∀ w ∈ tb, w.before _ s = true := fun w h => hts w (List.mem_cons_of_mem _ h)
  have hown : s.vm.findClass RX5 = some m.cls := findClass_of_methodNamed B.named
  have hlocks := B.notSynchronized
  subst hsz
  have hD := hD0.self (sz := s.heap.size)
  generalize hAe : va_A [(yh, .inr (5, G5 ya ysights ystage ysailed yvoyage))] s.heap.size = A at hD ⊢
  have hA : ∀ q : Nat, s.heap.size ≤ q → A q := fun q h => by rw [← hAe]; exact Or.inr h
  have hS : va_S A s.heap s.heap [] := va_S.rf
  have hP : va_P D vwCl [(yh, .inr (5, G5 ya ysights ystage ysailed yvoyage))] s.heap := hP
  have hl := lv_entry ([.ref yh, .int p0]) (n := 2) (Nat.le_of_ble_eq_true rfl)
  rw [lg_entry_eq]
  generalize (lg_sl ([.ref yh, .int p0]) ++ List.replicate (2 - (lg_sl ([.ref yh, .int p0])).length) Slot.unset).toArray = ls at hl ⊢
  have hl : lv_has ls 2 [(0, .ref yh), (1, .int p0)] := hl
  have lo_p0 := i_lo p0; have hi_p0 := i_hi p0
  refine lv_aload_n hx hb dX5_comeBack_0 rfl (lv_at hl 0 rfl) ?_
  refine lv_iconst (v := 2) hx hb dX5_comeBack_1 (by decide) ?_
  refine va_put (D := D) (ci := 5) (v := .int 2) (ty := .int) (C := RX5) (T := TX5) (N := 11) hx hb htb iX5 tyX5 tyX5_ok nmX5 hown hK.1 hP hD hS 0 rfl rfl 8 (by decide) (htb _ k_243) (fun _ h9 => h9) rfl (by decide +kernel) rfl rfl (Nat.le_of_ble_eq_true rfl) dX5_comeBack_2 (fun H locs hP hD hS => ?_)
  have hP : va_P D vwCl [(yh, .inr (5, G5 ya ysights 2 ysailed yvoyage))] H := hP
  have hD := toW hP hD rfl
  refine lv_aload_n hx hb dX5_comeBack_5 rfl (lv_at hl 0 rfl) ?_
  refine lv_iload_n hx hb dX5_comeBack_6 rfl (lv_at hl 1 rfl) ?_
  refine lv_aload_n hx hb dX5_comeBack_7 rfl (lv_at hl 0 rfl) ?_
  refine va_get (D := D) (ci := 5) (v := .int ysailed) (C := RX5) (T := TX5) (N := 11) hx hb htb iX5 hown hK.1 hP 0 rfl rfl 9 (by decide) (htb _ k_245) (fun _ h9 => h9) rfl dX5_comeBack_8 ?_
  refine lv_isub hx hb dX5_comeBack_11 ?_
  refine lv_topi (fun z_1 ez_1 => ?_)
  refine va_put (D := D) (ci := 5) (v := .int z_1) (ty := .int) (C := RX5) (T := TX5) (N := 11) hx hb htb iX5 tyX5 tyX5_ok nmX5 hown hK.1 hP hD hS 0 rfl rfl 10 (by decide) (htb _ k_247) (fun _ h9 => h9) rfl (by decide +kernel) rfl rfl (Nat.le_of_ble_eq_true rfl) dX5_comeBack_12 (fun H locs hP hD hS => ?_)
  have hP : va_P D vwCl [(yh, .inr (5, G5 ya ysights 2 ysailed z_1))] H := hP
  have hD := toW hP hD rfl
  have hP9 := hP.sub (ws' := [(yh, .inr (5, G5 ya ysights 2 ysailed z_1))]) [0] rfl
  have hD9 := hD.sub (ws' := [(yh, .inr (5, G5 ya ysights 2 ysailed z_1))]) [0] (by decide) rfl
  exact W.vret hx hb hr (fun t ht hW => ⟨⟨((2 : Int32), z_1), rfl, (by have h2 := t_2; (try dsimp only); exact ⟨by omega, by subst_vars; rfl⟩), by rw [ht]; exact hP9, hD9⟩, hS.F ht⟩) hS.2.2 dX5_comeBack_15
set_option maxHeartbeats 4000000 in
set_option maxRecDepth 100000 in
theorem g_X5_mayBeSighted (l : Launch) (D : va_G) (E : Nat → Nat) (yh : Nat) (ya : Nat → Nat) (ysights : Int32) (ystage : Int32) (ysailed : Int32) (yvoyage : Int32) (yf5 : Nat → Int32) (p0 : Int32) (hi_y : (0 ≤ ysights.toInt ∧ ysights.toInt ≤ 40)) : Met l yX5_mayBeSighted (wl yX5_mayBeSighted cX5_mayBeSighted 2 (some .boolean)) (RM 0 0 0) (rd_P D E [.ref yh, .int p0] [(yh, .inr (5, G5 ya ysights ystage ysailed yvoyage)), ((ya 5), .inl (E 0, 40, .inl yf5))]) (rd_Q (fun r => ((r.toInt = 1 ∧ (ystage.toInt ≠ 0 → ysailed.toInt < p0.toInt ∧ (ysights.toInt = 0 ∨ (yf5 (ysights.toInt - 1).toNat).toInt ≤ p0.toInt))) ∨ (r.toInt = 0 ∧ ¬ (ystage.toInt ≠ 0 → ysailed.toInt < p0.toInt ∧ (ysights.toInt = 0 ∨ (yf5 (ysights.toInt - 1).toNat).toInt ≤ p0.toInt)))))) 0 0 (fun _ => False) := by
  refine Met.ofW (cc := cX5_mayBeSighted) (maxL := 2) (ret := (some .boolean)) (by decide) rfl ?_
  intro p e s m args below meth c s₁ B hml hv
  obtain ⟨rfl, hP, hK⟩ := hv
  have hx := B.exec; have hb := B.bytes; have hr := B.returns
  have hts := atoms_spec (ws := wl yX5_mayBeSighted cX5_mayBeSighted 2 (some .boolean)) B.pre
  have htb : ∀ w ∈ tb, w.before _ s = true := fun w h => hts w (List.mem_cons_of_mem _ h)
  have hown : s.vm.findClass RX5 = some m.cls := findClass_of_methodNamed B.named
  have hlocks := B.notSynchronized
  have hP : va_P D vwCl [(yh, .inr (5, G5 ya ysights ystage ysailed yvoyage)), ((ya 5), .inl (E 0, 40, .inl yf5))] s.heap := hP
  have hl := lv_entry ([.ref yh, .int p0]) (n := 2) (Nat.le_of_ble_eq_true rfl)
  rw [lg_entry_eq]
  generalize (lg_sl ([.ref yh, .int p0]) ++ List.replicate (2 - (lg_sl ([.ref yh, .int p0])).length) Slot.unset).toArray = ls at hl ⊢
  have hl : lv_has ls 2 [(0, .ref yh), (1, .int p0)] := hl
  have lo_p0 := i_lo p0; have hi_p0 := i_hi p0
  refine lv_aload_n hx hb dX5_mayBeSighted_0 rfl (lv_at hl 0 rfl) ?_
  refine va_get (D := D) (ci := 5) (v := .int ystage) (C := RX5) (T := TX5) (N := 11) hx hb htb iX5 hown hK.1 hP 0 rfl rfl 8 (by decide) (htb _ k_243) (fun _ h9 => h9) rfl dX5_mayBeSighted_1 ?_
  refine lv_if_ne (tgt := 9) hx hb dX5_mayBeSighted_4 (by decide) (fun c_1 => ?_) (fun c_1 => ?_)
  ·
    have ic_1 : ystage.toInt ≠ 0 := mt (g_eq rfl t_0).mpr c_1
    clear c_1
    refine lv_iload_n hx hb dX5_mayBeSighted_9 rfl (lv_at hl 1 rfl) ?_
    refine lv_aload_n hx hb dX5_mayBeSighted_10 rfl (lv_at hl 0 rfl) ?_
    refine va_get (D := D) (ci := 5) (v := .int ysailed) (C := RX5) (T := TX5) (N := 11) hx hb htb iX5 hown hK.1 hP 0 rfl rfl 9 (by decide) (htb _ k_245) (fun _ h9 => h9) rfl dX5_mayBeSighted_11 ?_
    refine lv_icmp_le (tgt := 43) hx hb dX5_mayBeSighted_14 (by decide) (fun c_2 => ?_) (fun c_2 => ?_)
    ·
      have ic_2 : p0.toInt ≤ ysailed.toInt := by first | exact (g_le rfl rfl).mp c_2 | (have h := mt (g_lt rfl rfl).mpr c_2; omega)
      clear c_2
      refine lv_iconst (v := 0) hx hb dX5_mayBeSighted_43 (by decide) ?_
      exact W.zret (v := 0) hx hb hr rfl (fun t ht hW => ⟨0, rfl, (by have hl := t_0; exact Or.inr ⟨by omega, fun h9 => by have h8 := h9 (by omega); omega⟩), ht⟩) (fun q h => by cases h) dX5_mayBeSighted_44
    ·
      have ic_2 : ysailed.toInt < p0.toInt := by first | exact (g_lt rfl rfl).mp c_2 | (have h := mt (g_le rfl rfl).mpr c_2; omega)
      clear c_2
      refine lv_aload_n hx hb dX5_mayBeSighted_17 rfl (lv_at hl 0 rfl) ?_
      refine va_get (D := D) (ci := 5) (v := .int ysights) (C := RX5) (T := TX5) (N := 11) hx hb htb iX5 hown hK.1 hP 0 rfl rfl 7 (by decide) (htb _ k_241) (fun _ h9 => h9) rfl dX5_mayBeSighted_18 ?_
      refine lv_if_eq (tgt := 39) hx hb dX5_mayBeSighted_21 (by decide) (fun c_3 => ?_) (fun c_3 => ?_)
      ·
        have ic_3 : ysights.toInt = 0 := (g_eq rfl t_0).mp c_3
        clear c_3
        refine lv_iconst (v := 1) hx hb dX5_mayBeSighted_39 (by decide) ?_
        refine lv_goto (tgt := 44) hx hb dX5_mayBeSighted_40 (by decide) ?_
        exact W.zret (v := 1) hx hb hr rfl (fun t ht hW => ⟨1, rfl, (by have hl := t_1; exact Or.inl ⟨by omega, fun h9 => by omega⟩), ht⟩) (fun q h => by cases h) dX5_mayBeSighted_44
      ·
        have ic_3 : ysights.toInt ≠ 0 := mt (g_eq rfl t_0).mpr c_3
        clear c_3
        refine lv_iload_n hx hb dX5_mayBeSighted_24 rfl (lv_at hl 1 rfl) ?_
        refine lv_aload_n hx hb dX5_mayBeSighted_25 rfl (lv_at hl 0 rfl) ?_
        refine va_get (D := D) (ci := 5) (v := .ref (ya 5)) (C := RX5) (T := TX5) (N := 11) hx hb htb iX5 hown hK.1 hP 0 rfl rfl 5 (by decide) (htb _ k_238) (fun _ h9 => h9) rfl dX5_mayBeSighted_26 ?_
        refine lv_aload_n hx hb dX5_mayBeSighted_29 rfl (lv_at hl 0 rfl) ?_
        refine va_get (D := D) (ci := 5) (v := .int ysights) (C := RX5) (T := TX5) (N := 11) hx hb htb iX5 hown hK.1 hP 0 rfl rfl 7 (by decide) (htb _ k_241) (fun _ h9 => h9) rfl dX5_mayBeSighted_30 ?_
        refine lv_iconst (v := 1) hx hb dX5_mayBeSighted_33 (by decide) ?_
        refine lv_isub hx hb dX5_mayBeSighted_34 ?_
        refine lv_topi (fun z_4 ez_4 => ?_)
        have jz_4 : z_4.toInt = ysights.toInt - 1 := by rw [ez_4]; exact g_sub rfl t_1 (by omega) (by omega)
        refine va_iald hx hb hK.1 hP 1 0 rfl rfl (g_in rfl (by omega) (by omega)) dX5_mayBeSighted_35 ?_
        refine lv_topi (fun z_5 ez_5 => ?_)
        have kz_5 := congrArg Int32.toInt ez_5
        refine lv_icmp_lt (tgt := 43) hx hb dX5_mayBeSighted_36 (by decide) (fun c_6 => ?_) (fun c_6 => ?_)
        ·
          have ic_6 : p0.toInt < z_5.toInt := by first | exact (g_lt rfl rfl).mp c_6 | (have h := mt (g_le rfl rfl).mpr c_6; omega)
          clear c_6
          refine lv_iconst (v := 0) hx hb dX5_mayBeSighted_43 (by decide) ?_
          exact W.zret (v := 0) hx hb hr rfl (fun t ht hW => ⟨0, rfl, (by have hl := t_0; have hz : (yf5 (ysights.toInt - 1).toNat).toInt = z_5.toInt := (by rw [ez_5, show (z_4).toNatClampNeg = (ysights.toInt - 1).toNat by have c9 := i_clamp0 (x := z_4) (by omega); omega]); exact Or.inr ⟨by omega, fun h9 => by have h8 := h9 (by omega); omega⟩), ht⟩) (fun q h => by cases h) dX5_mayBeSighted_44
        ·
          have ic_6 : z_5.toInt ≤ p0.toInt := by first | exact (g_le rfl rfl).mp c_6 | (have h := mt (g_lt rfl rfl).mpr c_6; omega)
          clear c_6
          refine lv_iconst (v := 1) hx hb dX5_mayBeSighted_39 (by decide) ?_
          refine lv_goto (tgt := 44) hx hb dX5_mayBeSighted_40 (by decide) ?_
          exact W.zret (v := 1) hx hb hr rfl (fun t ht hW => ⟨1, rfl, (by have hl := t_1; have hz : (yf5 (ysights.toInt - 1).toNat).toInt = z_5.toInt := (by rw [ez_5, show (z_4).toNatClampNeg = (ysights.toInt - 1).toNat by have c9 := i_clamp0 (x := z_4) (by omega); omega]); exact Or.inl ⟨by omega, fun h9 => by omega⟩), ht⟩) (fun q h => by cases h) dX5_mayBeSighted_44
  ·
    have ic_1 : ystage.toInt = 0 := (g_eq rfl t_0).mp c_1
    clear c_1
    refine lv_iconst (v := 1) hx hb dX5_mayBeSighted_7 (by decide) ?_
    exact W.zret (v := 1) hx hb hr rfl (fun t ht hW => ⟨1, rfl, (by have hl := t_1; exact Or.inl ⟨by omega, fun h9 => by omega⟩), ht⟩) (fun q h => by cases h) dX5_mayBeSighted_8
set_option maxHeartbeats 4000000 in
set_option maxRecDepth 100000 in
theorem g_X5_addSight (l : Launch) (D : va_G) (E : Nat → Nat) (yh : Nat) (ya : Nat → Nat) (ysights : Int32) (ystage : Int32) (ysailed : Int32) (yvoyage : Int32) (yf5 : Nat → Int32) (yf6 : Nat → Int32) (p0 : Int32) (p1 : Int32) (p2 : Int32) (p3 : Int32) (sz : Nat) (hi_y : (0 ≤ ysights.toInt ∧ ysights.toInt ≤ 40)) : Met l yX5_addSight (wl yX5_addSight cX5_addSight 5 (some .int)) (RM 0 0 0) (mu_P D E [.ref yh, .int p0, .int p1, .int p2, .int p3] [(yh, .inr (5, G5 ya ysights ystage ysailed yvoyage)), ((ya 5), .inl (E 0, 40, .inl yf5)), ((ya 6), .inl (E 0, 120, .inl yf6))] sz) (va_Qi (fun (r : Int32) (u : (Nat → Int32) × (Nat → Int32) × (Int32)) => (0 ≤ u.2.2.toInt ∧ u.2.2.toInt ≤ 40) ∧ ((ysights.toInt < 40 ∧ r.toInt = ysights.toInt ∧ u.2.2.toInt = ysights.toInt + 1 ∧ u.1 = upd yf5 (ysights).toNatClampNeg p0 ∧ u.2.1 = upd (upd (upd yf6 (3 * (ysights).toNatClampNeg + 0) p1) (3 * (ysights).toNatClampNeg + 1) p2) (3 * (ysights).toNatClampNeg + 2) p3) ∨ (ysights.toInt = 40 ∧ r.toInt = -5 ∧ u.2.2 = ysights ∧ u.1 = yf5 ∧ u.2.1 = yf6))) (mu_B D (va_A [(yh, .inr (5, G5 ya ysights ystage ysailed yvoyage)), ((ya 5), .inl (E 0, 40, .inl yf5)), ((ya 6), .inl (E 0, 120, .inl yf6))] sz) (fun (u : (Nat → Int32) × (Nat → Int32) × (Int32)) => [(yh, .inr (5, G5 ya u.2.2 ystage ysailed yvoyage)), ((ya 5), .inl (E 0, 40, .inl u.1)), ((ya 6), .inl (E 0, 120, .inl u.2.1))])) (va_A [(yh, .inr (5, G5 ya ysights ystage ysailed yvoyage)), ((ya 5), .inl (E 0, 40, .inl yf5)), ((ya 6), .inl (E 0, 120, .inl yf6))] sz)) 0 0 (va_A [(yh, .inr (5, G5 ya ysights ystage ysailed yvoyage)), ((ya 5), .inl (E 0, 40, .inl yf5)), ((ya 6), .inl (E 0, 120, .inl yf6))] sz) := by
  refine Met.ofW (cc := cX5_addSight) (maxL := 5) (ret := (some .int)) (by decide) rfl ?_
  intro p e s m args below meth c s₁ B hml hv
  obtain ⟨rfl, hsz, hP, hK, hD0⟩ := hv
  have hx := B.exec; have hb := B.bytes; have hr := B.returns
  have hts := atoms_spec (ws := wl yX5_addSight cX5_addSight 5 (some .int)) B.pre
  have htb : ∀ w ∈ tb, w.before _ s = true := fun w h => hts w (List.mem_cons_of_mem _ h)
  have hown : s.vm.findClass RX5 = some m.cls := findClass_of_methodNamed B.named
  have hlocks := B.notSynchronized
  subst hsz
  have hD := hD0.self (sz := s.heap.size)
  generalize hAe : va_A [(yh, .inr (5, G5 ya ysights ystage ysailed yvoyage)), ((ya 5), .inl (E 0, 40, .inl yf5)), ((ya 6), .inl (E 0, 120, .inl yf6))] s.heap.size = A at hD ⊢
  have hA : ∀ q : Nat, s.heap.size ≤ q → A q := fun q h => by rw [← hAe]; exact Or.inr h
  have hS : va_S A s.heap s.heap [] := va_S.rf
  have hP : va_P D vwCl [(yh, .inr (5, G5 ya ysights ystage ysailed yvoyage)), ((ya 5), .inl (E 0, 40, .inl yf5)), ((ya 6), .inl (E 0, 120, .inl yf6))] s.heap := hP
  have hl := lv_entry ([.ref yh, .int p0, .int p1, .int p2, .int p3]) (n := 5) (Nat.le_of_ble_eq_true rfl)
  rw [lg_entry_eq]
  generalize (lg_sl ([.ref yh, .int p0, .int p1, .int p2, .int p3]) ++ List.replicate (5 - (lg_sl ([.ref yh, .int p0, .int p1, .int p2, .int p3])).length) Slot.unset).toArray = ls at hl ⊢
  have hl : lv_has ls 5 [(0, .ref yh), (1, .int p0), (2, .int p1), (3, .int p2), (4, .int p3)] := hl
  have lo_p0 := i_lo p0; have hi_p0 := i_hi p0
  have lo_p1 := i_lo p1; have hi_p1 := i_hi p1
  have lo_p2 := i_lo p2; have hi_p2 := i_hi p2
  have lo_p3 := i_lo p3; have hi_p3 := i_hi p3
  refine lv_aload_n hx hb dX5_addSight_0 rfl (lv_at hl 0 rfl) ?_
  refine va_get (D := D) (ci := 5) (v := .int ysights) (C := RX5) (T := TX5) (N := 11) hx hb htb iX5 hown hK.1 hP 0 rfl rfl 7 (by decide) (htb _ k_241) (fun _ h9 => h9) rfl dX5_addSight_1 ?_
  refine lv_bipush (v := 40) hx hb dX5_addSight_4 (by decide) ?_
  refine lv_icmp_lt (tgt := 12) hx hb dX5_addSight_6 (by decide) (fun c_1 => ?_) (fun c_1 => ?_)
  ·
    have ic_1 : ysights.toInt < 40 := by first | exact (g_lt rfl t_40).mp c_1 | (have h := mt (g_le t_40 rfl).mpr c_1; omega)
    clear c_1
    refine lv_aload_n hx hb dX5_addSight_12 rfl (lv_at hl 0 rfl) ?_
    refine va_get (D := D) (ci := 5) (v := .ref (ya 5)) (C := RX5) (T := TX5) (N := 11) hx hb htb iX5 hown hK.1 hP 0 rfl rfl 5 (by decide) (htb _ k_238) (fun _ h9 => h9) rfl dX5_addSight_13 ?_
    refine lv_aload_n hx hb dX5_addSight_16 rfl (lv_at hl 0 rfl) ?_
    refine va_get (D := D) (ci := 5) (v := .int ysights) (C := RX5) (T := TX5) (N := 11) hx hb htb iX5 hown hK.1 hP 0 rfl rfl 7 (by decide) (htb _ k_241) (fun _ h9 => h9) rfl dX5_addSight_17 ?_
    refine lv_iload_n hx hb dX5_addSight_20 rfl (lv_at hl 1 rfl) ?_
    refine va_iast hx hb hK.1 hP hD hS 1 0 rfl rfl (g_in rfl (by omega) (by omega)) dX5_addSight_21 (fun H locs hP hD hS => ?_)
    have hP : va_P D vwCl [(yh, .inr (5, G5 ya ysights ystage ysailed yvoyage)), ((ya 5), .inl (E 0, 40, .inl (upd yf5 (ysights : Int32).toNatClampNeg p0))), ((ya 6), .inl (E 0, 120, .inl yf6))] H := hP
    have hD := toW hP hD rfl
    refine lv_aload_n hx hb dX5_addSight_22 rfl (lv_at hl 0 rfl) ?_
    refine va_get (D := D) (ci := 5) (v := .ref (ya 6)) (C := RX5) (T := TX5) (N := 11) hx hb htb iX5 hown hK.1 hP 0 rfl rfl 6 (by decide) (htb _ k_240) (fun _ h9 => h9) rfl dX5_addSight_23 ?_
    refine lv_iconst (v := 3) hx hb dX5_addSight_26 (by decide) ?_
    refine lv_aload_n hx hb dX5_addSight_27 rfl (lv_at hl 0 rfl) ?_
    refine va_get (D := D) (ci := 5) (v := .int ysights) (C := RX5) (T := TX5) (N := 11) hx hb htb iX5 hown hK.1 hP 0 rfl rfl 7 (by decide) (htb _ k_241) (fun _ h9 => h9) rfl dX5_addSight_28 ?_
    refine lv_imul hx hb dX5_addSight_31 ?_
    refine lv_topi (fun z_2 ez_2 => ?_)
    have jz_2 : z_2.toInt = 3 * ysights.toInt := by rw [ez_2]; exact g_mul t_3 rfl (by omega) (by omega)
    refine lv_iload_n hx hb dX5_addSight_32 rfl (lv_at hl 2 rfl) ?_
    refine va_iast hx hb hK.1 hP hD hS 2 0 rfl rfl (g_in rfl (by omega) (by omega)) dX5_addSight_33 (fun H locs hP hD hS => ?_)
    have hP : va_P D vwCl [(yh, .inr (5, G5 ya ysights ystage ysailed yvoyage)), ((ya 5), .inl (E 0, 40, .inl (upd yf5 (ysights : Int32).toNatClampNeg p0))), ((ya 6), .inl (E 0, 120, .inl (upd yf6 (z_2 : Int32).toNatClampNeg p1)))] H := hP
    have hD := toW hP hD rfl
    refine lv_aload_n hx hb dX5_addSight_34 rfl (lv_at hl 0 rfl) ?_
    refine va_get (D := D) (ci := 5) (v := .ref (ya 6)) (C := RX5) (T := TX5) (N := 11) hx hb htb iX5 hown hK.1 hP 0 rfl rfl 6 (by decide) (htb _ k_240) (fun _ h9 => h9) rfl dX5_addSight_35 ?_
    refine lv_iconst (v := 3) hx hb dX5_addSight_38 (by decide) ?_
    refine lv_aload_n hx hb dX5_addSight_39 rfl (lv_at hl 0 rfl) ?_
    refine va_get (D := D) (ci := 5) (v := .int ysights) (C := RX5) (T := TX5) (N := 11) hx hb htb iX5 hown hK.1 hP 0 rfl rfl 7 (by decide) (htb _ k_241) (fun _ h9 => h9) rfl dX5_addSight_40 ?_
    refine lv_imul hx hb dX5_addSight_43 ?_
    refine lv_topi (fun z_3 ez_3 => ?_)
    have jz_3 : z_3.toInt = 3 * ysights.toInt := by rw [ez_3]; exact g_mul t_3 rfl (by omega) (by omega)
    refine lv_iconst (v := 1) hx hb dX5_addSight_44 (by decide) ?_
    refine lv_iadd hx hb dX5_addSight_45 ?_
    refine lv_topi (fun z_4 ez_4 => ?_)
    have jz_4 : z_4.toInt = z_3.toInt + 1 := by rw [ez_4]; exact g_add rfl t_1 (by omega) (by omega)
    refine lv_iload_n hx hb dX5_addSight_46 rfl (lv_at hl 3 rfl) ?_
    refine va_iast hx hb hK.1 hP hD hS 2 0 rfl rfl (g_in rfl (by omega) (by omega)) dX5_addSight_47 (fun H locs hP hD hS => ?_)
    have hP : va_P D vwCl [(yh, .inr (5, G5 ya ysights ystage ysailed yvoyage)), ((ya 5), .inl (E 0, 40, .inl (upd yf5 (ysights : Int32).toNatClampNeg p0))), ((ya 6), .inl (E 0, 120, .inl (upd (upd yf6 (z_2 : Int32).toNatClampNeg p1) (z_4 : Int32).toNatClampNeg p2)))] H := hP
    have hD := toW hP hD rfl
    refine lv_aload_n hx hb dX5_addSight_48 rfl (lv_at hl 0 rfl) ?_
    refine va_get (D := D) (ci := 5) (v := .ref (ya 6)) (C := RX5) (T := TX5) (N := 11) hx hb htb iX5 hown hK.1 hP 0 rfl rfl 6 (by decide) (htb _ k_240) (fun _ h9 => h9) rfl dX5_addSight_49 ?_
    refine lv_iconst (v := 3) hx hb dX5_addSight_52 (by decide) ?_
    refine lv_aload_n hx hb dX5_addSight_53 rfl (lv_at hl 0 rfl) ?_
    refine va_get (D := D) (ci := 5) (v := .int ysights) (C := RX5) (T := TX5) (N := 11) hx hb htb iX5 hown hK.1 hP 0 rfl rfl 7 (by decide) (htb _ k_241) (fun _ h9 => h9) rfl dX5_addSight_54 ?_
    refine lv_imul hx hb dX5_addSight_57 ?_
    refine lv_topi (fun z_5 ez_5 => ?_)
    have jz_5 : z_5.toInt = 3 * ysights.toInt := by rw [ez_5]; exact g_mul t_3 rfl (by omega) (by omega)
    refine lv_iconst (v := 2) hx hb dX5_addSight_58 (by decide) ?_
    refine lv_iadd hx hb dX5_addSight_59 ?_
    refine lv_topi (fun z_6 ez_6 => ?_)
    have jz_6 : z_6.toInt = z_5.toInt + 2 := by rw [ez_6]; exact g_add rfl t_2 (by omega) (by omega)
    refine lv_iload hx hb dX5_addSight_60 (lv_at hl 4 rfl) ?_
    refine va_iast hx hb hK.1 hP hD hS 2 0 rfl rfl (g_in rfl (by omega) (by omega)) dX5_addSight_62 (fun H locs hP hD hS => ?_)
    have hP : va_P D vwCl [(yh, .inr (5, G5 ya ysights ystage ysailed yvoyage)), ((ya 5), .inl (E 0, 40, .inl (upd yf5 (ysights : Int32).toNatClampNeg p0))), ((ya 6), .inl (E 0, 120, .inl (upd (upd (upd yf6 (z_2 : Int32).toNatClampNeg p1) (z_4 : Int32).toNatClampNeg p2) (z_6 : Int32).toNatClampNeg p3)))] H := hP
    have hD := toW hP hD rfl
    refine lv_aload_n hx hb dX5_addSight_63 rfl (lv_at hl 0 rfl) ?_
    refine lv_dup hx hb dX5_addSight_64 rfl ?_
    refine va_get (D := D) (ci := 5) (v := .int ysights) (C := RX5) (T := TX5) (N := 11) hx hb htb iX5 hown hK.1 hP 0 rfl rfl 7 (by decide) (htb _ k_241) (fun _ h9 => h9) rfl dX5_addSight_65 ?_
    refine lv_iconst (v := 1) hx hb dX5_addSight_68 (by decide) ?_
    refine lv_iadd hx hb dX5_addSight_69 ?_
    refine lv_topi (fun z_7 ez_7 => ?_)
    have jz_7 : z_7.toInt = ysights.toInt + 1 := by rw [ez_7]; exact g_add rfl t_1 (by omega) (by omega)
    refine va_put (D := D) (ci := 5) (v := .int z_7) (ty := .int) (C := RX5) (T := TX5) (N := 11) hx hb htb iX5 tyX5 tyX5_ok nmX5 hown hK.1 hP hD hS 0 rfl rfl 7 (by decide) (htb _ k_241) (fun _ h9 => h9) rfl (by decide +kernel) rfl rfl (Nat.le_of_ble_eq_true rfl) dX5_addSight_70 (fun H locs hP hD hS => ?_)
    have hP : va_P D vwCl [(yh, .inr (5, G5 ya z_7 ystage ysailed yvoyage)), ((ya 5), .inl (E 0, 40, .inl (upd yf5 (ysights : Int32).toNatClampNeg p0))), ((ya 6), .inl (E 0, 120, .inl (upd (upd (upd yf6 (z_2 : Int32).toNatClampNeg p1) (z_4 : Int32).toNatClampNeg p2) (z_6 : Int32).toNatClampNeg p3)))] H := hP
    have hD := toW hP hD rfl
    refine lv_aload_n hx hb dX5_addSight_73 rfl (lv_at hl 0 rfl) ?_
    refine va_get (D := D) (ci := 5) (v := .int z_7) (C := RX5) (T := TX5) (N := 11) hx hb htb iX5 hown hK.1 hP 0 rfl rfl 7 (by decide) (htb _ k_241) (fun _ h9 => h9) rfl dX5_addSight_74 ?_
    refine lv_iconst (v := 1) hx hb dX5_addSight_77 (by decide) ?_
    refine lv_isub hx hb dX5_addSight_78 ?_
    refine lv_topi (fun z_8 ez_8 => ?_)
    have jz_8 : z_8.toInt = z_7.toInt - 1 := by rw [ez_8]; exact g_sub rfl t_1 (by omega) (by omega)
    have hP9 := hP.sub (ws' := [(yh, .inr (5, G5 ya z_7 ystage ysailed yvoyage)), ((ya 5), .inl (E 0, 40, .inl (upd yf5 (ysights : Int32).toNatClampNeg p0))), ((ya 6), .inl (E 0, 120, .inl (upd (upd (upd yf6 (z_2 : Int32).toNatClampNeg p1) (z_4 : Int32).toNatClampNeg p2) (z_6 : Int32).toNatClampNeg p3)))]) [0, 1, 2] rfl
    have hD9 := hD.sub (ws' := [(yh, .inr (5, G5 ya z_7 ystage ysailed yvoyage)), ((ya 5), .inl (E 0, 40, .inl (upd yf5 (ysights : Int32).toNatClampNeg p0))), ((ya 6), .inl (E 0, 120, .inl (upd (upd (upd yf6 (z_2 : Int32).toNatClampNeg p1) (z_4 : Int32).toNatClampNeg p2) (z_6 : Int32).toNatClampNeg p3)))]) [0, 1, 2] (by decide) rfl
    exact W.iret (v := z_8) hx hb hr (fun t ht hW => ⟨⟨z_8, ((upd yf5 (ysights : Int32).toNatClampNeg p0), (upd (upd (upd yf6 (z_2 : Int32).toNatClampNeg p1) (z_4 : Int32).toNatClampNeg p2) (z_6 : Int32).toNatClampNeg p3), z_7), rfl, ⟨(by (try dsimp only); omega), (by have q2 : (z_6 : Int32).toNatClampNeg = 3 * (ysights).toNatClampNeg + 2 := (by have c9 := i_clamp0 (x := ysights) (by omega); have c8 := i_clamp0 (x := z_6) (by omega); omega); have q1 : (z_4 : Int32).toNatClampNeg = 3 * (ysights).toNatClampNeg + 1 := (by have c9 := i_clamp0 (x := ysights) (by omega); have c8 := i_clamp0 (x := z_4) (by omega); omega); have q0 : (z_2 : Int32).toNatClampNeg = 3 * (ysights).toNatClampNeg + 0 := (by have c9 := i_clamp0 (x := ysights) (by omega); have c8 := i_clamp0 (x := z_2) (by omega); omega); (try dsimp only); exact Or.inl ⟨by omega, by omega, by omega, rfl, by rw [q0, q1, q2]⟩)⟩, by rw [ht]; exact hP9, hD9⟩, hS.F ht⟩) hS.2.2 dX5_addSight_79
  ·
    have ic_1 : 40 ≤ ysights.toInt := by first | exact (g_le t_40 rfl).mp c_1 | (have h := mt (g_lt rfl t_40).mpr c_1; omega)
    clear c_1
    refine lv_bipush (v := (-5)) hx hb dX5_addSight_9 (by decide) ?_
    have hP9 := hP.sub (ws' := [(yh, .inr (5, G5 ya ysights ystage ysailed yvoyage)), ((ya 5), .inl (E 0, 40, .inl yf5)), ((ya 6), .inl (E 0, 120, .inl yf6))]) [0, 1, 2] rfl
    have hD9 := hD.sub (ws' := [(yh, .inr (5, G5 ya ysights ystage ysailed yvoyage)), ((ya 5), .inl (E 0, 40, .inl yf5)), ((ya 6), .inl (E 0, 120, .inl yf6))]) [0, 1, 2] (by decide) rfl
    exact W.iret (v := (-5)) hx hb hr (fun t ht hW => ⟨⟨(-5), (yf5, yf6, ysights), rfl, ⟨(by (try dsimp only); omega), (by have hl := t_m5; (try dsimp only); exact Or.inr ⟨by omega, by omega, rfl, rfl, rfl⟩)⟩, by rw [ht]; exact hP9, hD9⟩, hS.F ht⟩) hS.2.2 dX5_addSight_11
set_option maxHeartbeats 4000000 in
set_option maxRecDepth 100000 in
theorem g_X5_isOf (l : Launch) (D : va_G) (E : Nat → Nat) (yh : Nat) (ya : Nat → Nat) (ysights : Int32) (ystage : Int32) (ysailed : Int32) (yvoyage : Int32) (p0 : Int32) (p1 : Int32) (hi_y : (0 ≤ ysights.toInt ∧ ysights.toInt ≤ 40)) : Met l yX5_isOf (wl yX5_isOf cX5_isOf 3 (some .boolean)) (RM 0 0 0) (rd_P D E [.ref yh, .int p0, .int p1] [(yh, .inr (5, G5 ya ysights ystage ysailed yvoyage))]) (rd_Q (fun r => ((r = 1 ∧ (0 ≤ p0.toInt ∧ p0.toInt < ysights.toInt ∧ 0 ≤ p1.toInt ∧ p1.toInt ≤ 2)) ∨ (r = 0 ∧ ¬ (0 ≤ p0.toInt ∧ p0.toInt < ysights.toInt ∧ 0 ≤ p1.toInt ∧ p1.toInt ≤ 2))))) 0 0 (fun _ => False) := by
  refine Met.ofW (cc := cX5_isOf) (maxL := 3) (ret := (some .boolean)) (by decide) rfl ?_
  intro p e s m args below meth c s₁ B hml hv
  obtain ⟨rfl, hP, hK⟩ := hv
  have hx := B.exec; have hb := B.bytes; have hr := B.returns
  have hts := atoms_spec (ws := wl yX5_isOf cX5_isOf 3 (some .boolean)) B.pre
  have htb : ∀ w ∈ tb, w.before _ s = true := fun w h => hts w (List.mem_cons_of_mem _ h)
  have hown : s.vm.findClass RX5 = some m.cls := findClass_of_methodNamed B.named
  have hlocks := B.notSynchronized
  have hP : va_P D vwCl [(yh, .inr (5, G5 ya ysights ystage ysailed yvoyage))] s.heap := hP
  have hl := lv_entry ([.ref yh, .int p0, .int p1]) (n := 3) (Nat.le_of_ble_eq_true rfl)
  rw [lg_entry_eq]
  generalize (lg_sl ([.ref yh, .int p0, .int p1]) ++ List.replicate (3 - (lg_sl ([.ref yh, .int p0, .int p1])).length) Slot.unset).toArray = ls at hl ⊢
  have hl : lv_has ls 3 [(0, .ref yh), (1, .int p0), (2, .int p1)] := hl
  have lo_p0 := i_lo p0; have hi_p0 := i_hi p0
  have lo_p1 := i_lo p1; have hi_p1 := i_hi p1
  refine lv_iload_n hx hb dX5_isOf_0 rfl (lv_at hl 1 rfl) ?_
  refine lv_if_lt (tgt := 25) hx hb dX5_isOf_1 (by decide) (fun c_1 => ?_) (fun c_1 => ?_)
  ·
    have ic_1 : p0.toInt < 0 := by first | exact (g_lt rfl t_0).mp c_1 | (have h := mt (g_le t_0 rfl).mpr c_1; omega)
    clear c_1
    refine lv_iconst (v := 0) hx hb dX5_isOf_25 (by decide) ?_
    exact W.zret (v := 0) hx hb hr rfl (fun t ht hW => ⟨0, rfl, by first | exact Or.inr ⟨rfl, by omega⟩ | (exfalso; omega), ht⟩) (fun q h => by cases h) dX5_isOf_26
  ·
    have ic_1 : 0 ≤ p0.toInt := by first | exact (g_le t_0 rfl).mp c_1 | (have h := mt (g_lt rfl t_0).mpr c_1; omega)
    clear c_1
    refine lv_iload_n hx hb dX5_isOf_4 rfl (lv_at hl 1 rfl) ?_
    refine lv_aload_n hx hb dX5_isOf_5 rfl (lv_at hl 0 rfl) ?_
    refine va_get (D := D) (ci := 5) (v := .int ysights) (C := RX5) (T := TX5) (N := 11) hx hb htb iX5 hown hK.1 hP 0 rfl rfl 7 (by decide) (htb _ k_241) (fun _ h9 => h9) rfl dX5_isOf_6 ?_
    refine lv_icmp_ge (tgt := 25) hx hb dX5_isOf_9 (by decide) (fun c_2 => ?_) (fun c_2 => ?_)
    ·
      have ic_2 : ysights.toInt ≤ p0.toInt := by first | exact (g_le rfl rfl).mp c_2 | (have h := mt (g_lt rfl rfl).mpr c_2; omega)
      clear c_2
      refine lv_iconst (v := 0) hx hb dX5_isOf_25 (by decide) ?_
      exact W.zret (v := 0) hx hb hr rfl (fun t ht hW => ⟨0, rfl, by first | exact Or.inr ⟨rfl, by omega⟩ | (exfalso; omega), ht⟩) (fun q h => by cases h) dX5_isOf_26
    ·
      have ic_2 : p0.toInt < ysights.toInt := by first | exact (g_lt rfl rfl).mp c_2 | (have h := mt (g_le rfl rfl).mpr c_2; omega)
      clear c_2
      refine lv_iload_n hx hb dX5_isOf_12 rfl (lv_at hl 2 rfl) ?_
      refine lv_if_lt (tgt := 25) hx hb dX5_isOf_13 (by decide) (fun c_3 => ?_) (fun c_3 => ?_)
      ·
        have ic_3 : p1.toInt < 0 := by first | exact (g_lt rfl t_0).mp c_3 | (have h := mt (g_le t_0 rfl).mpr c_3; omega)
        clear c_3
        refine lv_iconst (v := 0) hx hb dX5_isOf_25 (by decide) ?_
        exact W.zret (v := 0) hx hb hr rfl (fun t ht hW => ⟨0, rfl, by first | exact Or.inr ⟨rfl, by omega⟩ | (exfalso; omega), ht⟩) (fun q h => by cases h) dX5_isOf_26
      ·
        have ic_3 : 0 ≤ p1.toInt := by first | exact (g_le t_0 rfl).mp c_3 | (have h := mt (g_lt rfl t_0).mpr c_3; omega)
        clear c_3
        refine lv_iload_n hx hb dX5_isOf_16 rfl (lv_at hl 2 rfl) ?_
        refine lv_iconst (v := 3) hx hb dX5_isOf_17 (by decide) ?_
        refine lv_icmp_ge (tgt := 25) hx hb dX5_isOf_18 (by decide) (fun c_4 => ?_) (fun c_4 => ?_)
        ·
          have ic_4 : 3 ≤ p1.toInt := by first | exact (g_le t_3 rfl).mp c_4 | (have h := mt (g_lt rfl t_3).mpr c_4; omega)
          clear c_4
          refine lv_iconst (v := 0) hx hb dX5_isOf_25 (by decide) ?_
          exact W.zret (v := 0) hx hb hr rfl (fun t ht hW => ⟨0, rfl, by first | exact Or.inr ⟨rfl, by omega⟩ | (exfalso; omega), ht⟩) (fun q h => by cases h) dX5_isOf_26
        ·
          have ic_4 : p1.toInt < 3 := by first | exact (g_lt rfl t_3).mp c_4 | (have h := mt (g_le t_3 rfl).mpr c_4; omega)
          clear c_4
          refine lv_iconst (v := 1) hx hb dX5_isOf_21 (by decide) ?_
          refine lv_goto (tgt := 26) hx hb dX5_isOf_22 (by decide) ?_
          exact W.zret (v := 1) hx hb hr rfl (fun t ht hW => ⟨1, rfl, by first | exact Or.inl ⟨rfl, by omega⟩ | (exfalso; omega), ht⟩) (fun q h => by cases h) dX5_isOf_26
set_option maxHeartbeats 4000000 in
set_option maxRecDepth 100000 in
theorem g_X5_daysSince (l : Launch) (D : va_G) (E : Nat → Nat) (yh : Nat) (ya : Nat → Nat) (ysights : Int32) (ystage : Int32) (ysailed : Int32) (yvoyage : Int32) (yf5 : Nat → Int32) (p0 : Int32) (hi_y : (0 ≤ ysights.toInt ∧ ysights.toInt ≤ 40)) : Met l yX5_daysSince (wl yX5_daysSince cX5_daysSince 2 (some .int)) (RM 1 0 0) (rd_P D E [.ref yh, .int p0] [(yh, .inr (5, G5 ya ysights ystage ysailed yvoyage)), ((ya 5), .inl (E 0, 40, .inl yf5))]) (rd_Q (fun r => (((0 ≤ p0.toInt ∧ p0.toInt < ysights.toInt) ∧ r = yf5 (p0).toNatClampNeg - ysailed) ∨ (¬ (0 ≤ p0.toInt ∧ p0.toInt < ysights.toInt) ∧ r.toInt = 0)))) 0 0 (fun _ => False) := by
  refine Met.ofW (cc := cX5_daysSince) (maxL := 2) (ret := (some .int)) (by decide) rfl ?_
  intro p e s m args below meth c s₁ B hml hv
  obtain ⟨rfl, hP, hK⟩ := hv
  have hx := B.exec; have hb := B.bytes; have hr := B.returns
  have hts := atoms_spec (ws := wl yX5_daysSince cX5_daysSince 2 (some .int)) B.pre
  have htb : ∀ w ∈ tb, w.before _ s = true := fun w h => hts w (List.mem_cons_of_mem _ h)
  have hown : s.vm.findClass RX5 = some m.cls := findClass_of_methodNamed B.named
  have hlocks := B.notSynchronized
  have hP : va_P D vwCl [(yh, .inr (5, G5 ya ysights ystage ysailed yvoyage)), ((ya 5), .inl (E 0, 40, .inl yf5))] s.heap := hP
  have hl := lv_entry ([.ref yh, .int p0]) (n := 2) (Nat.le_of_ble_eq_true rfl)
  rw [lg_entry_eq]
  generalize (lg_sl ([.ref yh, .int p0]) ++ List.replicate (2 - (lg_sl ([.ref yh, .int p0])).length) Slot.unset).toArray = ls at hl ⊢
  have hl : lv_has ls 2 [(0, .ref yh), (1, .int p0)] := hl
  have lo_p0 := i_lo p0; have hi_p0 := i_hi p0
  refine lv_aload_n hx hb dX5_daysSince_0 rfl (lv_at hl 0 rfl) ?_
  refine lv_iload_n hx hb dX5_daysSince_1 rfl (lv_at hl 1 rfl) ?_
  refine lv_iconst (v := 0) hx hb dX5_daysSince_2 (by decide) ?_
  refine callRV (rest := []) (As := [.int p0, .int 0]) hx hb hml hown htb hK (g_X5_isOf l D E yh ya ysights ystage ysailed yvoyage p0 0 (by (try dsimp only); omega)) ok_X5_isOf k_833 k_835 ks_31 k_8 k_836 ⟨(Nat.le_of_ble_eq_true rfl), (Nat.le_of_ble_eq_true rfl)⟩ ⟨(Nat.le_of_ble_eq_true rfl), (Nat.le_of_ble_eq_true rfl)⟩ hl.1 (Nat.le_of_ble_eq_true rfl) rfl rfl dX5_daysSince_3 (hP.sub (ws' := [(yh, .inr (5, G5 ya ysights ystage ysailed yvoyage))]) [0] rfl) rfl rfl 0 rfl (fun r_1 hw_2 => ?_)
  try simp only [t_0] at hw_2
  rcases hw_2 with ⟨hr_1, hw_2⟩ | ⟨hr_1, hw_2⟩
  ·
    try simp only [t_0] at hw_2
    refine W_top (y := .int 1) (by rw [hr_1]) ?_
    refine lv_if_eq (tgt := 23) hx hb dX5_daysSince_6 (by decide) (fun c_4 => absurd c_4 (by decide)) (fun c_4 => ?_)
    refine lv_aload_n hx hb dX5_daysSince_9 rfl (lv_at hl 0 rfl) ?_
    refine va_get (D := D) (ci := 5) (v := .ref (ya 5)) (C := RX5) (T := TX5) (N := 11) hx hb htb iX5 hown hK.1 hP 0 rfl rfl 5 (by decide) (htb _ k_238) (fun _ h9 => h9) rfl dX5_daysSince_10 ?_
    refine lv_iload_n hx hb dX5_daysSince_13 rfl (lv_at hl 1 rfl) ?_
    refine va_iald hx hb hK.1 hP 1 0 rfl rfl (g_in rfl (by omega) (by omega)) dX5_daysSince_14 ?_
    refine lv_topi (fun z_5 ez_5 => ?_)
    have kz_5 := congrArg Int32.toInt ez_5
    refine lv_aload_n hx hb dX5_daysSince_15 rfl (lv_at hl 0 rfl) ?_
    refine va_get (D := D) (ci := 5) (v := .int ysailed) (C := RX5) (T := TX5) (N := 11) hx hb htb iX5 hown hK.1 hP 0 rfl rfl 9 (by decide) (htb _ k_245) (fun _ h9 => h9) rfl dX5_daysSince_16 ?_
    refine lv_isub hx hb dX5_daysSince_19 ?_
    refine lv_topi (fun z_6 ez_6 => ?_)
    refine lv_goto (tgt := 24) hx hb dX5_daysSince_20 (by decide) ?_
    exact W.iret (v := z_6) hx hb hr (fun t ht hW => ⟨z_6, rfl, (by exact Or.inl ⟨by omega, by subst_vars; rfl⟩), ht⟩) (fun q h => by cases h) dX5_daysSince_24
  ·
    try simp only [t_0] at hw_2
    refine W_top (y := .int 0) (by rw [hr_1]) ?_
    refine lv_if_eq (tgt := 23) hx hb dX5_daysSince_6 (by decide) (fun c_7 => ?_) (fun c_7 => absurd (by decide) c_7)
    refine lv_iconst (v := 0) hx hb dX5_daysSince_23 (by decide) ?_
    exact W.iret (v := 0) hx hb hr (fun t ht hW => ⟨0, rfl, (by have hl := t_0; exact Or.inr ⟨by omega, by omega⟩), ht⟩) (fun q h => by cases h) dX5_daysSince_24
set_option maxHeartbeats 4000000 in
set_option maxRecDepth 100000 in
theorem g_X5_widthOf (l : Launch) (D : va_G) (E : Nat → Nat) (yh : Nat) (ya : Nat → Nat) (ysights : Int32) (ystage : Int32) (ysailed : Int32) (yvoyage : Int32) (yf3 : Nat → Int32) (yf5 : Nat → Int32) (p0 : Int32) (p1 : Int32) (hi_y : (0 ≤ ysights.toInt ∧ ysights.toInt ≤ 40)) : Met l yX5_widthOf (wl yX5_widthOf cX5_widthOf 4 (some .int)) (RM 2 0 0) (rd_P D E [.ref yh, .int p0, .int p1] [(yh, .inr (5, G5 ya ysights ystage ysailed yvoyage)), ((ya 3), .inl (E 0, 3, .inl yf3)), ((ya 5), .inl (E 0, 40, .inl yf5))]) (rd_Q (fun r => (((0 ≤ p0.toInt ∧ p0.toInt < ysights.toInt ∧ 0 ≤ p1.toInt ∧ p1.toInt ≤ 2) ∧ r = wdX ystage yvoyage ysailed yf3 yf5 p0 p1) ∨ (¬ (0 ≤ p0.toInt ∧ p0.toInt < ysights.toInt ∧ 0 ≤ p1.toInt ∧ p1.toInt ≤ 2) ∧ r.toInt = 0)))) 0 0 (fun _ => False) := by
  refine Met.ofW (cc := cX5_widthOf) (maxL := 4) (ret := (some .int)) (by decide) rfl ?_
  intro p e s m args below meth c s₁ B hml hv
  obtain ⟨rfl, hP, hK⟩ := hv
  have hx := B.exec; have hb := B.bytes; have hr := B.returns
  have hts := atoms_spec (ws := wl yX5_widthOf cX5_widthOf 4 (some .int)) B.pre
  have htb : ∀ w ∈ tb, w.before _ s = true := fun w h => hts w (List.mem_cons_of_mem _ h)
  have hown : s.vm.findClass RX5 = some m.cls := findClass_of_methodNamed B.named
  have hlocks := B.notSynchronized
  have hP : va_P D vwCl [(yh, .inr (5, G5 ya ysights ystage ysailed yvoyage)), ((ya 3), .inl (E 0, 3, .inl yf3)), ((ya 5), .inl (E 0, 40, .inl yf5))] s.heap := hP
  have hl := lv_entry ([.ref yh, .int p0, .int p1]) (n := 4) (Nat.le_of_ble_eq_true rfl)
  rw [lg_entry_eq]
  generalize (lg_sl ([.ref yh, .int p0, .int p1]) ++ List.replicate (4 - (lg_sl ([.ref yh, .int p0, .int p1])).length) Slot.unset).toArray = ls at hl ⊢
  have hl : lv_has ls 4 [(0, .ref yh), (1, .int p0), (2, .int p1)] := hl
  have lo_p0 := i_lo p0; have hi_p0 := i_hi p0
  have lo_p1 := i_lo p1; have hi_p1 := i_hi p1
  refine lv_aload_n hx hb dX5_widthOf_0 rfl (lv_at hl 0 rfl) ?_
  refine lv_iload_n hx hb dX5_widthOf_1 rfl (lv_at hl 1 rfl) ?_
  refine lv_iload_n hx hb dX5_widthOf_2 rfl (lv_at hl 2 rfl) ?_
  refine callRV (rest := []) (As := [.int p0, .int p1]) hx hb hml hown htb hK (g_X5_isOf l D E yh ya ysights ystage ysailed yvoyage p0 p1 (by (try dsimp only); omega)) ok_X5_isOf k_833 k_835 ks_31 k_8 k_836 ⟨(Nat.le_of_ble_eq_true rfl), (Nat.le_of_ble_eq_true rfl)⟩ ⟨(Nat.le_of_ble_eq_true rfl), (Nat.le_of_ble_eq_true rfl)⟩ hl.1 (Nat.le_of_ble_eq_true rfl) rfl rfl dX5_widthOf_3 (hP.sub (ws' := [(yh, .inr (5, G5 ya ysights ystage ysailed yvoyage))]) [0] rfl) rfl rfl 0 rfl (fun r_1 hw_2 => ?_)
  rcases hw_2 with ⟨hr_1, hw_2⟩ | ⟨hr_1, hw_2⟩
  ·
    refine W_top (y := .int 1) (by rw [hr_1]) ?_
    refine lv_if_ne (tgt := 11) hx hb dX5_widthOf_6 (by decide) (fun c_4 => ?_) (fun c_4 => absurd c_4 (by decide))
    refine lv_aload_n hx hb dX5_widthOf_11 rfl (lv_at hl 0 rfl) ?_
    refine lv_iload_n hx hb dX5_widthOf_12 rfl (lv_at hl 1 rfl) ?_
    refine callRV (rest := []) (As := [.int p0]) hx hb hml hown htb hK (g_X5_daysSince l D E yh ya ysights ystage ysailed yvoyage yf5 p0 (by (try dsimp only); omega)) ok_X5_daysSince k_837 k_838 k_839 k_8 k_840 ⟨(Nat.le_of_ble_eq_true rfl), (Nat.le_of_ble_eq_true rfl)⟩ ⟨(Nat.le_of_ble_eq_true rfl), (Nat.le_of_ble_eq_true rfl)⟩ hl.1 (Nat.le_of_ble_eq_true rfl) rfl rfl dX5_widthOf_13 (hP.sub (ws' := [(yh, .inr (5, G5 ya ysights ystage ysailed yvoyage)), ((ya 5), .inl (E 0, 40, .inl yf5))]) [0, 2] rfl) rfl rfl 0 rfl (fun r_5 hw_6 => ?_)
    refine lv_istore_n (lv' := [(3, .int r_5), (0, .ref yh), (1, .int p0), (2, .int p1)]) hx hb dX5_widthOf_16 rfl hl (by decide) rfl (fun ls hl => ?_)
    refine lv_aload_n hx hb dX5_widthOf_17 rfl (lv_at hl 1 rfl) ?_
    refine va_get (D := D) (ci := 5) (v := .ref (ya 3)) (C := RX5) (T := TX5) (N := 11) hx hb htb iX5 hown hK.1 hP 0 rfl rfl 3 (by decide) (htb _ k_234) (fun _ h9 => h9) rfl dX5_widthOf_18 ?_
    refine lv_iload_n hx hb dX5_widthOf_21 rfl (lv_at hl 3 rfl) ?_
    refine va_iald hx hb hK.1 hP 1 0 rfl rfl (g_in rfl (by omega) (by omega)) dX5_widthOf_22 ?_
    refine lv_topi (fun z_8 ez_8 => ?_)
    have kz_8 := congrArg Int32.toInt ez_8
    refine lv_aload_n hx hb dX5_widthOf_23 rfl (lv_at hl 1 rfl) ?_
    refine va_get (D := D) (ci := 5) (v := .int ystage) (C := RX5) (T := TX5) (N := 11) hx hb htb iX5 hown hK.1 hP 0 rfl rfl 8 (by decide) (htb _ k_243) (fun _ h9 => h9) rfl dX5_widthOf_24 ?_
    refine lv_iconst (v := 2) hx hb dX5_widthOf_27 (by decide) ?_
    refine lv_icmp_ne (tgt := 44) hx hb dX5_widthOf_28 (by decide) (fun c_9 => ?_) (fun c_9 => ?_)
    ·
      have ic_9 : ystage.toInt ≠ 2 := mt (g_eq rfl t_2).mpr c_9
      clear c_9
      refine lv_iload_n hx hb dX5_widthOf_44 rfl (lv_at hl 0 rfl) ?_
      refine lv_imul hx hb dX5_widthOf_45 ?_
      refine lv_topi (fun z_10 ez_10 => ?_)
      refine lv_iconst (v := 5) hx hb dX5_widthOf_46 (by decide) ?_
      refine lv_iadd hx hb dX5_widthOf_47 ?_
      refine lv_topi (fun z_11 ez_11 => ?_)
      exact W.iret (v := z_11) hx hb hr (fun t ht hW => ⟨z_11, rfl, (by refine Or.inl ⟨by omega, ?_⟩; have hd := (hw_6.resolve_right (fun h9 => h9.1 (by omega))).2; unfold wdX; (first | rw [if_pos (by omega)] | rw [if_neg (by omega)]); subst_vars; rfl), ht⟩) (fun q h => by cases h) dX5_widthOf_48
    ·
      have ic_9 : ystage.toInt = 2 := (g_eq rfl t_2).mp c_9
      clear c_9
      refine lv_iload_n hx hb dX5_widthOf_31 rfl (lv_at hl 0 rfl) ?_
      refine lv_aload_n hx hb dX5_widthOf_32 rfl (lv_at hl 1 rfl) ?_
      refine va_get (D := D) (ci := 5) (v := .int yvoyage) (C := RX5) (T := TX5) (N := 11) hx hb htb iX5 hown hK.1 hP 0 rfl rfl 10 (by decide) (htb _ k_247) (fun _ h9 => h9) rfl dX5_widthOf_33 ?_
      refine lv_iload_n hx hb dX5_widthOf_36 rfl (lv_at hl 0 rfl) ?_
      refine lv_isub hx hb dX5_widthOf_37 ?_
      refine lv_topi (fun z_12 ez_12 => ?_)
      refine va_mmin hx hb (by rw [hml, hl.1]) hown (htb _ k_841) (htb _ k_725) (htb _ k_11) (htb _ k_726) (Nat.le_of_ble_eq_true rfl) (Nat.le_of_ble_eq_true rfl) (Nat.le_of_ble_eq_true rfl) (Nat.le_of_ble_eq_true rfl) dX5_widthOf_38 ?_
      refine lv_topi (fun z_13 ez_13 => ?_)
      have jz_13 := g_min rfl rfl ez_13
      refine lv_goto (tgt := 45) hx hb dX5_widthOf_41 (by decide) ?_
      refine lv_imul hx hb dX5_widthOf_45 ?_
      refine lv_topi (fun z_14 ez_14 => ?_)
      refine lv_iconst (v := 5) hx hb dX5_widthOf_46 (by decide) ?_
      refine lv_iadd hx hb dX5_widthOf_47 ?_
      refine lv_topi (fun z_15 ez_15 => ?_)
      exact W.iret (v := z_15) hx hb hr (fun t ht hW => ⟨z_15, rfl, (by refine Or.inl ⟨by omega, ?_⟩; have hd := (hw_6.resolve_right (fun h9 => h9.1 (by omega))).2; unfold wdX; (first | rw [if_pos (by omega)] | rw [if_neg (by omega)]); subst_vars; rfl), ht⟩) (fun q h => by cases h) dX5_widthOf_48
  ·
    refine W_top (y := .int 0) (by rw [hr_1]) ?_
    refine lv_if_ne (tgt := 11) hx hb dX5_widthOf_6 (by decide) (fun c_16 => absurd (by decide) c_16) (fun c_16 => ?_)
    refine lv_iconst (v := 0) hx hb dX5_widthOf_9 (by decide) ?_
    exact W.iret (v := 0) hx hb hr (fun t ht hW => ⟨0, rfl, (by have hl := t_0; exact Or.inr ⟨by omega, by omega⟩), ht⟩) (fun q h => by cases h) dX5_widthOf_10
