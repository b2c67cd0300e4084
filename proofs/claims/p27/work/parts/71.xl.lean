set_option maxHeartbeats 4000000 in
set_option maxRecDepth 100000 in
theorem g_X8_put_0 (l : Launch) (D : va_G) (E : Nat → Nat) (xh : Nat) (xa : Nat → Nat) (xtrialRule : Nat) (xdropRule : Nat) (xtoday : Int32) (xf1 : Nat → Int32) (xf2 : Nat → Int32) (p0 : Int32) (p1 : Int32) (p2 : Int32) (sz : Nat) (hi_x : (0 ≤ xtoday.toInt ∧ xtoday.toInt ≤ 399)) (hn : ¬ ((0 ≤ p0.toInt ∧ p0.toInt ≤ 15) ∧ ((p1.toInt = 0 ∧ p2.toInt = 0) ∨ (p1.toInt = 1 ∧ -50 ≤ p2.toInt ∧ p2.toInt ≤ 50) ∨ p1.toInt = 2) ∧ p1.toInt ≠ 2 ∧ (xf1 (p0).toNatClampNeg).toInt = -5)) : Met l yX8_put (wl yX8_put cX8_put 4 (some .int)) (RM 2 0 0) (mu_P D E [.ref xh, .int p0, .int p1, .int p2] [(xh, .inr (8, G8 xa xtrialRule xdropRule xtoday)), ((xa 1), .inl (E 0, 16, .inl xf1)), ((xa 2), .inl (E 0, 16, .inl xf2))] sz) (va_Qi (fun (r : Int32) (u : (Nat → Int32) × (Nat → Int32)) => (K2 xf1 u.1) ∧ ((¬ ((0 ≤ p0.toInt ∧ p0.toInt ≤ 15) ∧ ((p1.toInt = 0 ∧ p2.toInt = 0) ∨ (p1.toInt = 1 ∧ -50 ≤ p2.toInt ∧ p2.toInt ≤ 50) ∨ p1.toInt = 2)) ∧ r.toInt = -1 ∧ u.1 = xf1 ∧ u.2 = xf2) ∨ (((0 ≤ p0.toInt ∧ p0.toInt ≤ 15) ∧ ((p1.toInt = 0 ∧ p2.toInt = 0) ∨ (p1.toInt = 1 ∧ -50 ≤ p2.toInt ∧ p2.toInt ≤ 50) ∨ p1.toInt = 2)) ∧ (xf1 (p0).toNatClampNeg).toInt ≠ -5 ∧ r.toInt = -4 ∧ u.1 = xf1 ∧ u.2 = xf2) ∨ (((0 ≤ p0.toInt ∧ p0.toInt ≤ 15) ∧ ((p1.toInt = 0 ∧ p2.toInt = 0) ∨ (p1.toInt = 1 ∧ -50 ≤ p2.toInt ∧ p2.toInt ≤ 50) ∨ p1.toInt = 2)) ∧ (xf1 (p0).toNatClampNeg).toInt = -5 ∧ p1.toInt = 2 ∧ r.toInt = 1 ∧ u.1 = upd xf1 (p0).toNatClampNeg p1 ∧ u.2 = upd xf2 (p0).toNatClampNeg p2))) (mu_B D (va_A [(xh, .inr (8, G8 xa xtrialRule xdropRule xtoday)), ((xa 1), .inl (E 0, 16, .inl xf1)), ((xa 2), .inl (E 0, 16, .inl xf2))] sz) (fun (u : (Nat → Int32) × (Nat → Int32)) => [(xh, .inr (8, G8 xa xtrialRule xdropRule xtoday)), ((xa 1), .inl (E 0, 16, .inl u.1)), ((xa 2), .inl (E 0, 16, .inl u.2))])) (va_A [(xh, .inr (8, G8 xa xtrialRule xdropRule xtoday)), ((xa 1), .inl (E 0, 16, .inl xf1)), ((xa 2), .inl (E 0, 16, .inl xf2))] sz)) 0 0 (va_A [(xh, .inr (8, G8 xa xtrialRule xdropRule xtoday)), ((xa 1), .inl (E 0, 16, .inl xf1)), ((xa 2), .inl (E 0, 16, .inl xf2))] sz) := by
  refine Met.ofW (cc := cX8_put) (maxL := 4) (ret := (some .int)) (by decide) rfl ?_
  intro p e s m args below meth c s₁ B hml hv
  obtain ⟨rfl, hsz, hP, hK, hD0⟩ := hv
  have hx := B.exec; have hb := B.bytes; have hr := B.returns
  have hts := atoms_spec (ws := wl yX8_put cX8_put 4 (some .int)) B.pre
  have htb : ∀ w ∈ tb, w.before _ s = true := fun w h => hts w (List.mem_cons_of_mem _ h)
  have hown : s.vm.findClass RX8 = some m.cls := findClass_of_methodNamed B.named
  have hlocks := B.notSynchronized
  subst hsz
  have hD := hD0.self (sz := s.heap.size)
  generalize hAe : va_A [(xh, .inr (8, G8 xa xtrialRule xdropRule xtoday)), ((xa 1), .inl (E 0, 16, .inl xf1)), ((xa 2), .inl (E 0, 16, .inl xf2))] s.heap.size = A at hD ⊢
  have hA : ∀ q : Nat, s.heap.size ≤ q → A q := fun q h => by rw [← hAe]; exact Or.inr h
  have hS : va_S A s.heap s.heap [] := va_S.rf
  have hP : va_P D vwCl [(xh, .inr (8, G8 xa xtrialRule xdropRule xtoday)), ((xa 1), .inl (E 0, 16, .inl xf1)), ((xa 2), .inl (E 0, 16, .inl xf2))] s.heap := hP
  have hl := lv_entry ([.ref xh, .int p0, .int p1, .int p2]) (n := 4) (Nat.le_of_ble_eq_true rfl)
  rw [lg_entry_eq]
  generalize (lg_sl ([.ref xh, .int p0, .int p1, .int p2]) ++ List.replicate (4 - (lg_sl ([.ref xh, .int p0, .int p1, .int p2])).length) Slot.unset).toArray = ls at hl ⊢
  have hl : lv_has ls 4 [(0, .ref xh), (1, .int p0), (2, .int p1), (3, .int p2)] := hl
  have lo_p0 := i_lo p0; have hi_p0 := i_hi p0
  have lo_p1 := i_lo p1; have hi_p1 := i_hi p1
  have lo_p2 := i_lo p2; have hi_p2 := i_hi p2
  refine lv_iload_n hx hb dX8_put_0 rfl (lv_at hl 1 rfl) ?_
  refine callRS (rest := []) (As := [.int p0]) hx hb hml hown htb hK (g_X8_isPlace l D E p0 ) ok_X8_isPlace k_333 k_334 k_1 k_335 ⟨(Nat.le_of_ble_eq_true rfl), (Nat.le_of_ble_eq_true rfl)⟩ ⟨(Nat.le_of_ble_eq_true rfl), (Nat.le_of_ble_eq_true rfl)⟩ hl.1 (Nat.le_of_ble_eq_true rfl) rfl rfl dX8_put_1 (hP.sub (ws' := ([] : va_W)) [] rfl) (fun r_1 hw_2 => ?_)
  rcases hw_2 with ⟨hr_1, hw_2⟩ | ⟨hr_1, hw_2⟩
  ·
    refine W_top (y := .int 1) (by rw [hr_1]) ?_
    refine lv_if_eq (tgt := 15) hx hb dX8_put_4 (by decide) (fun c_4 => absurd c_4 (by decide)) (fun c_4 => ?_)
    refine lv_iload_n hx hb dX8_put_7 rfl (lv_at hl 2 rfl) ?_
    refine lv_iload_n hx hb dX8_put_8 rfl (lv_at hl 3 rfl) ?_
    refine callRS (rest := []) (As := [.int p1, .int p2]) hx hb hml hown htb hK (g_X8_fitsKind l D E p1 p2 ) ok_X8_fitsKind k_336 k_337 k_1 k_338 ⟨(Nat.le_of_ble_eq_true rfl), (Nat.le_of_ble_eq_true rfl)⟩ ⟨(Nat.le_of_ble_eq_true rfl), (Nat.le_of_ble_eq_true rfl)⟩ hl.1 (Nat.le_of_ble_eq_true rfl) rfl rfl dX8_put_9 (hP.sub (ws' := ([] : va_W)) [] rfl) (fun r_5 hw_6 => ?_)
    rcases hw_6 with ⟨hr_5, hw_6⟩ | ⟨hr_5, hw_6⟩
    ·
      refine W_top (y := .int 1) (by rw [hr_5]) ?_
      refine lv_if_ne (tgt := 17) hx hb dX8_put_12 (by decide) (fun c_8 => ?_) (fun c_8 => absurd c_8 (by decide))
      refine lv_aload_n hx hb dX8_put_17 rfl (lv_at hl 0 rfl) ?_
      refine va_get (D := D) (ci := 8) (v := .ref (xa 1)) (C := RX8) (T := TX8) (N := 14) hx hb htb iX8 hown hK.1 hP 0 rfl rfl 1 (by decide) (htb _ k_273) (fun _ h9 => h9) rfl dX8_put_18 ?_
      refine lv_iload_n hx hb dX8_put_21 rfl (lv_at hl 1 rfl) ?_
      refine va_iald hx hb hK.1 hP 1 0 rfl rfl (g_in rfl (by omega) (by omega)) dX8_put_22 ?_
      refine lv_topi (fun z_9 ez_9 => ?_)
      have kz_9 := congrArg Int32.toInt ez_9
      refine lv_bipush (v := (-5)) hx hb dX8_put_23 (by decide) ?_
      refine lv_icmp_eq (tgt := 31) hx hb dX8_put_25 (by decide) (fun c_10 => ?_) (fun c_10 => ?_)
      ·
        have ic_10 : z_9.toInt = -5 := (g_eq rfl t_m5).mp c_10
        clear c_10
        refine lv_aload_n hx hb dX8_put_31 rfl (lv_at hl 0 rfl) ?_
        refine va_get (D := D) (ci := 8) (v := .ref (xa 1)) (C := RX8) (T := TX8) (N := 14) hx hb htb iX8 hown hK.1 hP 0 rfl rfl 1 (by decide) (htb _ k_273) (fun _ h9 => h9) rfl dX8_put_32 ?_
        refine lv_iload_n hx hb dX8_put_35 rfl (lv_at hl 1 rfl) ?_
        refine lv_iload_n hx hb dX8_put_36 rfl (lv_at hl 2 rfl) ?_
        refine va_iast hx hb hK.1 hP hD hS 1 0 rfl rfl (g_in rfl (by omega) (by omega)) dX8_put_37 (fun H locs hP hD hS => ?_)
        have hP : va_P D vwCl [(xh, .inr (8, G8 xa xtrialRule xdropRule xtoday)), ((xa 1), .inl (E 0, 16, .inl (upd xf1 (p0 : Int32).toNatClampNeg p1))), ((xa 2), .inl (E 0, 16, .inl xf2))] H := hP
        have hD := toW hP hD rfl
        refine lv_aload_n hx hb dX8_put_38 rfl (lv_at hl 0 rfl) ?_
        refine va_get (D := D) (ci := 8) (v := .ref (xa 2)) (C := RX8) (T := TX8) (N := 14) hx hb htb iX8 hown hK.1 hP 0 rfl rfl 2 (by decide) (htb _ k_274) (fun _ h9 => h9) rfl dX8_put_39 ?_
        refine lv_iload_n hx hb dX8_put_42 rfl (lv_at hl 1 rfl) ?_
        refine lv_iload_n hx hb dX8_put_43 rfl (lv_at hl 3 rfl) ?_
        refine va_iast hx hb hK.1 hP hD hS 2 0 rfl rfl (g_in rfl (by omega) (by omega)) dX8_put_44 (fun H locs hP hD hS => ?_)
        have hP : va_P D vwCl [(xh, .inr (8, G8 xa xtrialRule xdropRule xtoday)), ((xa 1), .inl (E 0, 16, .inl (upd xf1 (p0 : Int32).toNatClampNeg p1))), ((xa 2), .inl (E 0, 16, .inl (upd xf2 (p0 : Int32).toNatClampNeg p2)))] H := hP
        have hD := toW hP hD rfl
        refine lv_iload_n hx hb dX8_put_45 rfl (lv_at hl 2 rfl) ?_
        refine lv_iconst (v := 2) hx hb dX8_put_46 (by decide) ?_
        refine lv_icmp_eq (tgt := 55) hx hb dX8_put_47 (by decide) (fun c_11 => ?_) (fun c_11 => ?_)
        ·
          have ic_11 : p1.toInt = 2 := (g_eq rfl t_2).mp c_11
          clear c_11
          refine lv_iconst (v := 1) hx hb dX8_put_55 (by decide) ?_
          have hP9 := hP.sub (ws' := [(xh, .inr (8, G8 xa xtrialRule xdropRule xtoday)), ((xa 1), .inl (E 0, 16, .inl (upd xf1 (p0 : Int32).toNatClampNeg p1))), ((xa 2), .inl (E 0, 16, .inl (upd xf2 (p0 : Int32).toNatClampNeg p2)))]) [0, 1, 2] rfl
          have hD9 := hD.sub (ws' := [(xh, .inr (8, G8 xa xtrialRule xdropRule xtoday)), ((xa 1), .inl (E 0, 16, .inl (upd xf1 (p0 : Int32).toNatClampNeg p1))), ((xa 2), .inl (E 0, 16, .inl (upd xf2 (p0 : Int32).toNatClampNeg p2)))]) [0, 1, 2] (by decide) rfl
          exact W.iret (v := 1) hx hb hr (fun t ht hW => ⟨⟨1, ((upd xf1 (p0 : Int32).toNatClampNeg p1), (upd xf2 (p0 : Int32).toNatClampNeg p2)), rfl, ⟨(K2_u (by omega)), (by have hl0 := t_1; (try dsimp only); first | exact Or.inr (Or.inr ⟨by omega, by omega, by omega, by omega, rfl, rfl⟩))⟩, by rw [ht]; exact hP9, hD9⟩, hS.F ht⟩) hS.2.2 dX8_put_56
        ·
          have ic_11 : p1.toInt ≠ 2 := mt (g_eq rfl t_2).mpr c_11
          clear c_11
          refine lv_aload_n hx hb dX8_put_50 rfl (lv_at hl 0 rfl) ?_
          refine lv_iload_n hx hb dX8_put_51 rfl (lv_at hl 1 rfl) ?_
          exfalso; omega
      ·
        have ic_10 : z_9.toInt ≠ -5 := mt (g_eq rfl t_m5).mpr c_10
        clear c_10
        refine lv_bipush (v := (-4)) hx hb dX8_put_28 (by decide) ?_
        have hP9 := hP.sub (ws' := [(xh, .inr (8, G8 xa xtrialRule xdropRule xtoday)), ((xa 1), .inl (E 0, 16, .inl xf1)), ((xa 2), .inl (E 0, 16, .inl xf2))]) [0, 1, 2] rfl
        have hD9 := hD.sub (ws' := [(xh, .inr (8, G8 xa xtrialRule xdropRule xtoday)), ((xa 1), .inl (E 0, 16, .inl xf1)), ((xa 2), .inl (E 0, 16, .inl xf2))]) [0, 1, 2] (by decide) rfl
        exact W.iret (v := (-4)) hx hb hr (fun t ht hW => ⟨⟨(-4), (xf1, xf2), rfl, ⟨K2_r, (by have hl0 := t_m4; (try dsimp only); first | exact Or.inr (Or.inl ⟨by omega, by omega, by omega, rfl, rfl⟩))⟩, by rw [ht]; exact hP9, hD9⟩, hS.F ht⟩) hS.2.2 dX8_put_30
    ·
      refine W_top (y := .int 0) (by rw [hr_5]) ?_
      refine lv_if_ne (tgt := 17) hx hb dX8_put_12 (by decide) (fun c_12 => absurd (by decide) c_12) (fun c_12 => ?_)
      refine lv_iconst (v := (-1)) hx hb dX8_put_15 (by decide) ?_
      have hP9 := hP.sub (ws' := [(xh, .inr (8, G8 xa xtrialRule xdropRule xtoday)), ((xa 1), .inl (E 0, 16, .inl xf1)), ((xa 2), .inl (E 0, 16, .inl xf2))]) [0, 1, 2] rfl
      have hD9 := hD.sub (ws' := [(xh, .inr (8, G8 xa xtrialRule xdropRule xtoday)), ((xa 1), .inl (E 0, 16, .inl xf1)), ((xa 2), .inl (E 0, 16, .inl xf2))]) [0, 1, 2] (by decide) rfl
      exact W.iret (v := (-1)) hx hb hr (fun t ht hW => ⟨⟨(-1), (xf1, xf2), rfl, ⟨K2_r, (by have hl0 := t_m1; (try dsimp only); first | exact Or.inl ⟨by omega, by omega, rfl, rfl⟩)⟩, by rw [ht]; exact hP9, hD9⟩, hS.F ht⟩) hS.2.2 dX8_put_16
  ·
    refine W_top (y := .int 0) (by rw [hr_1]) ?_
    refine lv_if_eq (tgt := 15) hx hb dX8_put_4 (by decide) (fun c_13 => ?_) (fun c_13 => absurd (by decide) c_13)
    refine lv_iconst (v := (-1)) hx hb dX8_put_15 (by decide) ?_
    have hP9 := hP.sub (ws' := [(xh, .inr (8, G8 xa xtrialRule xdropRule xtoday)), ((xa 1), .inl (E 0, 16, .inl xf1)), ((xa 2), .inl (E 0, 16, .inl xf2))]) [0, 1, 2] rfl
    have hD9 := hD.sub (ws' := [(xh, .inr (8, G8 xa xtrialRule xdropRule xtoday)), ((xa 1), .inl (E 0, 16, .inl xf1)), ((xa 2), .inl (E 0, 16, .inl xf2))]) [0, 1, 2] (by decide) rfl
    exact W.iret (v := (-1)) hx hb hr (fun t ht hW => ⟨⟨(-1), (xf1, xf2), rfl, ⟨K2_r, (by have hl0 := t_m1; (try dsimp only); first | exact Or.inl ⟨by omega, by omega, rfl, rfl⟩)⟩, by rw [ht]; exact hP9, hD9⟩, hS.F ht⟩) hS.2.2 dX8_put_16
set_option maxHeartbeats 4000000 in
set_option maxRecDepth 100000 in
theorem g_X8_put_W (l : Launch) (D : va_G) (E : Nat → Nat) (xh : Nat) (xa : Nat → Nat) (xtrialRule : Nat) (xdropRule : Nat) (xtoday : Int32) (xf1 : Nat → Int32) (xf2 : Nat → Int32) (xf3 : Nat → Option Nat) (wh : Nat) (wa : Nat → Nat) (wf0 : Nat → Int32) (wf1 : Nat → Int32) (wf2 : Nat → Int32) (wf3 : Nat → Int32) (p0 : Int32) (p1 : Int32) (p2 : Int32) (sz : Nat) (hi_x : (0 ≤ xtoday.toInt ∧ xtoday.toInt ≤ 399)) (hm : ((0 ≤ p0.toInt ∧ p0.toInt ≤ 15) ∧ ((p1.toInt = 0 ∧ p2.toInt = 0) ∨ (p1.toInt = 1 ∧ -50 ≤ p2.toInt ∧ p2.toInt ≤ 50) ∨ p1.toInt = 2) ∧ p1.toInt ≠ 2 ∧ (xf1 (p0).toNatClampNeg).toInt = -5)) (hw0 : xf3 (p0).toNatClampNeg = some wh) : Met l yX8_put (wl yX8_put cX8_put 4 (some .int)) (RM 2 0 0) (mu_P D E [.ref xh, .int p0, .int p1, .int p2] [(xh, .inr (8, G8 xa xtrialRule xdropRule xtoday)), ((xa 1), .inl (E 0, 16, .inl xf1)), ((xa 2), .inl (E 0, 16, .inl xf2)), ((xa 3), .inl (E 3, 16, .inr (.inr (.inr (.inr xf3))))), (wh, .inr (7, G7 wa)), ((wa 0), .inl (E 0, 400, .inl wf0)), ((wa 1), .inl (E 0, 400, .inl wf1)), ((wa 2), .inl (E 0, 400, .inl wf2)), ((wa 3), .inl (E 0, 400, .inl wf3))] sz) (va_Qi (fun (r : Int32) (u : (Nat → Int32) × (Nat → Int32) × (Nat → Int32) × (Nat → Int32) × (Nat → Int32) × (Nat → Int32)) => (u.2.2.2.2.1 = upd xf1 (p0).toNatClampNeg p1) ∧ ((r.toInt = 1 ∧ u.2.2.2.2.1 = upd xf1 (p0).toNatClampNeg p1 ∧ u.2.2.2.2.2 = upd xf2 (p0).toNatClampNeg p2 ∧ NEW4 u.1 u.2.1 u.2.2.1 u.2.2.2.1 400))) (mu_B D (va_A [(xh, .inr (8, G8 xa xtrialRule xdropRule xtoday)), ((xa 1), .inl (E 0, 16, .inl xf1)), ((xa 2), .inl (E 0, 16, .inl xf2)), ((xa 3), .inl (E 3, 16, .inr (.inr (.inr (.inr xf3))))), (wh, .inr (7, G7 wa)), ((wa 0), .inl (E 0, 400, .inl wf0)), ((wa 1), .inl (E 0, 400, .inl wf1)), ((wa 2), .inl (E 0, 400, .inl wf2)), ((wa 3), .inl (E 0, 400, .inl wf3))] sz) (fun (u : (Nat → Int32) × (Nat → Int32) × (Nat → Int32) × (Nat → Int32) × (Nat → Int32) × (Nat → Int32)) => [(xh, .inr (8, G8 xa xtrialRule xdropRule xtoday)), ((xa 1), .inl (E 0, 16, .inl u.2.2.2.2.1)), ((xa 2), .inl (E 0, 16, .inl u.2.2.2.2.2)), ((xa 3), .inl (E 3, 16, .inr (.inr (.inr (.inr xf3))))), (wh, .inr (7, G7 wa)), ((wa 0), .inl (E 0, 400, .inl u.1)), ((wa 1), .inl (E 0, 400, .inl u.2.1)), ((wa 2), .inl (E 0, 400, .inl u.2.2.1)), ((wa 3), .inl (E 0, 400, .inl u.2.2.2.1))])) (va_A [(xh, .inr (8, G8 xa xtrialRule xdropRule xtoday)), ((xa 1), .inl (E 0, 16, .inl xf1)), ((xa 2), .inl (E 0, 16, .inl xf2)), ((xa 3), .inl (E 3, 16, .inr (.inr (.inr (.inr xf3))))), (wh, .inr (7, G7 wa)), ((wa 0), .inl (E 0, 400, .inl wf0)), ((wa 1), .inl (E 0, 400, .inl wf1)), ((wa 2), .inl (E 0, 400, .inl wf2)), ((wa 3), .inl (E 0, 400, .inl wf3))] sz)) 0 0 (va_A [(xh, .inr (8, G8 xa xtrialRule xdropRule xtoday)), ((xa 1), .inl (E 0, 16, .inl xf1)), ((xa 2), .inl (E 0, 16, .inl xf2)), ((xa 3), .inl (E 3, 16, .inr (.inr (.inr (.inr xf3))))), (wh, .inr (7, G7 wa)), ((wa 0), .inl (E 0, 400, .inl wf0)), ((wa 1), .inl (E 0, 400, .inl wf1)), ((wa 2), .inl (E 0, 400, .inl wf2)), ((wa 3), .inl (E 0, 400, .inl wf3))] sz) := by
  refine Met.ofW (cc := cX8_put) (maxL := 4) (ret := (some .int)) (by decide) rfl ?_
  intro p e s m args below meth c s₁ B hml hv
  obtain ⟨rfl, hsz, hP, hK, hD0⟩ := hv
  have hx := B.exec; have hb := B.bytes; have hr := B.returns
  have hts := atoms_spec (ws := wl yX8_put cX8_put 4 (some .int)) B.pre
  have htb : ∀ w ∈ tb, w.before _ s = true := fun w h => hts w (List.mem_cons_of_mem _ h)
  have hown : s.vm.findClass RX8 = some m.cls := findClass_of_methodNamed B.named
  have hlocks := B.notSynchronized
  subst hsz
  have hD := hD0.self (sz := s.heap.size)
  generalize hAe : va_A [(xh, .inr (8, G8 xa xtrialRule xdropRule xtoday)), ((xa 1), .inl (E 0, 16, .inl xf1)), ((xa 2), .inl (E 0, 16, .inl xf2)), ((xa 3), .inl (E 3, 16, .inr (.inr (.inr (.inr xf3))))), (wh, .inr (7, G7 wa)), ((wa 0), .inl (E 0, 400, .inl wf0)), ((wa 1), .inl (E 0, 400, .inl wf1)), ((wa 2), .inl (E 0, 400, .inl wf2)), ((wa 3), .inl (E 0, 400, .inl wf3))] s.heap.size = A at hD ⊢
  have hA : ∀ q : Nat, s.heap.size ≤ q → A q := fun q h => by rw [← hAe]; exact Or.inr h
  have hS : va_S A s.heap s.heap [] := va_S.rf
  have hP : va_P D vwCl [(xh, .inr (8, G8 xa xtrialRule xdropRule xtoday)), ((xa 1), .inl (E 0, 16, .inl xf1)), ((xa 2), .inl (E 0, 16, .inl xf2)), ((xa 3), .inl (E 3, 16, .inr (.inr (.inr (.inr xf3))))), (wh, .inr (7, G7 wa)), ((wa 0), .inl (E 0, 400, .inl wf0)), ((wa 1), .inl (E 0, 400, .inl wf1)), ((wa 2), .inl (E 0, 400, .inl wf2)), ((wa 3), .inl (E 0, 400, .inl wf3))] s.heap := hP
  have hl := lv_entry ([.ref xh, .int p0, .int p1, .int p2]) (n := 4) (Nat.le_of_ble_eq_true rfl)
  rw [lg_entry_eq]
  generalize (lg_sl ([.ref xh, .int p0, .int p1, .int p2]) ++ List.replicate (4 - (lg_sl ([.ref xh, .int p0, .int p1, .int p2])).length) Slot.unset).toArray = ls at hl ⊢
  have hl : lv_has ls 4 [(0, .ref xh), (1, .int p0), (2, .int p1), (3, .int p2)] := hl
  have lo_p0 := i_lo p0; have hi_p0 := i_hi p0
  have lo_p1 := i_lo p1; have hi_p1 := i_hi p1
  have lo_p2 := i_lo p2; have hi_p2 := i_hi p2
  refine lv_iload_n hx hb dX8_put_0 rfl (lv_at hl 1 rfl) ?_
  refine callRS (rest := []) (As := [.int p0]) hx hb hml hown htb hK (g_X8_isPlace l D E p0 ) ok_X8_isPlace k_333 k_334 k_1 k_335 ⟨(Nat.le_of_ble_eq_true rfl), (Nat.le_of_ble_eq_true rfl)⟩ ⟨(Nat.le_of_ble_eq_true rfl), (Nat.le_of_ble_eq_true rfl)⟩ hl.1 (Nat.le_of_ble_eq_true rfl) rfl rfl dX8_put_1 (hP.sub (ws' := ([] : va_W)) [] rfl) (fun r_1 hw_2 => ?_)
  rcases hw_2 with ⟨hr_1, hw_2⟩ | ⟨hr_1, hw_2⟩
  ·
    refine W_top (y := .int 1) (by rw [hr_1]) ?_
    refine lv_if_eq (tgt := 15) hx hb dX8_put_4 (by decide) (fun c_4 => absurd c_4 (by decide)) (fun c_4 => ?_)
    refine lv_iload_n hx hb dX8_put_7 rfl (lv_at hl 2 rfl) ?_
    refine lv_iload_n hx hb dX8_put_8 rfl (lv_at hl 3 rfl) ?_
    refine callRS (rest := []) (As := [.int p1, .int p2]) hx hb hml hown htb hK (g_X8_fitsKind l D E p1 p2 ) ok_X8_fitsKind k_336 k_337 k_1 k_338 ⟨(Nat.le_of_ble_eq_true rfl), (Nat.le_of_ble_eq_true rfl)⟩ ⟨(Nat.le_of_ble_eq_true rfl), (Nat.le_of_ble_eq_true rfl)⟩ hl.1 (Nat.le_of_ble_eq_true rfl) rfl rfl dX8_put_9 (hP.sub (ws' := ([] : va_W)) [] rfl) (fun r_5 hw_6 => ?_)
    rcases hw_6 with ⟨hr_5, hw_6⟩ | ⟨hr_5, hw_6⟩
    ·
      refine W_top (y := .int 1) (by rw [hr_5]) ?_
      refine lv_if_ne (tgt := 17) hx hb dX8_put_12 (by decide) (fun c_8 => ?_) (fun c_8 => absurd c_8 (by decide))
      refine lv_aload_n hx hb dX8_put_17 rfl (lv_at hl 0 rfl) ?_
      refine va_get (D := D) (ci := 8) (v := .ref (xa 1)) (C := RX8) (T := TX8) (N := 14) hx hb htb iX8 hown hK.1 hP 0 rfl rfl 1 (by decide) (htb _ k_273) (fun _ h9 => h9) rfl dX8_put_18 ?_
      refine lv_iload_n hx hb dX8_put_21 rfl (lv_at hl 1 rfl) ?_
      refine va_iald hx hb hK.1 hP 1 0 rfl rfl (g_in rfl (by omega) (by omega)) dX8_put_22 ?_
      refine lv_topi (fun z_9 ez_9 => ?_)
      have kz_9 := congrArg Int32.toInt ez_9
      refine lv_bipush (v := (-5)) hx hb dX8_put_23 (by decide) ?_
      refine lv_icmp_eq (tgt := 31) hx hb dX8_put_25 (by decide) (fun c_10 => ?_) (fun c_10 => ?_)
      ·
        have ic_10 : z_9.toInt = -5 := (g_eq rfl t_m5).mp c_10
        clear c_10
        refine lv_aload_n hx hb dX8_put_31 rfl (lv_at hl 0 rfl) ?_
        refine va_get (D := D) (ci := 8) (v := .ref (xa 1)) (C := RX8) (T := TX8) (N := 14) hx hb htb iX8 hown hK.1 hP 0 rfl rfl 1 (by decide) (htb _ k_273) (fun _ h9 => h9) rfl dX8_put_32 ?_
        refine lv_iload_n hx hb dX8_put_35 rfl (lv_at hl 1 rfl) ?_
        refine lv_iload_n hx hb dX8_put_36 rfl (lv_at hl 2 rfl) ?_
        refine va_iast hx hb hK.1 hP hD hS 1 0 rfl rfl (g_in rfl (by omega) (by omega)) dX8_put_37 (fun H locs hP hD hS => ?_)
        have hP : va_P D vwCl [(xh, .inr (8, G8 xa xtrialRule xdropRule xtoday)), ((xa 1), .inl (E 0, 16, .inl (upd xf1 (p0 : Int32).toNatClampNeg p1))), ((xa 2), .inl (E 0, 16, .inl xf2)), ((xa 3), .inl (E 3, 16, .inr (.inr (.inr (.inr xf3))))), (wh, .inr (7, G7 wa)), ((wa 0), .inl (E 0, 400, .inl wf0)), ((wa 1), .inl (E 0, 400, .inl wf1)), ((wa 2), .inl (E 0, 400, .inl wf2)), ((wa 3), .inl (E 0, 400, .inl wf3))] H := hP
        have hD := toW hP hD rfl
        refine lv_aload_n hx hb dX8_put_38 rfl (lv_at hl 0 rfl) ?_
        refine va_get (D := D) (ci := 8) (v := .ref (xa 2)) (C := RX8) (T := TX8) (N := 14) hx hb htb iX8 hown hK.1 hP 0 rfl rfl 2 (by decide) (htb _ k_274) (fun _ h9 => h9) rfl dX8_put_39 ?_
        refine lv_iload_n hx hb dX8_put_42 rfl (lv_at hl 1 rfl) ?_
        refine lv_iload_n hx hb dX8_put_43 rfl (lv_at hl 3 rfl) ?_
        refine va_iast hx hb hK.1 hP hD hS 2 0 rfl rfl (g_in rfl (by omega) (by omega)) dX8_put_44 (fun H locs hP hD hS => ?_)
        have hP : va_P D vwCl [(xh, .inr (8, G8 xa xtrialRule xdropRule xtoday)), ((xa 1), .inl (E 0, 16, .inl (upd xf1 (p0 : Int32).toNatClampNeg p1))), ((xa 2), .inl (E 0, 16, .inl (upd xf2 (p0 : Int32).toNatClampNeg p2))), ((xa 3), .inl (E 3, 16, .inr (.inr (.inr (.inr xf3))))), (wh, .inr (7, G7 wa)), ((wa 0), .inl (E 0, 400, .inl wf0)), ((wa 1), .inl (E 0, 400, .inl wf1)), ((wa 2), .inl (E 0, 400, .inl wf2)), ((wa 3), .inl (E 0, 400, .inl wf3))] H := hP
        have hD := toW hP hD rfl
        refine lv_iload_n hx hb dX8_put_45 rfl (lv_at hl 2 rfl) ?_
        refine lv_iconst (v := 2) hx hb dX8_put_46 (by decide) ?_
        refine lv_icmp_eq (tgt := 55) hx hb dX8_put_47 (by decide) (fun c_11 => ?_) (fun c_11 => ?_)
        ·
          have ic_11 : p1.toInt = 2 := (g_eq rfl t_2).mp c_11
          clear c_11
          refine lv_iconst (v := 1) hx hb dX8_put_55 (by decide) ?_
          exfalso; omega
        ·
          have ic_11 : p1.toInt ≠ 2 := mt (g_eq rfl t_2).mpr c_11
          clear c_11
          refine lv_aload_n hx hb dX8_put_50 rfl (lv_at hl 0 rfl) ?_
          refine lv_iload_n hx hb dX8_put_51 rfl (lv_at hl 1 rfl) ?_
          have hPc := hP.sub (ws' := [(xh, .inr (8, G8 xa xtrialRule xdropRule xtoday)), ((xa 3), .inl (E 3, 16, .inr (.inr (.inr (.inr xf3))))), (wh, .inr (7, G7 wa)), ((wa 0), .inl (E 0, 400, .inl wf0)), ((wa 1), .inl (E 0, 400, .inl wf1)), ((wa 2), .inl (E 0, 400, .inl wf2)), ((wa 3), .inl (E 0, 400, .inl wf3))]) [0, 3, 4, 5, 6, 7, 8] rfl
          have hDc := hD.sub (ws' := [(xh, .inr (8, G8 xa xtrialRule xdropRule xtoday)), ((xa 3), .inl (E 3, 16, .inr (.inr (.inr (.inr xf3))))), (wh, .inr (7, G7 wa)), ((wa 0), .inl (E 0, 400, .inl wf0)), ((wa 1), .inl (E 0, 400, .inl wf1)), ((wa 2), .inl (E 0, 400, .inl wf2)), ((wa 3), .inl (E 0, 400, .inl wf3))]) [0, 3, 4, 5, 6, 7, 8] (by decide) rfl
          refine aft_v (runMV (rest := []) (As := [.int p0]) hx hb hml hown htb hK (g_X8_bringWatch_W l D E xh xa xtrialRule xdropRule xtoday xf3 wh wa wf0 wf1 wf2 wf3 p0 _ (by (try dsimp only); omega) (by (try dsimp only); omega) hw0) ok_X8_bringWatch k_339 k_341 ks_0 k_1 k_342 ⟨(Nat.le_of_ble_eq_true rfl), (Nat.le_of_ble_eq_true rfl)⟩ ⟨(Nat.le_of_ble_eq_true rfl), (Nat.le_of_ble_eq_true rfl)⟩ hl.1 (Nat.le_of_ble_eq_true rfl) rfl rfl dX8_put_52 hPc hDc rfl rfl 0 rfl) hP hD hS hA [0, 3, 4, 5, 6, 7, 8] [1, 2] (wr := [((xa 1), .inl (E 0, 16, .inl (upd xf1 (p0 : Int32).toNatClampNeg p1))), ((xa 2), .inl (E 0, 16, .inl (upd xf2 (p0 : Int32).toNatClampNeg p2)))]) rfl rfl (by decide) (by decide) (fun u_14 H locs hw_13 hP hD hS => ?_)
          clear hPc hDc
          obtain ⟨w_15, w_16, w_17, w_18⟩ := u_14
          try dsimp only at hw_13
          have hP : va_P D vwCl [((xa 1), .inl (E 0, 16, .inl (upd xf1 (p0 : Int32).toNatClampNeg p1))), ((xa 2), .inl (E 0, 16, .inl (upd xf2 (p0 : Int32).toNatClampNeg p2))), (xh, .inr (8, G8 xa xtrialRule xdropRule xtoday)), ((xa 3), .inl (E 3, 16, .inr (.inr (.inr (.inr xf3))))), (wh, .inr (7, G7 wa)), ((wa 0), .inl (E 0, 400, .inl w_15)), ((wa 1), .inl (E 0, 400, .inl w_16)), ((wa 2), .inl (E 0, 400, .inl w_17)), ((wa 3), .inl (E 0, 400, .inl w_18))] H := hP
          have hD := toW hP hD rfl
          refine lv_iconst (v := 1) hx hb dX8_put_55 (by decide) ?_
          have hP9 := hP.sub (ws' := [(xh, .inr (8, G8 xa xtrialRule xdropRule xtoday)), ((xa 1), .inl (E 0, 16, .inl (upd xf1 (p0 : Int32).toNatClampNeg p1))), ((xa 2), .inl (E 0, 16, .inl (upd xf2 (p0 : Int32).toNatClampNeg p2))), ((xa 3), .inl (E 3, 16, .inr (.inr (.inr (.inr xf3))))), (wh, .inr (7, G7 wa)), ((wa 0), .inl (E 0, 400, .inl w_15)), ((wa 1), .inl (E 0, 400, .inl w_16)), ((wa 2), .inl (E 0, 400, .inl w_17)), ((wa 3), .inl (E 0, 400, .inl w_18))]) [2, 0, 1, 3, 4, 5, 6, 7, 8] rfl
          have hD9 := hD.sub (ws' := [(xh, .inr (8, G8 xa xtrialRule xdropRule xtoday)), ((xa 1), .inl (E 0, 16, .inl (upd xf1 (p0 : Int32).toNatClampNeg p1))), ((xa 2), .inl (E 0, 16, .inl (upd xf2 (p0 : Int32).toNatClampNeg p2))), ((xa 3), .inl (E 3, 16, .inr (.inr (.inr (.inr xf3))))), (wh, .inr (7, G7 wa)), ((wa 0), .inl (E 0, 400, .inl w_15)), ((wa 1), .inl (E 0, 400, .inl w_16)), ((wa 2), .inl (E 0, 400, .inl w_17)), ((wa 3), .inl (E 0, 400, .inl w_18))]) [2, 0, 1, 3, 4, 5, 6, 7, 8] (by decide) rfl
          exact W.iret (v := 1) hx hb hr (fun t ht hW => ⟨⟨1, (w_15, w_16, w_17, w_18, (upd xf1 (p0 : Int32).toNatClampNeg p1), (upd xf2 (p0 : Int32).toNatClampNeg p2)), rfl, ⟨rfl, (by have hl0 := t_1; (try dsimp only); first | exact ⟨by omega, rfl, rfl, by assumption⟩)⟩, by rw [ht]; exact hP9, hD9⟩, hS.F ht⟩) hS.2.2 dX8_put_56
      ·
        have ic_10 : z_9.toInt ≠ -5 := mt (g_eq rfl t_m5).mpr c_10
        clear c_10
        refine lv_bipush (v := (-4)) hx hb dX8_put_28 (by decide) ?_
        exfalso; omega
    ·
      refine W_top (y := .int 0) (by rw [hr_5]) ?_
      refine lv_if_ne (tgt := 17) hx hb dX8_put_12 (by decide) (fun c_19 => absurd (by decide) c_19) (fun c_19 => ?_)
      refine lv_iconst (v := (-1)) hx hb dX8_put_15 (by decide) ?_
      exfalso; omega
  ·
    refine W_top (y := .int 0) (by rw [hr_1]) ?_
    refine lv_if_eq (tgt := 15) hx hb dX8_put_4 (by decide) (fun c_20 => ?_) (fun c_20 => absurd (by decide) c_20)
    refine lv_iconst (v := (-1)) hx hb dX8_put_15 (by decide) ?_
    exfalso; omega
set_option maxHeartbeats 4000000 in
set_option maxRecDepth 100000 in
theorem g_X8_put_M (l : Launch) (D : va_G) (E : Nat → Nat) (xh : Nat) (xa : Nat → Nat) (xtrialRule : Nat) (xdropRule : Nat) (xtoday : Int32) (xf1 : Nat → Int32) (xf2 : Nat → Int32) (xf3 : Nat → Option Nat) (p0 : Int32) (p1 : Int32) (p2 : Int32) (sz : Nat) (hi_x : (0 ≤ xtoday.toInt ∧ xtoday.toInt ≤ 399)) (hm : ((0 ≤ p0.toInt ∧ p0.toInt ≤ 15) ∧ ((p1.toInt = 0 ∧ p2.toInt = 0) ∨ (p1.toInt = 1 ∧ -50 ≤ p2.toInt ∧ p2.toInt ≤ 50) ∨ p1.toInt = 2) ∧ p1.toInt ≠ 2 ∧ (xf1 (p0).toNatClampNeg).toInt = -5)) (hw0 : xf3 (p0).toNatClampNeg = none) : Met l yX8_put (wl yX8_put cX8_put 4 (some .int)) (RM 3 5 1604) (mu_P D E [.ref xh, .int p0, .int p1, .int p2] [(xh, .inr (8, G8 xa xtrialRule xdropRule xtoday)), ((xa 1), .inl (E 0, 16, .inl xf1)), ((xa 2), .inl (E 0, 16, .inl xf2)), ((xa 3), .inl (E 3, 16, .inr (.inr (.inr (.inr xf3)))))] sz) (va_Qi (fun (r : Int32) (u : (Nat → Int32) × (Nat → Int32) × (Nat → Option Nat) × (Nat) × (Nat → Nat) × (Nat → Int32) × (Nat → Int32) × (Nat → Int32) × (Nat → Int32)) => (u.1 = upd xf1 (p0).toNatClampNeg p1) ∧ (u.2.2.1 = va_up xf3 (p0).toNatClampNeg (some u.2.2.2.1)) ∧ ((r.toInt = 1 ∧ u.1 = upd xf1 (p0).toNatClampNeg p1 ∧ u.2.1 = upd xf2 (p0).toNatClampNeg p2 ∧ NEW4 u.2.2.2.2.2.1 u.2.2.2.2.2.2.1 u.2.2.2.2.2.2.2.1 u.2.2.2.2.2.2.2.2 400))) (mu_B D (va_A [(xh, .inr (8, G8 xa xtrialRule xdropRule xtoday)), ((xa 1), .inl (E 0, 16, .inl xf1)), ((xa 2), .inl (E 0, 16, .inl xf2)), ((xa 3), .inl (E 3, 16, .inr (.inr (.inr (.inr xf3)))))] sz) (fun (u : (Nat → Int32) × (Nat → Int32) × (Nat → Option Nat) × (Nat) × (Nat → Nat) × (Nat → Int32) × (Nat → Int32) × (Nat → Int32) × (Nat → Int32)) => [(xh, .inr (8, G8 xa xtrialRule xdropRule xtoday)), ((xa 1), .inl (E 0, 16, .inl u.1)), ((xa 2), .inl (E 0, 16, .inl u.2.1)), ((xa 3), .inl (E 3, 16, .inr (.inr (.inr (.inr u.2.2.1))))), (u.2.2.2.1, .inr (7, G7 u.2.2.2.2.1)), ((u.2.2.2.2.1 0), .inl (E 0, 400, .inl u.2.2.2.2.2.1)), ((u.2.2.2.2.1 1), .inl (E 0, 400, .inl u.2.2.2.2.2.2.1)), ((u.2.2.2.2.1 2), .inl (E 0, 400, .inl u.2.2.2.2.2.2.2.1)), ((u.2.2.2.2.1 3), .inl (E 0, 400, .inl u.2.2.2.2.2.2.2.2))])) (va_A [(xh, .inr (8, G8 xa xtrialRule xdropRule xtoday)), ((xa 1), .inl (E 0, 16, .inl xf1)), ((xa 2), .inl (E 0, 16, .inl xf2)), ((xa 3), .inl (E 3, 16, .inr (.inr (.inr (.inr xf3)))))] sz)) 5 1604 (va_A [(xh, .inr (8, G8 xa xtrialRule xdropRule xtoday)), ((xa 1), .inl (E 0, 16, .inl xf1)), ((xa 2), .inl (E 0, 16, .inl xf2)), ((xa 3), .inl (E 3, 16, .inr (.inr (.inr (.inr xf3)))))] sz) := by
  refine Met.ofW (cc := cX8_put) (maxL := 4) (ret := (some .int)) (by decide) rfl ?_
  intro p e s m args below meth c s₁ B hml hv
  obtain ⟨rfl, hsz, hP, hK, hD0⟩ := hv
  have hx := B.exec; have hb := B.bytes; have hr := B.returns
  have hts := atoms_spec (ws := wl yX8_put cX8_put 4 (some .int)) B.pre
  have htb : ∀ w ∈ tb, w.before _ s = true := fun w h => hts w (List.mem_cons_of_mem _ h)
  have hown : s.vm.findClass RX8 = some m.cls := findClass_of_methodNamed B.named
  have hlocks := B.notSynchronized
  subst hsz
  have hD := hD0.self (sz := s.heap.size)
  generalize hAe : va_A [(xh, .inr (8, G8 xa xtrialRule xdropRule xtoday)), ((xa 1), .inl (E 0, 16, .inl xf1)), ((xa 2), .inl (E 0, 16, .inl xf2)), ((xa 3), .inl (E 3, 16, .inr (.inr (.inr (.inr xf3)))))] s.heap.size = A at hD ⊢
  have hA : ∀ q : Nat, s.heap.size ≤ q → A q := fun q h => by rw [← hAe]; exact Or.inr h
  have hS : va_S A s.heap s.heap [] := va_S.rf
  have hP : va_P D vwCl [(xh, .inr (8, G8 xa xtrialRule xdropRule xtoday)), ((xa 1), .inl (E 0, 16, .inl xf1)), ((xa 2), .inl (E 0, 16, .inl xf2)), ((xa 3), .inl (E 3, 16, .inr (.inr (.inr (.inr xf3)))))] s.heap := hP
  have hl := lv_entry ([.ref xh, .int p0, .int p1, .int p2]) (n := 4) (Nat.le_of_ble_eq_true rfl)
  rw [lg_entry_eq]
  generalize (lg_sl ([.ref xh, .int p0, .int p1, .int p2]) ++ List.replicate (4 - (lg_sl ([.ref xh, .int p0, .int p1, .int p2])).length) Slot.unset).toArray = ls at hl ⊢
  have hl : lv_has ls 4 [(0, .ref xh), (1, .int p0), (2, .int p1), (3, .int p2)] := hl
  have lo_p0 := i_lo p0; have hi_p0 := i_hi p0
  have lo_p1 := i_lo p1; have hi_p1 := i_hi p1
  have lo_p2 := i_lo p2; have hi_p2 := i_hi p2
  refine lv_iload_n hx hb dX8_put_0 rfl (lv_at hl 1 rfl) ?_
  refine callRS (rest := []) (As := [.int p0]) hx hb hml hown htb hK (g_X8_isPlace l D E p0 ) ok_X8_isPlace k_333 k_334 k_1 k_335 ⟨(Nat.le_of_ble_eq_true rfl), (Nat.le_of_ble_eq_true rfl)⟩ ⟨(Nat.le_of_ble_eq_true rfl), (Nat.le_of_ble_eq_true rfl)⟩ hl.1 (Nat.le_of_ble_eq_true rfl) rfl rfl dX8_put_1 (hP.sub (ws' := ([] : va_W)) [] rfl) (fun r_1 hw_2 => ?_)
  rcases hw_2 with ⟨hr_1, hw_2⟩ | ⟨hr_1, hw_2⟩
  ·
    refine W_top (y := .int 1) (by rw [hr_1]) ?_
    refine lv_if_eq (tgt := 15) hx hb dX8_put_4 (by decide) (fun c_4 => absurd c_4 (by decide)) (fun c_4 => ?_)
    refine lv_iload_n hx hb dX8_put_7 rfl (lv_at hl 2 rfl) ?_
    refine lv_iload_n hx hb dX8_put_8 rfl (lv_at hl 3 rfl) ?_
    refine callRS (rest := []) (As := [.int p1, .int p2]) hx hb hml hown htb hK (g_X8_fitsKind l D E p1 p2 ) ok_X8_fitsKind k_336 k_337 k_1 k_338 ⟨(Nat.le_of_ble_eq_true rfl), (Nat.le_of_ble_eq_true rfl)⟩ ⟨(Nat.le_of_ble_eq_true rfl), (Nat.le_of_ble_eq_true rfl)⟩ hl.1 (Nat.le_of_ble_eq_true rfl) rfl rfl dX8_put_9 (hP.sub (ws' := ([] : va_W)) [] rfl) (fun r_5 hw_6 => ?_)
    rcases hw_6 with ⟨hr_5, hw_6⟩ | ⟨hr_5, hw_6⟩
    ·
      refine W_top (y := .int 1) (by rw [hr_5]) ?_
      refine lv_if_ne (tgt := 17) hx hb dX8_put_12 (by decide) (fun c_8 => ?_) (fun c_8 => absurd c_8 (by decide))
      refine lv_aload_n hx hb dX8_put_17 rfl (lv_at hl 0 rfl) ?_
      refine va_get (D := D) (ci := 8) (v := .ref (xa 1)) (C := RX8) (T := TX8) (N := 14) hx hb htb iX8 hown hK.1 hP 0 rfl rfl 1 (by decide) (htb _ k_273) (fun _ h9 => h9) rfl dX8_put_18 ?_
      refine lv_iload_n hx hb dX8_put_21 rfl (lv_at hl 1 rfl) ?_
      refine va_iald hx hb hK.1 hP 1 0 rfl rfl (g_in rfl (by omega) (by omega)) dX8_put_22 ?_
      refine lv_topi (fun z_9 ez_9 => ?_)
      have kz_9 := congrArg Int32.toInt ez_9
      refine lv_bipush (v := (-5)) hx hb dX8_put_23 (by decide) ?_
      refine lv_icmp_eq (tgt := 31) hx hb dX8_put_25 (by decide) (fun c_10 => ?_) (fun c_10 => ?_)
      ·
        have ic_10 : z_9.toInt = -5 := (g_eq rfl t_m5).mp c_10
        clear c_10
        refine lv_aload_n hx hb dX8_put_31 rfl (lv_at hl 0 rfl) ?_
        refine va_get (D := D) (ci := 8) (v := .ref (xa 1)) (C := RX8) (T := TX8) (N := 14) hx hb htb iX8 hown hK.1 hP 0 rfl rfl 1 (by decide) (htb _ k_273) (fun _ h9 => h9) rfl dX8_put_32 ?_
        refine lv_iload_n hx hb dX8_put_35 rfl (lv_at hl 1 rfl) ?_
        refine lv_iload_n hx hb dX8_put_36 rfl (lv_at hl 2 rfl) ?_
        refine va_iast hx hb hK.1 hP hD hS 1 0 rfl rfl (g_in rfl (by omega) (by omega)) dX8_put_37 (fun H locs hP hD hS => ?_)
        have hP : va_P D vwCl [(xh, .inr (8, G8 xa xtrialRule xdropRule xtoday)), ((xa 1), .inl (E 0, 16, .inl (upd xf1 (p0 : Int32).toNatClampNeg p1))), ((xa 2), .inl (E 0, 16, .inl xf2)), ((xa 3), .inl (E 3, 16, .inr (.inr (.inr (.inr xf3)))))] H := hP
        have hD := toW hP hD rfl
        refine lv_aload_n hx hb dX8_put_38 rfl (lv_at hl 0 rfl) ?_
        refine va_get (D := D) (ci := 8) (v := .ref (xa 2)) (C := RX8) (T := TX8) (N := 14) hx hb htb iX8 hown hK.1 hP 0 rfl rfl 2 (by decide) (htb _ k_274) (fun _ h9 => h9) rfl dX8_put_39 ?_
        refine lv_iload_n hx hb dX8_put_42 rfl (lv_at hl 1 rfl) ?_
        refine lv_iload_n hx hb dX8_put_43 rfl (lv_at hl 3 rfl) ?_
        refine va_iast hx hb hK.1 hP hD hS 2 0 rfl rfl (g_in rfl (by omega) (by omega)) dX8_put_44 (fun H locs hP hD hS => ?_)
        have hP : va_P D vwCl [(xh, .inr (8, G8 xa xtrialRule xdropRule xtoday)), ((xa 1), .inl (E 0, 16, .inl (upd xf1 (p0 : Int32).toNatClampNeg p1))), ((xa 2), .inl (E 0, 16, .inl (upd xf2 (p0 : Int32).toNatClampNeg p2))), ((xa 3), .inl (E 3, 16, .inr (.inr (.inr (.inr xf3)))))] H := hP
        have hD := toW hP hD rfl
        refine lv_iload_n hx hb dX8_put_45 rfl (lv_at hl 2 rfl) ?_
        refine lv_iconst (v := 2) hx hb dX8_put_46 (by decide) ?_
        refine lv_icmp_eq (tgt := 55) hx hb dX8_put_47 (by decide) (fun c_11 => ?_) (fun c_11 => ?_)
        ·
          have ic_11 : p1.toInt = 2 := (g_eq rfl t_2).mp c_11
          clear c_11
          refine lv_iconst (v := 1) hx hb dX8_put_55 (by decide) ?_
          exfalso; omega
        ·
          have ic_11 : p1.toInt ≠ 2 := mt (g_eq rfl t_2).mpr c_11
          clear c_11
          refine lv_aload_n hx hb dX8_put_50 rfl (lv_at hl 0 rfl) ?_
          refine lv_iload_n hx hb dX8_put_51 rfl (lv_at hl 1 rfl) ?_
          have hPc := hP.sub (ws' := [(xh, .inr (8, G8 xa xtrialRule xdropRule xtoday)), ((xa 3), .inl (E 3, 16, .inr (.inr (.inr (.inr xf3)))))]) [0, 3] rfl
          have hDc := hD.sub (ws' := [(xh, .inr (8, G8 xa xtrialRule xdropRule xtoday)), ((xa 3), .inl (E 3, 16, .inr (.inr (.inr (.inr xf3)))))]) [0, 3] (by decide) rfl
          refine aft_v (runMV (rest := []) (As := [.int p0]) hx hb hml hown htb hK (g_X8_bringWatch_M l D E xh xa xtrialRule xdropRule xtoday xf3 p0 _ (by (try dsimp only); omega) (by (try dsimp only); omega) hw0) ok_X8_bringWatch k_339 k_341 ks_0 k_1 k_342 ⟨(Nat.le_of_ble_eq_true rfl), (Nat.le_of_ble_eq_true rfl)⟩ ⟨(Nat.le_of_ble_eq_true rfl), (Nat.le_of_ble_eq_true rfl)⟩ hl.1 (Nat.le_of_ble_eq_true rfl) rfl rfl dX8_put_52 hPc hDc rfl rfl 0 rfl) hP hD hS hA [0, 3] [1, 2] (wr := [((xa 1), .inl (E 0, 16, .inl (upd xf1 (p0 : Int32).toNatClampNeg p1))), ((xa 2), .inl (E 0, 16, .inl (upd xf2 (p0 : Int32).toNatClampNeg p2)))]) rfl rfl (by decide) (by decide) (fun u_14 H locs hw_13 hP hD hS => ?_)
          clear hPc hDc
          obtain ⟨w_15, w_16, w_17, w_18, w_19, w_20, w_21⟩ := u_14
          try dsimp only at hw_13
          have hP : va_P D vwCl [((xa 1), .inl (E 0, 16, .inl (upd xf1 (p0 : Int32).toNatClampNeg p1))), ((xa 2), .inl (E 0, 16, .inl (upd xf2 (p0 : Int32).toNatClampNeg p2))), (xh, .inr (8, G8 xa xtrialRule xdropRule xtoday)), ((xa 3), .inl (E 3, 16, .inr (.inr (.inr (.inr w_15))))), (w_16, .inr (7, G7 w_17)), ((w_17 0), .inl (E 0, 400, .inl w_18)), ((w_17 1), .inl (E 0, 400, .inl w_19)), ((w_17 2), .inl (E 0, 400, .inl w_20)), ((w_17 3), .inl (E 0, 400, .inl w_21))] H := hP
          have hD := toW hP hD rfl
          refine W.widen (k := 5) (n := 1604) (Nat.le_of_ble_eq_true rfl) (Nat.le_of_ble_eq_true rfl) ?_
          obtain ⟨hw_13_0, hw_13_1⟩ := hw_13
          refine lv_iconst (v := 1) hx hb dX8_put_55 (by decide) ?_
          have hP9 := hP.sub (ws' := [(xh, .inr (8, G8 xa xtrialRule xdropRule xtoday)), ((xa 1), .inl (E 0, 16, .inl (upd xf1 (p0 : Int32).toNatClampNeg p1))), ((xa 2), .inl (E 0, 16, .inl (upd xf2 (p0 : Int32).toNatClampNeg p2))), ((xa 3), .inl (E 3, 16, .inr (.inr (.inr (.inr w_15))))), (w_16, .inr (7, G7 w_17)), ((w_17 0), .inl (E 0, 400, .inl w_18)), ((w_17 1), .inl (E 0, 400, .inl w_19)), ((w_17 2), .inl (E 0, 400, .inl w_20)), ((w_17 3), .inl (E 0, 400, .inl w_21))]) [2, 0, 1, 3, 4, 5, 6, 7, 8] rfl
          have hD9 := hD.sub (ws' := [(xh, .inr (8, G8 xa xtrialRule xdropRule xtoday)), ((xa 1), .inl (E 0, 16, .inl (upd xf1 (p0 : Int32).toNatClampNeg p1))), ((xa 2), .inl (E 0, 16, .inl (upd xf2 (p0 : Int32).toNatClampNeg p2))), ((xa 3), .inl (E 3, 16, .inr (.inr (.inr (.inr w_15))))), (w_16, .inr (7, G7 w_17)), ((w_17 0), .inl (E 0, 400, .inl w_18)), ((w_17 1), .inl (E 0, 400, .inl w_19)), ((w_17 2), .inl (E 0, 400, .inl w_20)), ((w_17 3), .inl (E 0, 400, .inl w_21))]) [2, 0, 1, 3, 4, 5, 6, 7, 8] (by decide) rfl
          exact W.iret (v := 1) hx hb hr (fun t ht hW => ⟨⟨1, ((upd xf1 (p0 : Int32).toNatClampNeg p1), (upd xf2 (p0 : Int32).toNatClampNeg p2), w_15, w_16, w_17, w_18, w_19, w_20, w_21), rfl, ⟨rfl, hw_13_1, (by have hl0 := t_1; (try dsimp only); first | exact ⟨by omega, rfl, rfl, by assumption⟩)⟩, by rw [ht]; exact hP9, hD9⟩, hS.F ht⟩) hS.2.2 dX8_put_56
      ·
        have ic_10 : z_9.toInt ≠ -5 := mt (g_eq rfl t_m5).mpr c_10
        clear c_10
        refine lv_bipush (v := (-4)) hx hb dX8_put_28 (by decide) ?_
        exfalso; omega
    ·
      refine W_top (y := .int 0) (by rw [hr_5]) ?_
      refine lv_if_ne (tgt := 17) hx hb dX8_put_12 (by decide) (fun c_22 => absurd (by decide) c_22) (fun c_22 => ?_)
      refine lv_iconst (v := (-1)) hx hb dX8_put_15 (by decide) ?_
      exfalso; omega
  ·
    refine W_top (y := .int 0) (by rw [hr_1]) ?_
    refine lv_if_eq (tgt := 15) hx hb dX8_put_4 (by decide) (fun c_23 => ?_) (fun c_23 => absurd (by decide) c_23)
    refine lv_iconst (v := (-1)) hx hb dX8_put_15 (by decide) ?_
    exfalso; omega
